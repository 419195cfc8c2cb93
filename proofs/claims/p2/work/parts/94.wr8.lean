set_option maxRecDepth 20000 in
theorem w_6_33 : (Jvm.Cond.fieldLink "AssembleLinesModel" (441 : Nat) "AssembleLinesModel" "words" "I") ∈ b_Ws := bw_6 (List.mem_of_getElem? (i := 33) rfl) rfl
set_option maxRecDepth 20000 in
theorem w_7_170 : (Jvm.Cond.methodLink "AssembleLinesModel" (409 : Nat) ({ cls := "AssembleLinesModel", name := "literalsBefore", desc := "(I)I" } : Jvm.MethodName)) ∈ b_Ws := bw_7 (List.mem_of_getElem? (i := 170) rfl) rfl
set_option maxRecDepth 20000 in
theorem w_7_172 : (Jvm.Cond.instanceMethod ({ cls := "AssembleLinesModel", name := "literalsBefore", desc := "(I)I" } : Jvm.MethodName)) ∈ b_Ws := bw_7 (List.mem_of_getElem? (i := 172) rfl) rfl
set_option maxRecDepth 20000 in
theorem w_7_173 : (Jvm.Cond.code ({ cls := "AssembleLinesModel", name := "literalsBefore", desc := "(I)I" } : Jvm.MethodName) prog_15_method_52_code (4 : Nat) (Option.some Jvm.ClassFile.FieldType.int)) ∈ b_Ws := bw_7 (List.mem_of_getElem? (i := 173) rfl) rfl
set_option maxRecDepth 20000 in
theorem w_7_190 : (Jvm.Cond.constant "AssembleLinesModel" (434 : Nat) (65535 : Int32)) ∈ b_Ws := bw_7 (List.mem_of_getElem? (i := 190) rfl) rfl
theorem dX13_takeArguments_0 : decode cX13_takeArguments 0 = .ok (.aload_n 0, 1) := by decide +kernel
theorem dX13_takeArguments_1 : decode cX13_takeArguments 1 = .ok (.invokevirtual 232, 3) := by decide +kernel
theorem dX13_takeArguments_4 : decode cX13_takeArguments 4 = .ok (.aload_n 0, 1) := by decide +kernel
theorem dX13_takeArguments_5 : decode cX13_takeArguments 5 = .ok (.getfield 189, 3) := by decide +kernel
theorem dX13_takeArguments_8 : decode cX13_takeArguments 8 = .ok (.aload_n 0, 1) := by decide +kernel
theorem dX13_takeArguments_9 : decode cX13_takeArguments 9 = .ok (.getfield 192, 3) := by decide +kernel
theorem dX13_takeArguments_12 : decode cX13_takeArguments 12 = .ok (.if_icmp .ne 5, 3) := by decide +kernel
theorem dX13_takeArguments_15 : decode cX13_takeArguments 15 = .ok (.iconst 0, 1) := by decide +kernel
theorem dX13_takeArguments_16 : decode cX13_takeArguments 16 = .ok (.ireturn, 1) := by decide +kernel
theorem dX13_takeArguments_17 : decode cX13_takeArguments 17 = .ok (.iconst 0, 1) := by decide +kernel
theorem dX13_takeArguments_18 : decode cX13_takeArguments 18 = .ok (.istore_n 1, 1) := by decide +kernel
theorem dX13_takeArguments_19 : decode cX13_takeArguments 19 = .ok (.iconst 1, 1) := by decide +kernel
theorem dX13_takeArguments_20 : decode cX13_takeArguments 20 = .ok (.istore_n 2, 1) := by decide +kernel
theorem dX13_takeArguments_21 : decode cX13_takeArguments 21 = .ok (.iload_n 2, 1) := by decide +kernel
theorem dX13_takeArguments_22 : decode cX13_takeArguments 22 = .ok (.ifCond .eq 135, 3) := by decide +kernel
theorem dX13_takeArguments_25 : decode cX13_takeArguments 25 = .ok (.aload_n 0, 1) := by decide +kernel
theorem dX13_takeArguments_26 : decode cX13_takeArguments 26 = .ok (.invokevirtual 232, 3) := by decide +kernel
theorem dX13_takeArguments_29 : decode cX13_takeArguments 29 = .ok (.aload_n 0, 1) := by decide +kernel
theorem dX13_takeArguments_30 : decode cX13_takeArguments 30 = .ok (.getfield 189, 3) := by decide +kernel
theorem dX13_takeArguments_33 : decode cX13_takeArguments 33 = .ok (.istore_n 3, 1) := by decide +kernel
theorem dX13_takeArguments_34 : decode cX13_takeArguments 34 = .ok (.aload_n 0, 1) := by decide +kernel
theorem dX13_takeArguments_35 : decode cX13_takeArguments 35 = .ok (.getfield 189, 3) := by decide +kernel
theorem dX13_takeArguments_38 : decode cX13_takeArguments 38 = .ok (.aload_n 0, 1) := by decide +kernel
theorem dX13_takeArguments_39 : decode cX13_takeArguments 39 = .ok (.getfield 192, 3) := by decide +kernel
theorem dX13_takeArguments_42 : decode cX13_takeArguments 42 = .ok (.if_icmp .ge 30, 3) := by decide +kernel
theorem dX13_takeArguments_45 : decode cX13_takeArguments 45 = .ok (.aload_n 0, 1) := by decide +kernel
theorem dX13_takeArguments_46 : decode cX13_takeArguments 46 = .ok (.getfield 49, 3) := by decide +kernel
theorem dX13_takeArguments_49 : decode cX13_takeArguments 49 = .ok (.aload_n 0, 1) := by decide +kernel
theorem dX13_takeArguments_50 : decode cX13_takeArguments 50 = .ok (.getfield 189, 3) := by decide +kernel
theorem dX13_takeArguments_53 : decode cX13_takeArguments 53 = .ok (.iaload, 1) := by decide +kernel
theorem dX13_takeArguments_54 : decode cX13_takeArguments 54 = .ok (.bipush 44, 2) := by decide +kernel
theorem dX13_takeArguments_56 : decode cX13_takeArguments 56 = .ok (.if_icmp .eq 16, 3) := by decide +kernel
theorem dX13_takeArguments_59 : decode cX13_takeArguments 59 = .ok (.aload_n 0, 1) := by decide +kernel
theorem dX13_takeArguments_60 : decode cX13_takeArguments 60 = .ok (.dup, 1) := by decide +kernel
theorem dX13_takeArguments_61 : decode cX13_takeArguments 61 = .ok (.getfield 189, 3) := by decide +kernel
theorem dX13_takeArguments_64 : decode cX13_takeArguments 64 = .ok (.iconst 1, 1) := by decide +kernel
theorem dX13_takeArguments_65 : decode cX13_takeArguments 65 = .ok (.iadd, 1) := by decide +kernel
theorem dX13_takeArguments_66 : decode cX13_takeArguments 66 = .ok (.putfield 189, 3) := by decide +kernel
theorem dX13_takeArguments_69 : decode cX13_takeArguments 69 = .ok (.goto (-35), 3) := by decide +kernel
theorem dX13_takeArguments_72 : decode cX13_takeArguments 72 = .ok (.aload_n 0, 1) := by decide +kernel
theorem dX13_takeArguments_73 : decode cX13_takeArguments 73 = .ok (.getfield 189, 3) := by decide +kernel
theorem dX13_takeArguments_76 : decode cX13_takeArguments 76 = .ok (.istore 4, 2) := by decide +kernel
theorem dX13_takeArguments_78 : decode cX13_takeArguments 78 = .ok (.iload 4, 2) := by decide +kernel
theorem dX13_takeArguments_80 : decode cX13_takeArguments 80 = .ok (.iload_n 3, 1) := by decide +kernel
theorem dX13_takeArguments_81 : decode cX13_takeArguments 81 = .ok (.if_icmp .le 23, 3) := by decide +kernel
theorem dX13_takeArguments_84 : decode cX13_takeArguments 84 = .ok (.aload_n 0, 1) := by decide +kernel
theorem dX13_takeArguments_85 : decode cX13_takeArguments 85 = .ok (.getfield 49, 3) := by decide +kernel
theorem dX13_takeArguments_88 : decode cX13_takeArguments 88 = .ok (.iload 4, 2) := by decide +kernel
theorem dX13_takeArguments_90 : decode cX13_takeArguments 90 = .ok (.iconst 1, 1) := by decide +kernel
theorem dX13_takeArguments_91 : decode cX13_takeArguments 91 = .ok (.isub, 1) := by decide +kernel
theorem dX13_takeArguments_92 : decode cX13_takeArguments 92 = .ok (.iaload, 1) := by decide +kernel
theorem dX13_takeArguments_93 : decode cX13_takeArguments 93 = .ok (.bipush 32, 2) := by decide +kernel
theorem dX13_takeArguments_95 : decode cX13_takeArguments 95 = .ok (.if_icmp .ne 9, 3) := by decide +kernel
theorem dX13_takeArguments_98 : decode cX13_takeArguments 98 = .ok (.iinc 4 (-1), 3) := by decide +kernel
theorem dX13_takeArguments_101 : decode cX13_takeArguments 101 = .ok (.goto (-23), 3) := by decide +kernel
theorem dX13_takeArguments_104 : decode cX13_takeArguments 104 = .ok (.iload_n 1, 1) := by decide +kernel
theorem dX13_takeArguments_105 : decode cX13_takeArguments 105 = .ok (.iconst 4, 1) := by decide +kernel
theorem dX13_takeArguments_106 : decode cX13_takeArguments 106 = .ok (.if_icmp .ge 18, 3) := by decide +kernel
theorem dX13_takeArguments_109 : decode cX13_takeArguments 109 = .ok (.aload_n 0, 1) := by decide +kernel
theorem dX13_takeArguments_110 : decode cX13_takeArguments 110 = .ok (.getfield 126, 3) := by decide +kernel
theorem dX13_takeArguments_113 : decode cX13_takeArguments 113 = .ok (.iload_n 1, 1) := by decide +kernel
theorem dX13_takeArguments_114 : decode cX13_takeArguments 114 = .ok (.iload_n 3, 1) := by decide +kernel
theorem dX13_takeArguments_115 : decode cX13_takeArguments 115 = .ok (.iastore, 1) := by decide +kernel
theorem dX13_takeArguments_116 : decode cX13_takeArguments 116 = .ok (.aload_n 0, 1) := by decide +kernel
theorem dX13_takeArguments_117 : decode cX13_takeArguments 117 = .ok (.getfield 129, 3) := by decide +kernel
theorem dX13_takeArguments_120 : decode cX13_takeArguments 120 = .ok (.iload_n 1, 1) := by decide +kernel
theorem dX13_takeArguments_121 : decode cX13_takeArguments 121 = .ok (.iload 4, 2) := by decide +kernel
theorem dX13_takeArguments_123 : decode cX13_takeArguments 123 = .ok (.iastore, 1) := by decide +kernel
theorem dX13_takeArguments_124 : decode cX13_takeArguments 124 = .ok (.iinc 1 1, 3) := by decide +kernel
theorem dX13_takeArguments_127 : decode cX13_takeArguments 127 = .ok (.aload_n 0, 1) := by decide +kernel
theorem dX13_takeArguments_128 : decode cX13_takeArguments 128 = .ok (.getfield 189, 3) := by decide +kernel
theorem dX13_takeArguments_131 : decode cX13_takeArguments 131 = .ok (.aload_n 0, 1) := by decide +kernel
theorem dX13_takeArguments_132 : decode cX13_takeArguments 132 = .ok (.getfield 192, 3) := by decide +kernel
theorem dX13_takeArguments_135 : decode cX13_takeArguments 135 = .ok (.if_icmp .ge 7, 3) := by decide +kernel
theorem dX13_takeArguments_138 : decode cX13_takeArguments 138 = .ok (.iconst 1, 1) := by decide +kernel
theorem dX13_takeArguments_139 : decode cX13_takeArguments 139 = .ok (.goto 4, 3) := by decide +kernel
theorem dX13_takeArguments_142 : decode cX13_takeArguments 142 = .ok (.iconst 0, 1) := by decide +kernel
theorem dX13_takeArguments_143 : decode cX13_takeArguments 143 = .ok (.istore_n 2, 1) := by decide +kernel
theorem dX13_takeArguments_144 : decode cX13_takeArguments 144 = .ok (.aload_n 0, 1) := by decide +kernel
theorem dX13_takeArguments_145 : decode cX13_takeArguments 145 = .ok (.dup, 1) := by decide +kernel
theorem dX13_takeArguments_146 : decode cX13_takeArguments 146 = .ok (.getfield 189, 3) := by decide +kernel
theorem dX13_takeArguments_149 : decode cX13_takeArguments 149 = .ok (.iconst 1, 1) := by decide +kernel
theorem dX13_takeArguments_150 : decode cX13_takeArguments 150 = .ok (.iadd, 1) := by decide +kernel
theorem dX13_takeArguments_151 : decode cX13_takeArguments 151 = .ok (.putfield 189, 3) := by decide +kernel
theorem dX13_takeArguments_154 : decode cX13_takeArguments 154 = .ok (.goto (-133), 3) := by decide +kernel
theorem dX13_takeArguments_157 : decode cX13_takeArguments 157 = .ok (.aload_n 0, 1) := by decide +kernel
theorem dX13_takeArguments_158 : decode cX13_takeArguments 158 = .ok (.aload_n 0, 1) := by decide +kernel
theorem dX13_takeArguments_159 : decode cX13_takeArguments 159 = .ok (.getfield 207, 3) := by decide +kernel
theorem dX13_takeArguments_162 : decode cX13_takeArguments 162 = .ok (.ifCond .ne 8, 3) := by decide +kernel
theorem dX13_takeArguments_165 : decode cX13_takeArguments 165 = .ok (.iload_n 1, 1) := by decide +kernel
theorem dX13_takeArguments_166 : decode cX13_takeArguments 166 = .ok (.iconst 4, 1) := by decide +kernel
theorem dX13_takeArguments_167 : decode cX13_takeArguments 167 = .ok (.if_icmp .le 7, 3) := by decide +kernel
theorem dX13_takeArguments_170 : decode cX13_takeArguments 170 = .ok (.iconst 1, 1) := by decide +kernel
theorem dX13_takeArguments_171 : decode cX13_takeArguments 171 = .ok (.goto 4, 3) := by decide +kernel
theorem dX13_takeArguments_174 : decode cX13_takeArguments 174 = .ok (.iconst 0, 1) := by decide +kernel
theorem dX13_takeArguments_175 : decode cX13_takeArguments 175 = .ok (.putfield 207, 3) := by decide +kernel
theorem dX13_takeArguments_178 : decode cX13_takeArguments 178 = .ok (.iload_n 1, 1) := by decide +kernel
theorem dX13_takeArguments_179 : decode cX13_takeArguments 179 = .ok (.ireturn, 1) := by decide +kernel
theorem dX13_literalsBefore_0 : decode cX13_literalsBefore 0 = .ok (.iconst 0, 1) := by decide +kernel
theorem dX13_literalsBefore_1 : decode cX13_literalsBefore 1 = .ok (.istore_n 2, 1) := by decide +kernel
theorem dX13_literalsBefore_2 : decode cX13_literalsBefore 2 = .ok (.iload_n 1, 1) := by decide +kernel
theorem dX13_literalsBefore_3 : decode cX13_literalsBefore 3 = .ok (.iconst 1, 1) := by decide +kernel
theorem dX13_literalsBefore_4 : decode cX13_literalsBefore 4 = .ok (.isub, 1) := by decide +kernel
theorem dX13_literalsBefore_5 : decode cX13_literalsBefore 5 = .ok (.istore_n 3, 1) := by decide +kernel
theorem dX13_literalsBefore_6 : decode cX13_literalsBefore 6 = .ok (.iload_n 3, 1) := by decide +kernel
theorem dX13_literalsBefore_7 : decode cX13_literalsBefore 7 = .ok (.ifCond .lt 39, 3) := by decide +kernel
theorem dX13_literalsBefore_10 : decode cX13_literalsBefore 10 = .ok (.aload_n 0, 1) := by decide +kernel
theorem dX13_literalsBefore_11 : decode cX13_literalsBefore 11 = .ok (.getfield 88, 3) := by decide +kernel
theorem dX13_literalsBefore_14 : decode cX13_literalsBefore 14 = .ok (.iload_n 3, 1) := by decide +kernel
theorem dX13_literalsBefore_15 : decode cX13_literalsBefore 15 = .ok (.iaload, 1) := by decide +kernel
theorem dX13_literalsBefore_16 : decode cX13_literalsBefore 16 = .ok (.bipush 10, 2) := by decide +kernel
theorem dX13_literalsBefore_18 : decode cX13_literalsBefore 18 = .ok (.if_icmp .eq 28, 3) := by decide +kernel
theorem dX13_literalsBefore_21 : decode cX13_literalsBefore 21 = .ok (.iload_n 2, 1) := by decide +kernel
theorem dX13_literalsBefore_22 : decode cX13_literalsBefore 22 = .ok (.aload_n 0, 1) := by decide +kernel
theorem dX13_literalsBefore_23 : decode cX13_literalsBefore 23 = .ok (.getfield 88, 3) := by decide +kernel
theorem dX13_literalsBefore_26 : decode cX13_literalsBefore 26 = .ok (.iload_n 3, 1) := by decide +kernel
theorem dX13_literalsBefore_27 : decode cX13_literalsBefore 27 = .ok (.iaload, 1) := by decide +kernel
theorem dX13_literalsBefore_28 : decode cX13_literalsBefore 28 = .ok (.bipush 7, 2) := by decide +kernel
theorem dX13_literalsBefore_30 : decode cX13_literalsBefore 30 = .ok (.if_icmp .ne 7, 3) := by decide +kernel
theorem dX13_literalsBefore_33 : decode cX13_literalsBefore 33 = .ok (.iconst 1, 1) := by decide +kernel
theorem dX13_literalsBefore_34 : decode cX13_literalsBefore 34 = .ok (.goto 4, 3) := by decide +kernel
theorem dX13_literalsBefore_37 : decode cX13_literalsBefore 37 = .ok (.iconst 0, 1) := by decide +kernel
theorem dX13_literalsBefore_38 : decode cX13_literalsBefore 38 = .ok (.iadd, 1) := by decide +kernel
theorem dX13_literalsBefore_39 : decode cX13_literalsBefore 39 = .ok (.istore_n 2, 1) := by decide +kernel
theorem dX13_literalsBefore_40 : decode cX13_literalsBefore 40 = .ok (.iinc 3 (-1), 3) := by decide +kernel
theorem dX13_literalsBefore_43 : decode cX13_literalsBefore 43 = .ok (.goto (-37), 3) := by decide +kernel
theorem dX13_literalsBefore_46 : decode cX13_literalsBefore 46 = .ok (.iload_n 2, 1) := by decide +kernel
theorem dX13_literalsBefore_47 : decode cX13_literalsBefore 47 = .ok (.ireturn, 1) := by decide +kernel
theorem dX13_grows_0 : decode cX13_grows 0 = .ok (.aload_n 0, 1) := by decide +kernel
theorem dX13_grows_1 : decode cX13_grows 1 = .ok (.getfield 88, 3) := by decide +kernel
theorem dX13_grows_4 : decode cX13_grows 4 = .ok (.iload_n 1, 1) := by decide +kernel
theorem dX13_grows_5 : decode cX13_grows 5 = .ok (.iaload, 1) := by decide +kernel
theorem dX13_grows_6 : decode cX13_grows 6 = .ok (.iconst 2, 1) := by decide +kernel
theorem dX13_grows_7 : decode cX13_grows 7 = .ok (.if_icmp .eq 24, 3) := by decide +kernel
theorem dX13_grows_10 : decode cX13_grows 10 = .ok (.aload_n 0, 1) := by decide +kernel
theorem dX13_grows_11 : decode cX13_grows 11 = .ok (.getfield 88, 3) := by decide +kernel
theorem dX13_grows_14 : decode cX13_grows 14 = .ok (.iload_n 1, 1) := by decide +kernel
theorem dX13_grows_15 : decode cX13_grows 15 = .ok (.iaload, 1) := by decide +kernel
theorem dX13_grows_16 : decode cX13_grows 16 = .ok (.iconst 5, 1) := by decide +kernel
theorem dX13_grows_17 : decode cX13_grows 17 = .ok (.if_icmp .eq 14, 3) := by decide +kernel
theorem dX13_grows_20 : decode cX13_grows 20 = .ok (.aload_n 0, 1) := by decide +kernel
theorem dX13_grows_21 : decode cX13_grows 21 = .ok (.getfield 88, 3) := by decide +kernel
theorem dX13_grows_24 : decode cX13_grows 24 = .ok (.iload_n 1, 1) := by decide +kernel
theorem dX13_grows_25 : decode cX13_grows 25 = .ok (.iaload, 1) := by decide +kernel
theorem dX13_grows_26 : decode cX13_grows 26 = .ok (.bipush 6, 2) := by decide +kernel
theorem dX13_grows_28 : decode cX13_grows 28 = .ok (.if_icmp .ne 7, 3) := by decide +kernel
theorem dX13_grows_31 : decode cX13_grows 31 = .ok (.iconst 1, 1) := by decide +kernel
theorem dX13_grows_32 : decode cX13_grows 32 = .ok (.goto 4, 3) := by decide +kernel
theorem dX13_grows_35 : decode cX13_grows 35 = .ok (.iconst 0, 1) := by decide +kernel
theorem dX13_grows_36 : decode cX13_grows 36 = .ok (.ireturn, 1) := by decide +kernel
theorem dX13_wordsOf_0 : decode cX13_wordsOf 0 = .ok (.aload_n 0, 1) := by decide +kernel
theorem dX13_wordsOf_1 : decode cX13_wordsOf 1 = .ok (.getfield 88, 3) := by decide +kernel
theorem dX13_wordsOf_4 : decode cX13_wordsOf 4 = .ok (.iload_n 1, 1) := by decide +kernel
theorem dX13_wordsOf_5 : decode cX13_wordsOf 5 = .ok (.iaload, 1) := by decide +kernel
theorem dX13_wordsOf_6 : decode cX13_wordsOf 6 = .ok (.istore_n 2, 1) := by decide +kernel
theorem dX13_wordsOf_7 : decode cX13_wordsOf 7 = .ok (.iload_n 2, 1) := by decide +kernel
theorem dX13_wordsOf_8 : decode cX13_wordsOf 8 = .ok (.ifCond .ne 7, 3) := by decide +kernel
theorem dX13_wordsOf_11 : decode cX13_wordsOf 11 = .ok (.iconst 0, 1) := by decide +kernel
theorem dX13_wordsOf_12 : decode cX13_wordsOf 12 = .ok (.goto 61, 3) := by decide +kernel
theorem dX13_wordsOf_15 : decode cX13_wordsOf 15 = .ok (.iload_n 2, 1) := by decide +kernel
theorem dX13_wordsOf_16 : decode cX13_wordsOf 16 = .ok (.bipush 8, 2) := by decide +kernel
theorem dX13_wordsOf_18 : decode cX13_wordsOf 18 = .ok (.if_icmp .ne 12, 3) := by decide +kernel
theorem dX13_wordsOf_21 : decode cX13_wordsOf 21 = .ok (.aload_n 0, 1) := by decide +kernel
theorem dX13_wordsOf_22 : decode cX13_wordsOf 22 = .ok (.getfield 97, 3) := by decide +kernel
theorem dX13_wordsOf_25 : decode cX13_wordsOf 25 = .ok (.iload_n 1, 1) := by decide +kernel
theorem dX13_wordsOf_26 : decode cX13_wordsOf 26 = .ok (.iaload, 1) := by decide +kernel
theorem dX13_wordsOf_27 : decode cX13_wordsOf 27 = .ok (.goto 46, 3) := by decide +kernel
theorem dX13_wordsOf_30 : decode cX13_wordsOf 30 = .ok (.iload_n 2, 1) := by decide +kernel
theorem dX13_wordsOf_31 : decode cX13_wordsOf 31 = .ok (.bipush 9, 2) := by decide +kernel
theorem dX13_wordsOf_33 : decode cX13_wordsOf 33 = .ok (.if_icmp .ne 12, 3) := by decide +kernel
theorem dX13_wordsOf_36 : decode cX13_wordsOf 36 = .ok (.aload_n 0, 1) := by decide +kernel
theorem dX13_wordsOf_37 : decode cX13_wordsOf 37 = .ok (.getfield 103, 3) := by decide +kernel
theorem dX13_wordsOf_40 : decode cX13_wordsOf 40 = .ok (.iload_n 1, 1) := by decide +kernel
theorem dX13_wordsOf_41 : decode cX13_wordsOf 41 = .ok (.iaload, 1) := by decide +kernel
theorem dX13_wordsOf_42 : decode cX13_wordsOf 42 = .ok (.goto 31, 3) := by decide +kernel
theorem dX13_wordsOf_45 : decode cX13_wordsOf 45 = .ok (.iload_n 2, 1) := by decide +kernel
theorem dX13_wordsOf_46 : decode cX13_wordsOf 46 = .ok (.bipush 10, 2) := by decide +kernel
theorem dX13_wordsOf_48 : decode cX13_wordsOf 48 = .ok (.if_icmp .ne 11, 3) := by decide +kernel
theorem dX13_wordsOf_51 : decode cX13_wordsOf 51 = .ok (.aload_n 0, 1) := by decide +kernel
theorem dX13_wordsOf_52 : decode cX13_wordsOf 52 = .ok (.iload_n 1, 1) := by decide +kernel
theorem dX13_wordsOf_53 : decode cX13_wordsOf 53 = .ok (.invokevirtual 409, 3) := by decide +kernel
theorem dX13_wordsOf_56 : decode cX13_wordsOf 56 = .ok (.goto 17, 3) := by decide +kernel
theorem dX13_wordsOf_59 : decode cX13_wordsOf 59 = .ok (.aload_n 0, 1) := by decide +kernel
theorem dX13_wordsOf_60 : decode cX13_wordsOf 60 = .ok (.getfield 109, 3) := by decide +kernel
theorem dX13_wordsOf_63 : decode cX13_wordsOf 63 = .ok (.iload_n 1, 1) := by decide +kernel
theorem dX13_wordsOf_64 : decode cX13_wordsOf 64 = .ok (.baload, 1) := by decide +kernel
theorem dX13_wordsOf_65 : decode cX13_wordsOf 65 = .ok (.ifCond .eq 7, 3) := by decide +kernel
theorem dX13_wordsOf_68 : decode cX13_wordsOf 68 = .ok (.iconst 2, 1) := by decide +kernel
theorem dX13_wordsOf_69 : decode cX13_wordsOf 69 = .ok (.goto 4, 3) := by decide +kernel
theorem dX13_wordsOf_72 : decode cX13_wordsOf 72 = .ok (.iconst 1, 1) := by decide +kernel
theorem dX13_wordsOf_73 : decode cX13_wordsOf 73 = .ok (.ireturn, 1) := by decide +kernel
theorem dX13_say_0 : decode cX13_say 0 = .ok (.aload_n 0, 1) := by decide +kernel
theorem dX13_say_1 : decode cX13_say 1 = .ok (.getfield 151, 3) := by decide +kernel
theorem dX13_say_4 : decode cX13_say 4 = .ok (.aload_n 0, 1) := by decide +kernel
theorem dX13_say_5 : decode cX13_say 5 = .ok (.getfield 441, 3) := by decide +kernel
theorem dX13_say_8 : decode cX13_say 8 = .ok (.iload_n 1, 1) := by decide +kernel
theorem dX13_say_9 : decode cX13_say 9 = .ok (.ldc_w 434, 3) := by decide +kernel
theorem dX13_say_12 : decode cX13_say 12 = .ok (.iand, 1) := by decide +kernel
theorem dX13_say_13 : decode cX13_say 13 = .ok (.iastore, 1) := by decide +kernel
theorem dX13_say_14 : decode cX13_say 14 = .ok (.aload_n 0, 1) := by decide +kernel
theorem dX13_say_15 : decode cX13_say 15 = .ok (.dup, 1) := by decide +kernel
theorem dX13_say_16 : decode cX13_say 16 = .ok (.getfield 441, 3) := by decide +kernel
theorem dX13_say_19 : decode cX13_say 19 = .ok (.iconst 1, 1) := by decide +kernel
theorem dX13_say_20 : decode cX13_say 20 = .ok (.iadd, 1) := by decide +kernel
theorem dX13_say_21 : decode cX13_say 21 = .ok (.putfield 441, 3) := by decide +kernel
theorem dX13_say_24 : decode cX13_say 24 = .ok (.return_, 1) := by decide +kernel

