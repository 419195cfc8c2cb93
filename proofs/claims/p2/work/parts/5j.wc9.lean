set_option maxRecDepth 20000 in
theorem w_2_77 : (Jvm.Cond.fieldLink "AssembleLines$Lines" (44 : Nat) "AssembleLines$Lines" "depth" "I") ∈ b_Ws := bw_2 (List.mem_of_getElem? (i := 77) rfl) rfl
set_option maxRecDepth 20000 in
theorem w_2_79 : (Jvm.Cond.fieldLink "AssembleLines$Lines" (34 : Nat) "AssembleLines$Lines" "length" "I") ∈ b_Ws := bw_2 (List.mem_of_getElem? (i := 79) rfl) rfl
set_option maxRecDepth 20000 in
theorem w_2_87 : (Jvm.Cond.fieldLink "AssembleLines$Lines" (38 : Nat) "AssembleLines$Lines" "next" "I") ∈ b_Ws := bw_2 (List.mem_of_getElem? (i := 87) rfl) rfl
set_option maxRecDepth 20000 in
theorem w_2_89 : (Jvm.Cond.fieldLink "AssembleLines$Lines" (41 : Nat) "AssembleLines$Lines" "number" "I") ∈ b_Ws := bw_2 (List.mem_of_getElem? (i := 89) rfl) rfl
set_option maxRecDepth 20000 in
theorem w_2_91 : (Jvm.Cond.fieldLink "AssembleLines$Lines" (47 : Nat) "AssembleLines$Lines" "told" "I") ∈ b_Ws := bw_2 (List.mem_of_getElem? (i := 91) rfl) rfl
set_option maxRecDepth 20000 in
theorem w_3_113 : (Jvm.Cond.methodLink "AssembleLines$Lines" (50 : Nat) ({ cls := "AssembleLines$Call", name := "isDone", desc := "()Z" } : Jvm.MethodName)) ∈ b_Ws := bw_3 (List.mem_of_getElem? (i := 113) rfl) rfl
set_option maxRecDepth 20000 in
theorem w_3_114 : (Jvm.Cond.instanceMethod ({ cls := "AssembleLines$Call", name := "isDone", desc := "()Z" } : Jvm.MethodName)) ∈ b_Ws := bw_3 (List.mem_of_getElem? (i := 114) rfl) rfl
set_option maxRecDepth 20000 in
theorem w_3_115 : (Jvm.Cond.selects "AssembleLines$Call" ({ cls := "AssembleLines$Call", name := "isDone", desc := "()Z" } : Jvm.MethodName) ({ cls := "AssembleLines$Call", name := "isDone", desc := "()Z" } : Jvm.MethodName)) ∈ b_Ws := bw_3 (List.mem_of_getElem? (i := 115) rfl) rfl
set_option maxRecDepth 20000 in
theorem w_3_116 : (Jvm.Cond.code ({ cls := "AssembleLines$Call", name := "isDone", desc := "()Z" } : Jvm.MethodName) prog_3_method_6_code (1 : Nat) (Option.some Jvm.ClassFile.FieldType.boolean)) ∈ b_Ws := bw_3 (List.mem_of_getElem? (i := 116) rfl) rfl
set_option maxRecDepth 20000 in
theorem w_3_117 : (Jvm.Cond.methodLink "AssembleLines$Lines" (54 : Nat) ({ cls := "AssembleLines$Lines", name := "putTogether", desc := "(LAssembleLines$Call;)V" } : Jvm.MethodName)) ∈ b_Ws := bw_3 (List.mem_of_getElem? (i := 117) rfl) rfl
set_option maxRecDepth 20000 in
theorem w_3_119 : (Jvm.Cond.instanceMethod ({ cls := "AssembleLines$Lines", name := "putTogether", desc := "(LAssembleLines$Call;)V" } : Jvm.MethodName)) ∈ b_Ws := bw_3 (List.mem_of_getElem? (i := 119) rfl) rfl
set_option maxRecDepth 20000 in
theorem w_3_120 : (Jvm.Cond.code ({ cls := "AssembleLines$Lines", name := "putTogether", desc := "(LAssembleLines$Call;)V" } : Jvm.MethodName) prog_6_method_6_code (3 : Nat) (Option.none : Option Jvm.ClassFile.FieldType)) ∈ b_Ws := bw_3 (List.mem_of_getElem? (i := 120) rfl) rfl
theorem dX4_isMade_0 : decode cX4_isMade 0 = .ok (.aload_n 0, 1) := by decide +kernel
theorem dX4_isMade_1 : decode cX4_isMade 1 = .ok (.getfield 44, 3) := by decide +kernel
theorem dX4_isMade_4 : decode cX4_isMade 4 = .ok (.ifCond .le 7, 3) := by decide +kernel
theorem dX4_isMade_7 : decode cX4_isMade 7 = .ok (.iconst 1, 1) := by decide +kernel
theorem dX4_isMade_8 : decode cX4_isMade 8 = .ok (.goto 4, 3) := by decide +kernel
theorem dX4_isMade_11 : decode cX4_isMade 11 = .ok (.iconst 0, 1) := by decide +kernel
theorem dX4_isMade_12 : decode cX4_isMade 12 = .ok (.ireturn, 1) := by decide +kernel
theorem dX4_isTooLong_0 : decode cX4_isTooLong 0 = .ok (.aload_n 0, 1) := by decide +kernel
theorem dX4_isTooLong_1 : decode cX4_isTooLong 1 = .ok (.getfield 44, 3) := by decide +kernel
theorem dX4_isTooLong_4 : decode cX4_isTooLong 4 = .ok (.ifCond .le 21, 3) := by decide +kernel
theorem dX4_isTooLong_7 : decode cX4_isTooLong 7 = .ok (.aload_n 0, 1) := by decide +kernel
theorem dX4_isTooLong_8 : decode cX4_isTooLong 8 = .ok (.getfield 64, 3) := by decide +kernel
theorem dX4_isTooLong_11 : decode cX4_isTooLong 11 = .ok (.aload_n 0, 1) := by decide +kernel
theorem dX4_isTooLong_12 : decode cX4_isTooLong 12 = .ok (.getfield 58, 3) := by decide +kernel
theorem dX4_isTooLong_15 : decode cX4_isTooLong 15 = .ok (.isub, 1) := by decide +kernel
theorem dX4_isTooLong_16 : decode cX4_isTooLong 16 = .ok (.bipush 100, 2) := by decide +kernel
theorem dX4_isTooLong_18 : decode cX4_isTooLong 18 = .ok (.if_icmp .le 7, 3) := by decide +kernel
theorem dX4_isTooLong_21 : decode cX4_isTooLong 21 = .ok (.iconst 1, 1) := by decide +kernel
theorem dX4_isTooLong_22 : decode cX4_isTooLong 22 = .ok (.goto 4, 3) := by decide +kernel
theorem dX4_isTooLong_25 : decode cX4_isTooLong 25 = .ok (.iconst 0, 1) := by decide +kernel
theorem dX4_isTooLong_26 : decode cX4_isTooLong 26 = .ok (.ireturn, 1) := by decide +kernel
theorem dX4_isFull_0 : decode cX4_isFull 0 = .ok (.aload_n 0, 1) := by decide +kernel
theorem dX4_isFull_1 : decode cX4_isFull 1 = .ok (.getfield 44, 3) := by decide +kernel
theorem dX4_isFull_4 : decode cX4_isFull 4 = .ok (.bipush 6, 2) := by decide +kernel
theorem dX4_isFull_6 : decode cX4_isFull 6 = .ok (.if_icmp .ge 12, 3) := by decide +kernel
theorem dX4_isFull_9 : decode cX4_isFull 9 = .ok (.aload_n 0, 1) := by decide +kernel
theorem dX4_isFull_10 : decode cX4_isFull 10 = .ok (.getfield 47, 3) := by decide +kernel
theorem dX4_isFull_13 : decode cX4_isFull 13 = .ok (.bipush 100, 2) := by decide +kernel
theorem dX4_isFull_15 : decode cX4_isFull 15 = .ok (.if_icmp .lt 7, 3) := by decide +kernel
theorem dX4_isFull_18 : decode cX4_isFull 18 = .ok (.iconst 1, 1) := by decide +kernel
theorem dX4_isFull_19 : decode cX4_isFull 19 = .ok (.goto 4, 3) := by decide +kernel
theorem dX4_isFull_22 : decode cX4_isFull 22 = .ok (.iconst 0, 1) := by decide +kernel
theorem dX4_isFull_23 : decode cX4_isFull 23 = .ok (.ireturn, 1) := by decide +kernel
theorem dX4_forget_0 : decode cX4_forget 0 = .ok (.aload_n 0, 1) := by decide +kernel
theorem dX4_forget_1 : decode cX4_forget 1 = .ok (.iconst 0, 1) := by decide +kernel
theorem dX4_forget_2 : decode cX4_forget 2 = .ok (.putfield 47, 3) := by decide +kernel
theorem dX4_forget_5 : decode cX4_forget 5 = .ok (.return_, 1) := by decide +kernel
theorem dX4_start_0 : decode cX4_start 0 = .ok (.aload_n 0, 1) := by decide +kernel
theorem dX4_start_1 : decode cX4_start 1 = .ok (.aload_n 1, 1) := by decide +kernel
theorem dX4_start_2 : decode cX4_start 2 = .ok (.putfield 17, 3) := by decide +kernel
theorem dX4_start_5 : decode cX4_start 5 = .ok (.aload_n 0, 1) := by decide +kernel
theorem dX4_start_6 : decode cX4_start 6 = .ok (.iload_n 2, 1) := by decide +kernel
theorem dX4_start_7 : decode cX4_start 7 = .ok (.aload_n 1, 1) := by decide +kernel
theorem dX4_start_8 : decode cX4_start 8 = .ok (.arraylength, 1) := by decide +kernel
theorem dX4_start_9 : decode cX4_start 9 = .ok (.invokestatic 28, 3) := by decide +kernel
theorem dX4_start_12 : decode cX4_start 12 = .ok (.putfield 34, 3) := by decide +kernel
theorem dX4_start_15 : decode cX4_start 15 = .ok (.aload_n 0, 1) := by decide +kernel
theorem dX4_start_16 : decode cX4_start 16 = .ok (.iconst 0, 1) := by decide +kernel
theorem dX4_start_17 : decode cX4_start 17 = .ok (.putfield 38, 3) := by decide +kernel
theorem dX4_start_20 : decode cX4_start 20 = .ok (.aload_n 0, 1) := by decide +kernel
theorem dX4_start_21 : decode cX4_start 21 = .ok (.iconst 0, 1) := by decide +kernel
theorem dX4_start_22 : decode cX4_start 22 = .ok (.putfield 41, 3) := by decide +kernel
theorem dX4_start_25 : decode cX4_start 25 = .ok (.aload_n 0, 1) := by decide +kernel
theorem dX4_start_26 : decode cX4_start 26 = .ok (.iconst 0, 1) := by decide +kernel
theorem dX4_start_27 : decode cX4_start 27 = .ok (.putfield 44, 3) := by decide +kernel
theorem dX4_start_30 : decode cX4_start 30 = .ok (.aload_n 0, 1) := by decide +kernel
theorem dX4_start_31 : decode cX4_start 31 = .ok (.iconst 0, 1) := by decide +kernel
theorem dX4_start_32 : decode cX4_start 32 = .ok (.putfield 47, 3) := by decide +kernel
theorem dX4_start_35 : decode cX4_start 35 = .ok (.return_, 1) := by decide +kernel
theorem dX4_advance_0 : decode cX4_advance 0 = .ok (.aload_n 0, 1) := by decide +kernel
theorem dX4_advance_1 : decode cX4_advance 1 = .ok (.getfield 44, 3) := by decide +kernel
theorem dX4_advance_4 : decode cX4_advance 4 = .ok (.ifCond .le 33, 3) := by decide +kernel
theorem dX4_advance_7 : decode cX4_advance 7 = .ok (.aload_n 0, 1) := by decide +kernel
theorem dX4_advance_8 : decode cX4_advance 8 = .ok (.getfield 13, 3) := by decide +kernel
theorem dX4_advance_11 : decode cX4_advance 11 = .ok (.aload_n 0, 1) := by decide +kernel
theorem dX4_advance_12 : decode cX4_advance 12 = .ok (.getfield 44, 3) := by decide +kernel
theorem dX4_advance_15 : decode cX4_advance 15 = .ok (.iconst 1, 1) := by decide +kernel
theorem dX4_advance_16 : decode cX4_advance 16 = .ok (.isub, 1) := by decide +kernel
theorem dX4_advance_17 : decode cX4_advance 17 = .ok (.aaload, 1) := by decide +kernel
theorem dX4_advance_18 : decode cX4_advance 18 = .ok (.invokevirtual 50, 3) := by decide +kernel
theorem dX4_advance_21 : decode cX4_advance 21 = .ok (.ifCond .eq 16, 3) := by decide +kernel
theorem dX4_advance_24 : decode cX4_advance 24 = .ok (.aload_n 0, 1) := by decide +kernel
theorem dX4_advance_25 : decode cX4_advance 25 = .ok (.dup, 1) := by decide +kernel
theorem dX4_advance_26 : decode cX4_advance 26 = .ok (.getfield 44, 3) := by decide +kernel
theorem dX4_advance_29 : decode cX4_advance 29 = .ok (.iconst 1, 1) := by decide +kernel
theorem dX4_advance_30 : decode cX4_advance 30 = .ok (.isub, 1) := by decide +kernel
theorem dX4_advance_31 : decode cX4_advance 31 = .ok (.putfield 44, 3) := by decide +kernel
theorem dX4_advance_34 : decode cX4_advance 34 = .ok (.goto (-34), 3) := by decide +kernel
theorem dX4_advance_37 : decode cX4_advance 37 = .ok (.aload_n 0, 1) := by decide +kernel
theorem dX4_advance_38 : decode cX4_advance 38 = .ok (.getfield 44, 3) := by decide +kernel
theorem dX4_advance_41 : decode cX4_advance 41 = .ok (.ifCond .le 20, 3) := by decide +kernel
theorem dX4_advance_44 : decode cX4_advance 44 = .ok (.aload_n 0, 1) := by decide +kernel
theorem dX4_advance_45 : decode cX4_advance 45 = .ok (.aload_n 0, 1) := by decide +kernel
theorem dX4_advance_46 : decode cX4_advance 46 = .ok (.getfield 13, 3) := by decide +kernel
theorem dX4_advance_49 : decode cX4_advance 49 = .ok (.aload_n 0, 1) := by decide +kernel
theorem dX4_advance_50 : decode cX4_advance 50 = .ok (.getfield 44, 3) := by decide +kernel
theorem dX4_advance_53 : decode cX4_advance 53 = .ok (.iconst 1, 1) := by decide +kernel
theorem dX4_advance_54 : decode cX4_advance 54 = .ok (.isub, 1) := by decide +kernel
theorem dX4_advance_55 : decode cX4_advance 55 = .ok (.aaload, 1) := by decide +kernel
theorem dX4_advance_56 : decode cX4_advance 56 = .ok (.invokevirtual 54, 3) := by decide +kernel
theorem dX4_advance_59 : decode cX4_advance 59 = .ok (.iconst 1, 1) := by decide +kernel
theorem dX4_advance_60 : decode cX4_advance 60 = .ok (.ireturn, 1) := by decide +kernel
theorem dX4_advance_61 : decode cX4_advance 61 = .ok (.aload_n 0, 1) := by decide +kernel
theorem dX4_advance_62 : decode cX4_advance 62 = .ok (.getfield 38, 3) := by decide +kernel
theorem dX4_advance_65 : decode cX4_advance 65 = .ok (.aload_n 0, 1) := by decide +kernel
theorem dX4_advance_66 : decode cX4_advance 66 = .ok (.getfield 34, 3) := by decide +kernel
theorem dX4_advance_69 : decode cX4_advance 69 = .ok (.if_icmp .lt 5, 3) := by decide +kernel
theorem dX4_advance_72 : decode cX4_advance 72 = .ok (.iconst 0, 1) := by decide +kernel
theorem dX4_advance_73 : decode cX4_advance 73 = .ok (.ireturn, 1) := by decide +kernel
theorem dX4_advance_74 : decode cX4_advance 74 = .ok (.aload_n 0, 1) := by decide +kernel
theorem dX4_advance_75 : decode cX4_advance 75 = .ok (.aload_n 0, 1) := by decide +kernel
theorem dX4_advance_76 : decode cX4_advance 76 = .ok (.getfield 17, 3) := by decide +kernel
theorem dX4_advance_79 : decode cX4_advance 79 = .ok (.putfield 24, 3) := by decide +kernel
theorem dX4_advance_82 : decode cX4_advance 82 = .ok (.aload_n 0, 1) := by decide +kernel
theorem dX4_advance_83 : decode cX4_advance 83 = .ok (.aload_n 0, 1) := by decide +kernel
theorem dX4_advance_84 : decode cX4_advance 84 = .ok (.getfield 38, 3) := by decide +kernel
theorem dX4_advance_87 : decode cX4_advance 87 = .ok (.putfield 58, 3) := by decide +kernel
theorem dX4_advance_90 : decode cX4_advance 90 = .ok (.aload_n 0, 1) := by decide +kernel
theorem dX4_advance_91 : decode cX4_advance 91 = .ok (.aload_n 0, 1) := by decide +kernel
theorem dX4_advance_92 : decode cX4_advance 92 = .ok (.aload_n 0, 1) := by decide +kernel
theorem dX4_advance_93 : decode cX4_advance 93 = .ok (.getfield 58, 3) := by decide +kernel
theorem dX4_advance_96 : decode cX4_advance 96 = .ok (.aload_n 0, 1) := by decide +kernel
theorem dX4_advance_97 : decode cX4_advance 97 = .ok (.getfield 34, 3) := by decide +kernel
theorem dX4_advance_100 : decode cX4_advance 100 = .ok (.invokevirtual 61, 3) := by decide +kernel
theorem dX4_advance_103 : decode cX4_advance 103 = .ok (.putfield 64, 3) := by decide +kernel
theorem dX4_advance_106 : decode cX4_advance 106 = .ok (.aload_n 0, 1) := by decide +kernel
theorem dX4_advance_107 : decode cX4_advance 107 = .ok (.aload_n 0, 1) := by decide +kernel
theorem dX4_advance_108 : decode cX4_advance 108 = .ok (.getfield 64, 3) := by decide +kernel
theorem dX4_advance_111 : decode cX4_advance 111 = .ok (.iconst 1, 1) := by decide +kernel
theorem dX4_advance_112 : decode cX4_advance 112 = .ok (.iadd, 1) := by decide +kernel
theorem dX4_advance_113 : decode cX4_advance 113 = .ok (.putfield 38, 3) := by decide +kernel
theorem dX4_advance_116 : decode cX4_advance 116 = .ok (.aload_n 0, 1) := by decide +kernel
theorem dX4_advance_117 : decode cX4_advance 117 = .ok (.dup, 1) := by decide +kernel
theorem dX4_advance_118 : decode cX4_advance 118 = .ok (.getfield 41, 3) := by decide +kernel
theorem dX4_advance_121 : decode cX4_advance 121 = .ok (.iconst 1, 1) := by decide +kernel
theorem dX4_advance_122 : decode cX4_advance 122 = .ok (.iadd, 1) := by decide +kernel
theorem dX4_advance_123 : decode cX4_advance 123 = .ok (.putfield 41, 3) := by decide +kernel
theorem dX4_advance_126 : decode cX4_advance 126 = .ok (.iconst 1, 1) := by decide +kernel
theorem dX4_advance_127 : decode cX4_advance 127 = .ok (.ireturn, 1) := by decide +kernel

