set_option maxRecDepth 20000 in
theorem w_6_16 : (Jvm.Cond.fieldLink "AssembleLinesModel" (274 : Nat) "AssembleLinesModel" "expressions" "I") ∈ b_Ws := bw_6 (List.mem_of_getElem? (i := 16) rfl) rfl
set_option maxRecDepth 20000 in
theorem w_6_17 : (Jvm.Cond.fieldLink "AssembleLinesModel" (277 : Nat) "AssembleLinesModel" "poolSize" "I") ∈ b_Ws := bw_6 (List.mem_of_getElem? (i := 17) rfl) rfl
theorem dX13_keepExpressions_0 : decode cX13_keepExpressions 0 = .ok (.aload_n 0, 1) := by decide +kernel
theorem dX13_keepExpressions_1 : decode cX13_keepExpressions 1 = .ok (.getfield 100, 3) := by decide +kernel
theorem dX13_keepExpressions_4 : decode cX13_keepExpressions 4 = .ok (.iload_n 1, 1) := by decide +kernel
theorem dX13_keepExpressions_5 : decode cX13_keepExpressions 5 = .ok (.aload_n 0, 1) := by decide +kernel
theorem dX13_keepExpressions_6 : decode cX13_keepExpressions 6 = .ok (.getfield 274, 3) := by decide +kernel
theorem dX13_keepExpressions_9 : decode cX13_keepExpressions 9 = .ok (.iastore, 1) := by decide +kernel
theorem dX13_keepExpressions_10 : decode cX13_keepExpressions 10 = .ok (.aload_n 0, 1) := by decide +kernel
theorem dX13_keepExpressions_11 : decode cX13_keepExpressions 11 = .ok (.getfield 97, 3) := by decide +kernel
theorem dX13_keepExpressions_14 : decode cX13_keepExpressions 14 = .ok (.iload_n 1, 1) := by decide +kernel
theorem dX13_keepExpressions_15 : decode cX13_keepExpressions 15 = .ok (.aload_n 0, 1) := by decide +kernel
theorem dX13_keepExpressions_16 : decode cX13_keepExpressions 16 = .ok (.getfield 253, 3) := by decide +kernel
theorem dX13_keepExpressions_19 : decode cX13_keepExpressions 19 = .ok (.iastore, 1) := by decide +kernel
theorem dX13_keepExpressions_20 : decode cX13_keepExpressions 20 = .ok (.iconst 0, 1) := by decide +kernel
theorem dX13_keepExpressions_21 : decode cX13_keepExpressions 21 = .ok (.istore_n 2, 1) := by decide +kernel
theorem dX13_keepExpressions_22 : decode cX13_keepExpressions 22 = .ok (.iload_n 2, 1) := by decide +kernel
theorem dX13_keepExpressions_23 : decode cX13_keepExpressions 23 = .ok (.aload_n 0, 1) := by decide +kernel
theorem dX13_keepExpressions_24 : decode cX13_keepExpressions 24 = .ok (.getfield 253, 3) := by decide +kernel
theorem dX13_keepExpressions_27 : decode cX13_keepExpressions 27 = .ok (.if_icmp .ge 93, 3) := by decide +kernel
theorem dX13_keepExpressions_30 : decode cX13_keepExpressions 30 = .ok (.aload_n 0, 1) := by decide +kernel
theorem dX13_keepExpressions_31 : decode cX13_keepExpressions 31 = .ok (.getfield 116, 3) := by decide +kernel
theorem dX13_keepExpressions_34 : decode cX13_keepExpressions 34 = .ok (.aload_n 0, 1) := by decide +kernel
theorem dX13_keepExpressions_35 : decode cX13_keepExpressions 35 = .ok (.getfield 274, 3) := by decide +kernel
theorem dX13_keepExpressions_38 : decode cX13_keepExpressions 38 = .ok (.aload_n 0, 1) := by decide +kernel
theorem dX13_keepExpressions_39 : decode cX13_keepExpressions 39 = .ok (.getfield 277, 3) := by decide +kernel
theorem dX13_keepExpressions_42 : decode cX13_keepExpressions 42 = .ok (.iastore, 1) := by decide +kernel
theorem dX13_keepExpressions_43 : decode cX13_keepExpressions 43 = .ok (.aload_n 0, 1) := by decide +kernel
theorem dX13_keepExpressions_44 : decode cX13_keepExpressions 44 = .ok (.getfield 126, 3) := by decide +kernel
theorem dX13_keepExpressions_47 : decode cX13_keepExpressions 47 = .ok (.iload_n 2, 1) := by decide +kernel
theorem dX13_keepExpressions_48 : decode cX13_keepExpressions 48 = .ok (.iaload, 1) := by decide +kernel
theorem dX13_keepExpressions_49 : decode cX13_keepExpressions 49 = .ok (.istore_n 3, 1) := by decide +kernel
theorem dX13_keepExpressions_50 : decode cX13_keepExpressions 50 = .ok (.iload_n 3, 1) := by decide +kernel
theorem dX13_keepExpressions_51 : decode cX13_keepExpressions 51 = .ok (.aload_n 0, 1) := by decide +kernel
theorem dX13_keepExpressions_52 : decode cX13_keepExpressions 52 = .ok (.getfield 129, 3) := by decide +kernel
theorem dX13_keepExpressions_55 : decode cX13_keepExpressions 55 = .ok (.iload_n 2, 1) := by decide +kernel
theorem dX13_keepExpressions_56 : decode cX13_keepExpressions 56 = .ok (.iaload, 1) := by decide +kernel
theorem dX13_keepExpressions_57 : decode cX13_keepExpressions 57 = .ok (.if_icmp .ge 34, 3) := by decide +kernel
theorem dX13_keepExpressions_60 : decode cX13_keepExpressions 60 = .ok (.aload_n 0, 1) := by decide +kernel
theorem dX13_keepExpressions_61 : decode cX13_keepExpressions 61 = .ok (.getfield 123, 3) := by decide +kernel
theorem dX13_keepExpressions_64 : decode cX13_keepExpressions 64 = .ok (.aload_n 0, 1) := by decide +kernel
theorem dX13_keepExpressions_65 : decode cX13_keepExpressions 65 = .ok (.getfield 277, 3) := by decide +kernel
theorem dX13_keepExpressions_68 : decode cX13_keepExpressions 68 = .ok (.aload_n 0, 1) := by decide +kernel
theorem dX13_keepExpressions_69 : decode cX13_keepExpressions 69 = .ok (.getfield 49, 3) := by decide +kernel
theorem dX13_keepExpressions_72 : decode cX13_keepExpressions 72 = .ok (.iload_n 3, 1) := by decide +kernel
theorem dX13_keepExpressions_73 : decode cX13_keepExpressions 73 = .ok (.iaload, 1) := by decide +kernel
theorem dX13_keepExpressions_74 : decode cX13_keepExpressions 74 = .ok (.iastore, 1) := by decide +kernel
theorem dX13_keepExpressions_75 : decode cX13_keepExpressions 75 = .ok (.aload_n 0, 1) := by decide +kernel
theorem dX13_keepExpressions_76 : decode cX13_keepExpressions 76 = .ok (.dup, 1) := by decide +kernel
theorem dX13_keepExpressions_77 : decode cX13_keepExpressions 77 = .ok (.getfield 277, 3) := by decide +kernel
theorem dX13_keepExpressions_80 : decode cX13_keepExpressions 80 = .ok (.iconst 1, 1) := by decide +kernel
theorem dX13_keepExpressions_81 : decode cX13_keepExpressions 81 = .ok (.iadd, 1) := by decide +kernel
theorem dX13_keepExpressions_82 : decode cX13_keepExpressions 82 = .ok (.putfield 277, 3) := by decide +kernel
theorem dX13_keepExpressions_85 : decode cX13_keepExpressions 85 = .ok (.iinc 3 1, 3) := by decide +kernel
theorem dX13_keepExpressions_88 : decode cX13_keepExpressions 88 = .ok (.goto (-38), 3) := by decide +kernel
theorem dX13_keepExpressions_91 : decode cX13_keepExpressions 91 = .ok (.aload_n 0, 1) := by decide +kernel
theorem dX13_keepExpressions_92 : decode cX13_keepExpressions 92 = .ok (.getfield 119, 3) := by decide +kernel
theorem dX13_keepExpressions_95 : decode cX13_keepExpressions 95 = .ok (.aload_n 0, 1) := by decide +kernel
theorem dX13_keepExpressions_96 : decode cX13_keepExpressions 96 = .ok (.getfield 274, 3) := by decide +kernel
theorem dX13_keepExpressions_99 : decode cX13_keepExpressions 99 = .ok (.aload_n 0, 1) := by decide +kernel
theorem dX13_keepExpressions_100 : decode cX13_keepExpressions 100 = .ok (.getfield 277, 3) := by decide +kernel
theorem dX13_keepExpressions_103 : decode cX13_keepExpressions 103 = .ok (.iastore, 1) := by decide +kernel
theorem dX13_keepExpressions_104 : decode cX13_keepExpressions 104 = .ok (.aload_n 0, 1) := by decide +kernel
theorem dX13_keepExpressions_105 : decode cX13_keepExpressions 105 = .ok (.dup, 1) := by decide +kernel
theorem dX13_keepExpressions_106 : decode cX13_keepExpressions 106 = .ok (.getfield 274, 3) := by decide +kernel
theorem dX13_keepExpressions_109 : decode cX13_keepExpressions 109 = .ok (.iconst 1, 1) := by decide +kernel
theorem dX13_keepExpressions_110 : decode cX13_keepExpressions 110 = .ok (.iadd, 1) := by decide +kernel
theorem dX13_keepExpressions_111 : decode cX13_keepExpressions 111 = .ok (.putfield 274, 3) := by decide +kernel
theorem dX13_keepExpressions_114 : decode cX13_keepExpressions 114 = .ok (.iinc 2 1, 3) := by decide +kernel
theorem dX13_keepExpressions_117 : decode cX13_keepExpressions 117 = .ok (.goto (-95), 3) := by decide +kernel
theorem dX13_keepExpressions_120 : decode cX13_keepExpressions 120 = .ok (.return_, 1) := by decide +kernel

