theorem dX13_forget_0 : decode cX13_forget 0 = .ok (.aload_n 0, 1) := by decide +kernel
theorem dX13_forget_1 : decode cX13_forget 1 = .ok (.iconst 0, 1) := by decide +kernel
theorem dX13_forget_2 : decode cX13_forget 2 = .ok (.putfield 214, 3) := by decide +kernel
theorem dX13_forget_5 : decode cX13_forget 5 = .ok (.aload_n 0, 1) := by decide +kernel
theorem dX13_forget_6 : decode cX13_forget 6 = .ok (.iconst 0, 1) := by decide +kernel
theorem dX13_forget_7 : decode cX13_forget 7 = .ok (.putfield 347, 3) := by decide +kernel
theorem dX13_forget_10 : decode cX13_forget 10 = .ok (.aload_n 0, 1) := by decide +kernel
theorem dX13_forget_11 : decode cX13_forget 11 = .ok (.iconst 0, 1) := by decide +kernel
theorem dX13_forget_12 : decode cX13_forget 12 = .ok (.putfield 359, 3) := by decide +kernel
theorem dX13_forget_15 : decode cX13_forget 15 = .ok (.aload_n 0, 1) := by decide +kernel
theorem dX13_forget_16 : decode cX13_forget 16 = .ok (.iconst 0, 1) := by decide +kernel
theorem dX13_forget_17 : decode cX13_forget 17 = .ok (.putfield 335, 3) := by decide +kernel
theorem dX13_forget_20 : decode cX13_forget 20 = .ok (.aload_n 0, 1) := by decide +kernel
theorem dX13_forget_21 : decode cX13_forget 21 = .ok (.iconst 0, 1) := by decide +kernel
theorem dX13_forget_22 : decode cX13_forget 22 = .ok (.putfield 217, 3) := by decide +kernel
theorem dX13_forget_25 : decode cX13_forget 25 = .ok (.aload_n 0, 1) := by decide +kernel
theorem dX13_forget_26 : decode cX13_forget 26 = .ok (.iconst 0, 1) := by decide +kernel
theorem dX13_forget_27 : decode cX13_forget 27 = .ok (.putfield 271, 3) := by decide +kernel
theorem dX13_forget_30 : decode cX13_forget 30 = .ok (.aload_n 0, 1) := by decide +kernel
theorem dX13_forget_31 : decode cX13_forget 31 = .ok (.iconst 0, 1) := by decide +kernel
theorem dX13_forget_32 : decode cX13_forget 32 = .ok (.putfield 274, 3) := by decide +kernel
theorem dX13_forget_35 : decode cX13_forget 35 = .ok (.aload_n 0, 1) := by decide +kernel
theorem dX13_forget_36 : decode cX13_forget 36 = .ok (.iconst 0, 1) := by decide +kernel
theorem dX13_forget_37 : decode cX13_forget 37 = .ok (.putfield 277, 3) := by decide +kernel
theorem dX13_forget_40 : decode cX13_forget 40 = .ok (.aload_n 0, 1) := by decide +kernel
theorem dX13_forget_41 : decode cX13_forget 41 = .ok (.iconst 0, 1) := by decide +kernel
theorem dX13_forget_42 : decode cX13_forget 42 = .ok (.putfield 283, 3) := by decide +kernel
theorem dX13_forget_45 : decode cX13_forget 45 = .ok (.aload_n 0, 1) := by decide +kernel
theorem dX13_forget_46 : decode cX13_forget 46 = .ok (.iconst 0, 1) := by decide +kernel
theorem dX13_forget_47 : decode cX13_forget 47 = .ok (.putfield 441, 3) := by decide +kernel
theorem dX13_forget_50 : decode cX13_forget 50 = .ok (.aload_n 0, 1) := by decide +kernel
theorem dX13_forget_51 : decode cX13_forget 51 = .ok (.iconst 0, 1) := by decide +kernel
theorem dX13_forget_52 : decode cX13_forget 52 = .ok (.putfield 422, 3) := by decide +kernel
theorem dX13_forget_55 : decode cX13_forget 55 = .ok (.aload_n 0, 1) := by decide +kernel
theorem dX13_forget_56 : decode cX13_forget 56 = .ok (.iconst 0, 1) := by decide +kernel
theorem dX13_forget_57 : decode cX13_forget 57 = .ok (.putfield 454, 3) := by decide +kernel
theorem dX13_forget_60 : decode cX13_forget 60 = .ok (.aload_n 0, 1) := by decide +kernel
theorem dX13_forget_61 : decode cX13_forget 61 = .ok (.iconst 0, 1) := by decide +kernel
theorem dX13_forget_62 : decode cX13_forget 62 = .ok (.putfield 350, 3) := by decide +kernel
theorem dX13_forget_65 : decode cX13_forget 65 = .ok (.aload_n 0, 1) := by decide +kernel
theorem dX13_forget_66 : decode cX13_forget 66 = .ok (.iconst 0, 1) := by decide +kernel
theorem dX13_forget_67 : decode cX13_forget 67 = .ok (.putfield 344, 3) := by decide +kernel
theorem dX13_forget_70 : decode cX13_forget 70 = .ok (.iconst 0, 1) := by decide +kernel
theorem dX13_forget_71 : decode cX13_forget 71 = .ok (.istore_n 1, 1) := by decide +kernel
theorem dX13_forget_72 : decode cX13_forget 72 = .ok (.iload_n 1, 1) := by decide +kernel
theorem dX13_forget_73 : decode cX13_forget 73 = .ok (.sipush 1021, 3) := by decide +kernel
theorem dX13_forget_76 : decode cX13_forget 76 = .ok (.if_icmp .ge 16, 3) := by decide +kernel
theorem dX13_forget_79 : decode cX13_forget 79 = .ok (.aload_n 0, 1) := by decide +kernel
theorem dX13_forget_80 : decode cX13_forget 80 = .ok (.getfield 141, 3) := by decide +kernel
theorem dX13_forget_83 : decode cX13_forget 83 = .ok (.iload_n 1, 1) := by decide +kernel
theorem dX13_forget_84 : decode cX13_forget 84 = .ok (.iconst (-1), 1) := by decide +kernel
theorem dX13_forget_85 : decode cX13_forget 85 = .ok (.iastore, 1) := by decide +kernel
theorem dX13_forget_86 : decode cX13_forget 86 = .ok (.iinc 1 1, 3) := by decide +kernel
theorem dX13_forget_89 : decode cX13_forget 89 = .ok (.goto (-17), 3) := by decide +kernel
theorem dX13_forget_92 : decode cX13_forget 92 = .ok (.iconst 0, 1) := by decide +kernel
theorem dX13_forget_93 : decode cX13_forget 93 = .ok (.istore_n 1, 1) := by decide +kernel
theorem dX13_forget_94 : decode cX13_forget 94 = .ok (.iload_n 1, 1) := by decide +kernel
theorem dX13_forget_95 : decode cX13_forget 95 = .ok (.sipush 400, 3) := by decide +kernel
theorem dX13_forget_98 : decode cX13_forget 98 = .ok (.if_icmp .ge 16, 3) := by decide +kernel
theorem dX13_forget_101 : decode cX13_forget 101 = .ok (.aload_n 0, 1) := by decide +kernel
theorem dX13_forget_102 : decode cX13_forget 102 = .ok (.getfield 154, 3) := by decide +kernel
theorem dX13_forget_105 : decode cX13_forget 105 = .ok (.iload_n 1, 1) := by decide +kernel
theorem dX13_forget_106 : decode cX13_forget 106 = .ok (.iconst 0, 1) := by decide +kernel
theorem dX13_forget_107 : decode cX13_forget 107 = .ok (.bastore, 1) := by decide +kernel
theorem dX13_forget_108 : decode cX13_forget 108 = .ok (.iinc 1 1, 3) := by decide +kernel
theorem dX13_forget_111 : decode cX13_forget 111 = .ok (.goto (-17), 3) := by decide +kernel
theorem dX13_forget_114 : decode cX13_forget 114 = .ok (.return_, 1) := by decide +kernel
theorem dX13_name_0 : decode cX13_name 0 = .ok (.aload_n 0, 1) := by decide +kernel
theorem dX13_name_1 : decode cX13_name 1 = .ok (.iconst 0, 1) := by decide +kernel
theorem dX13_name_2 : decode cX13_name 2 = .ok (.putfield 157, 3) := by decide +kernel
theorem dX13_name_5 : decode cX13_name 5 = .ok (.iload_n 2, 1) := by decide +kernel
theorem dX13_name_6 : decode cX13_name 6 = .ok (.iconst 0, 1) := by decide +kernel
theorem dX13_name_7 : decode cX13_name 7 = .ok (.iconst 1, 1) := by decide +kernel
theorem dX13_name_8 : decode cX13_name 8 = .ok (.invokestatic 168, 3) := by decide +kernel
theorem dX13_name_11 : decode cX13_name 11 = .ok (.ifCond .eq 28, 3) := by decide +kernel
theorem dX13_name_14 : decode cX13_name 14 = .ok (.iload_n 1, 1) := by decide +kernel
theorem dX13_name_15 : decode cX13_name 15 = .ok (.iconst 0, 1) := by decide +kernel
theorem dX13_name_16 : decode cX13_name 16 = .ok (.iload_n 2, 1) := by decide +kernel
theorem dX13_name_17 : decode cX13_name 17 = .ok (.ifCond .ne 10, 3) := by decide +kernel
theorem dX13_name_20 : decode cX13_name 20 = .ok (.aload_n 0, 1) := by decide +kernel
theorem dX13_name_21 : decode cX13_name 21 = .ok (.getfield 271, 3) := by decide +kernel
theorem dX13_name_24 : decode cX13_name 24 = .ok (.goto 7, 3) := by decide +kernel
theorem dX13_name_27 : decode cX13_name 27 = .ok (.aload_n 0, 1) := by decide +kernel
theorem dX13_name_28 : decode cX13_name 28 = .ok (.getfield 283, 3) := by decide +kernel
theorem dX13_name_31 : decode cX13_name 31 = .ok (.iconst 1, 1) := by decide +kernel
theorem dX13_name_32 : decode cX13_name 32 = .ok (.isub, 1) := by decide +kernel
theorem dX13_name_33 : decode cX13_name 33 = .ok (.invokestatic 168, 3) := by decide +kernel
theorem dX13_name_36 : decode cX13_name 36 = .ok (.ifCond .ne 9, 3) := by decide +kernel
theorem dX13_name_39 : decode cX13_name 39 = .ok (.aload_n 0, 1) := by decide +kernel
theorem dX13_name_40 : decode cX13_name 40 = .ok (.iconst 1, 1) := by decide +kernel
theorem dX13_name_41 : decode cX13_name 41 = .ok (.invokevirtual 164, 3) := by decide +kernel
theorem dX13_name_44 : decode cX13_name 44 = .ok (.ireturn, 1) := by decide +kernel
theorem dX13_name_45 : decode cX13_name 45 = .ok (.iload_n 2, 1) := by decide +kernel
theorem dX13_name_46 : decode cX13_name 46 = .ok (.iconst 1, 1) := by decide +kernel
theorem dX13_name_47 : decode cX13_name 47 = .ok (.if_icmp .ne 10, 3) := by decide +kernel
theorem dX13_name_50 : decode cX13_name 50 = .ok (.aload_n 0, 1) := by decide +kernel
theorem dX13_name_51 : decode cX13_name 51 = .ok (.getfield 135, 3) := by decide +kernel
theorem dX13_name_54 : decode cX13_name 54 = .ok (.iload_n 1, 1) := by decide +kernel
theorem dX13_name_55 : decode cX13_name 55 = .ok (.iaload, 1) := by decide +kernel
theorem dX13_name_56 : decode cX13_name 56 = .ok (.ireturn, 1) := by decide +kernel
theorem dX13_name_57 : decode cX13_name 57 = .ok (.iconst (-1), 1) := by decide +kernel
theorem dX13_name_58 : decode cX13_name 58 = .ok (.istore_n 3, 1) := by decide +kernel
theorem dX13_name_59 : decode cX13_name 59 = .ok (.iconst (-1), 1) := by decide +kernel
theorem dX13_name_60 : decode cX13_name 60 = .ok (.istore 4, 2) := by decide +kernel
theorem dX13_name_62 : decode cX13_name 62 = .ok (.iload_n 3, 1) := by decide +kernel
theorem dX13_name_63 : decode cX13_name 63 = .ok (.iload_n 1, 1) := by decide +kernel
theorem dX13_name_64 : decode cX13_name 64 = .ok (.if_icmp .ge 29, 3) := by decide +kernel
theorem dX13_name_67 : decode cX13_name 67 = .ok (.iinc 4 1, 3) := by decide +kernel
theorem dX13_name_70 : decode cX13_name 70 = .ok (.iload_n 3, 1) := by decide +kernel
theorem dX13_name_71 : decode cX13_name 71 = .ok (.aload_n 0, 1) := by decide +kernel
theorem dX13_name_72 : decode cX13_name 72 = .ok (.getfield 106, 3) := by decide +kernel
theorem dX13_name_75 : decode cX13_name 75 = .ok (.iload 4, 2) := by decide +kernel
theorem dX13_name_77 : decode cX13_name 77 = .ok (.laload, 1) := by decide +kernel
theorem dX13_name_78 : decode cX13_name 78 = .ok (.lconst 0, 1) := by decide +kernel
theorem dX13_name_79 : decode cX13_name 79 = .ok (.lcmp, 1) := by decide +kernel
theorem dX13_name_80 : decode cX13_name 80 = .ok (.ifCond .le 7, 3) := by decide +kernel
theorem dX13_name_83 : decode cX13_name 83 = .ok (.iconst 1, 1) := by decide +kernel
theorem dX13_name_84 : decode cX13_name 84 = .ok (.goto 4, 3) := by decide +kernel
theorem dX13_name_87 : decode cX13_name 87 = .ok (.iconst 0, 1) := by decide +kernel
theorem dX13_name_88 : decode cX13_name 88 = .ok (.iadd, 1) := by decide +kernel
theorem dX13_name_89 : decode cX13_name 89 = .ok (.istore_n 3, 1) := by decide +kernel
theorem dX13_name_90 : decode cX13_name 90 = .ok (.goto (-28), 3) := by decide +kernel
theorem dX13_name_93 : decode cX13_name 93 = .ok (.aload_n 0, 1) := by decide +kernel
theorem dX13_name_94 : decode cX13_name 94 = .ok (.getfield 113, 3) := by decide +kernel
theorem dX13_name_97 : decode cX13_name 97 = .ok (.iload 4, 2) := by decide +kernel
theorem dX13_name_99 : decode cX13_name 99 = .ok (.iaload, 1) := by decide +kernel
theorem dX13_name_100 : decode cX13_name 100 = .ok (.ireturn, 1) := by decide +kernel

