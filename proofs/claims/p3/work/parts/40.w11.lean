theorem dX13_feed_0 : decode cX13_feed 0 = .ok (.aload_n 0, 1) := by decide +kernel
theorem dX13_feed_1 : decode cX13_feed 1 = .ok (.iconst 0, 1) := by decide +kernel
theorem dX13_feed_2 : decode cX13_feed 2 = .ok (.putfield 157, 3) := by decide +kernel
theorem dX13_feed_5 : decode cX13_feed 5 = .ok (.aload_n 0, 1) := by decide +kernel
theorem dX13_feed_6 : decode cX13_feed 6 = .ok (.getfield 161, 3) := by decide +kernel
theorem dX13_feed_9 : decode cX13_feed 9 = .ok (.bipush 16, 2) := by decide +kernel
theorem dX13_feed_11 : decode cX13_feed 11 = .ok (.iadd, 1) := by decide +kernel
theorem dX13_feed_12 : decode cX13_feed 12 = .ok (.sipush 4096, 3) := by decide +kernel
theorem dX13_feed_15 : decode cX13_feed 15 = .ok (.if_icmp .le 9, 3) := by decide +kernel
theorem dX13_feed_18 : decode cX13_feed 18 = .ok (.aload_n 0, 1) := by decide +kernel
theorem dX13_feed_19 : decode cX13_feed 19 = .ok (.iconst 1, 1) := by decide +kernel
theorem dX13_feed_20 : decode cX13_feed 20 = .ok (.invokevirtual 164, 3) := by decide +kernel
theorem dX13_feed_23 : decode cX13_feed 23 = .ok (.ireturn, 1) := by decide +kernel
theorem dX13_feed_24 : decode cX13_feed 24 = .ok (.iconst 0, 1) := by decide +kernel
theorem dX13_feed_25 : decode cX13_feed 25 = .ok (.istore 5, 2) := by decide +kernel
theorem dX13_feed_27 : decode cX13_feed 27 = .ok (.iload 5, 2) := by decide +kernel
theorem dX13_feed_29 : decode cX13_feed 29 = .ok (.bipush 16, 2) := by decide +kernel
theorem dX13_feed_31 : decode cX13_feed 31 = .ok (.if_icmp .ge 74, 3) := by decide +kernel
theorem dX13_feed_34 : decode cX13_feed 34 = .ok (.iload 5, 2) := by decide +kernel
theorem dX13_feed_36 : decode cX13_feed 36 = .ok (.iconst 4, 1) := by decide +kernel
theorem dX13_feed_37 : decode cX13_feed 37 = .ok (.if_icmp .ge 7, 3) := by decide +kernel
theorem dX13_feed_40 : decode cX13_feed 40 = .ok (.iload_n 1, 1) := by decide +kernel
theorem dX13_feed_41 : decode cX13_feed 41 = .ok (.goto 27, 3) := by decide +kernel
theorem dX13_feed_44 : decode cX13_feed 44 = .ok (.iload 5, 2) := by decide +kernel
theorem dX13_feed_46 : decode cX13_feed 46 = .ok (.bipush 8, 2) := by decide +kernel
theorem dX13_feed_48 : decode cX13_feed 48 = .ok (.if_icmp .ge 7, 3) := by decide +kernel
theorem dX13_feed_51 : decode cX13_feed 51 = .ok (.iload_n 2, 1) := by decide +kernel
theorem dX13_feed_52 : decode cX13_feed 52 = .ok (.goto 16, 3) := by decide +kernel
theorem dX13_feed_55 : decode cX13_feed 55 = .ok (.iload 5, 2) := by decide +kernel
theorem dX13_feed_57 : decode cX13_feed 57 = .ok (.bipush 12, 2) := by decide +kernel
theorem dX13_feed_59 : decode cX13_feed 59 = .ok (.if_icmp .ge 7, 3) := by decide +kernel
theorem dX13_feed_62 : decode cX13_feed 62 = .ok (.iload_n 3, 1) := by decide +kernel
theorem dX13_feed_63 : decode cX13_feed 63 = .ok (.goto 5, 3) := by decide +kernel
theorem dX13_feed_66 : decode cX13_feed 66 = .ok (.iload 4, 2) := by decide +kernel
theorem dX13_feed_68 : decode cX13_feed 68 = .ok (.istore 6, 2) := by decide +kernel
theorem dX13_feed_70 : decode cX13_feed 70 = .ok (.aload_n 0, 1) := by decide +kernel
theorem dX13_feed_71 : decode cX13_feed 71 = .ok (.getfield 42, 3) := by decide +kernel
theorem dX13_feed_74 : decode cX13_feed 74 = .ok (.aload_n 0, 1) := by decide +kernel
theorem dX13_feed_75 : decode cX13_feed 75 = .ok (.getfield 161, 3) := by decide +kernel
theorem dX13_feed_78 : decode cX13_feed 78 = .ok (.iload 5, 2) := by decide +kernel
theorem dX13_feed_80 : decode cX13_feed 80 = .ok (.iadd, 1) := by decide +kernel
theorem dX13_feed_81 : decode cX13_feed 81 = .ok (.iload 6, 2) := by decide +kernel
theorem dX13_feed_83 : decode cX13_feed 83 = .ok (.bipush 24, 2) := by decide +kernel
theorem dX13_feed_85 : decode cX13_feed 85 = .ok (.bipush 8, 2) := by decide +kernel
theorem dX13_feed_87 : decode cX13_feed 87 = .ok (.iload 5, 2) := by decide +kernel
theorem dX13_feed_89 : decode cX13_feed 89 = .ok (.iconst 4, 1) := by decide +kernel
theorem dX13_feed_90 : decode cX13_feed 90 = .ok (.irem, 1) := by decide +kernel
theorem dX13_feed_91 : decode cX13_feed 91 = .ok (.imul, 1) := by decide +kernel
theorem dX13_feed_92 : decode cX13_feed 92 = .ok (.isub, 1) := by decide +kernel
theorem dX13_feed_93 : decode cX13_feed 93 = .ok (.ishr, 1) := by decide +kernel
theorem dX13_feed_94 : decode cX13_feed 94 = .ok (.sipush 255, 3) := by decide +kernel
theorem dX13_feed_97 : decode cX13_feed 97 = .ok (.iand, 1) := by decide +kernel
theorem dX13_feed_98 : decode cX13_feed 98 = .ok (.iastore, 1) := by decide +kernel
theorem dX13_feed_99 : decode cX13_feed 99 = .ok (.iinc 5 1, 3) := by decide +kernel
theorem dX13_feed_102 : decode cX13_feed 102 = .ok (.goto (-75), 3) := by decide +kernel
theorem dX13_feed_105 : decode cX13_feed 105 = .ok (.aload_n 0, 1) := by decide +kernel
theorem dX13_feed_106 : decode cX13_feed 106 = .ok (.dup, 1) := by decide +kernel
theorem dX13_feed_107 : decode cX13_feed 107 = .ok (.getfield 161, 3) := by decide +kernel
theorem dX13_feed_110 : decode cX13_feed 110 = .ok (.bipush 16, 2) := by decide +kernel
theorem dX13_feed_112 : decode cX13_feed 112 = .ok (.iadd, 1) := by decide +kernel
theorem dX13_feed_113 : decode cX13_feed 113 = .ok (.putfield 161, 3) := by decide +kernel
theorem dX13_feed_116 : decode cX13_feed 116 = .ok (.aload_n 0, 1) := by decide +kernel
theorem dX13_feed_117 : decode cX13_feed 117 = .ok (.getfield 161, 3) := by decide +kernel
theorem dX13_feed_120 : decode cX13_feed 120 = .ok (.ireturn, 1) := by decide +kernel

