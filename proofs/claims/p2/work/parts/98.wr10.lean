theorem dX13_sayPool_0 : decode cX13_sayPool 0 = .ok (.iload_n 1, 1) := by decide +kernel
theorem dX13_sayPool_1 : decode cX13_sayPool 1 = .ok (.iconst 1, 1) := by decide +kernel
theorem dX13_sayPool_2 : decode cX13_sayPool 2 = .ok (.isub, 1) := by decide +kernel
theorem dX13_sayPool_3 : decode cX13_sayPool 3 = .ok (.istore_n 2, 1) := by decide +kernel
theorem dX13_sayPool_4 : decode cX13_sayPool 4 = .ok (.iload_n 2, 1) := by decide +kernel
theorem dX13_sayPool_5 : decode cX13_sayPool 5 = .ok (.ifCond .lt 20, 3) := by decide +kernel
theorem dX13_sayPool_8 : decode cX13_sayPool 8 = .ok (.aload_n 0, 1) := by decide +kernel
theorem dX13_sayPool_9 : decode cX13_sayPool 9 = .ok (.getfield 88, 3) := by decide +kernel
theorem dX13_sayPool_12 : decode cX13_sayPool 12 = .ok (.iload_n 2, 1) := by decide +kernel
theorem dX13_sayPool_13 : decode cX13_sayPool 13 = .ok (.iaload, 1) := by decide +kernel
theorem dX13_sayPool_14 : decode cX13_sayPool 14 = .ok (.bipush 10, 2) := by decide +kernel
theorem dX13_sayPool_16 : decode cX13_sayPool 16 = .ok (.if_icmp .eq 9, 3) := by decide +kernel
theorem dX13_sayPool_19 : decode cX13_sayPool 19 = .ok (.iinc 2 (-1), 3) := by decide +kernel
theorem dX13_sayPool_22 : decode cX13_sayPool 22 = .ok (.goto (-18), 3) := by decide +kernel
theorem dX13_sayPool_25 : decode cX13_sayPool 25 = .ok (.iload_n 2, 1) := by decide +kernel
theorem dX13_sayPool_26 : decode cX13_sayPool 26 = .ok (.iconst 1, 1) := by decide +kernel
theorem dX13_sayPool_27 : decode cX13_sayPool 27 = .ok (.iadd, 1) := by decide +kernel
theorem dX13_sayPool_28 : decode cX13_sayPool 28 = .ok (.istore_n 3, 1) := by decide +kernel
theorem dX13_sayPool_29 : decode cX13_sayPool 29 = .ok (.iload_n 3, 1) := by decide +kernel
theorem dX13_sayPool_30 : decode cX13_sayPool 30 = .ok (.iload_n 1, 1) := by decide +kernel
theorem dX13_sayPool_31 : decode cX13_sayPool 31 = .ok (.if_icmp .ge 30, 3) := by decide +kernel
theorem dX13_sayPool_34 : decode cX13_sayPool 34 = .ok (.aload_n 0, 1) := by decide +kernel
theorem dX13_sayPool_35 : decode cX13_sayPool 35 = .ok (.getfield 88, 3) := by decide +kernel
theorem dX13_sayPool_38 : decode cX13_sayPool 38 = .ok (.iload_n 3, 1) := by decide +kernel
theorem dX13_sayPool_39 : decode cX13_sayPool 39 = .ok (.iaload, 1) := by decide +kernel
theorem dX13_sayPool_40 : decode cX13_sayPool 40 = .ok (.bipush 7, 2) := by decide +kernel
theorem dX13_sayPool_42 : decode cX13_sayPool 42 = .ok (.if_icmp .ne 13, 3) := by decide +kernel
theorem dX13_sayPool_45 : decode cX13_sayPool 45 = .ok (.aload_n 0, 1) := by decide +kernel
theorem dX13_sayPool_46 : decode cX13_sayPool 46 = .ok (.aload_n 0, 1) := by decide +kernel
theorem dX13_sayPool_47 : decode cX13_sayPool 47 = .ok (.iload_n 3, 1) := by decide +kernel
theorem dX13_sayPool_48 : decode cX13_sayPool 48 = .ok (.iconst 0, 1) := by decide +kernel
theorem dX13_sayPool_49 : decode cX13_sayPool 49 = .ok (.invokevirtual 418, 3) := by decide +kernel
theorem dX13_sayPool_52 : decode cX13_sayPool 52 = .ok (.invokevirtual 444, 3) := by decide +kernel
theorem dX13_sayPool_55 : decode cX13_sayPool 55 = .ok (.iinc 3 1, 3) := by decide +kernel
theorem dX13_sayPool_58 : decode cX13_sayPool 58 = .ok (.goto (-29), 3) := by decide +kernel
theorem dX13_sayPool_61 : decode cX13_sayPool 61 = .ok (.return_, 1) := by decide +kernel

