theorem dX2_leastSum_0 : decode cX2_leastSum 0 = .ok (.iconst 0, 1) := by decide +kernel
theorem dX2_leastSum_1 : decode cX2_leastSum 1 = .ok (.istore_n 3, 1) := by decide +kernel
theorem dX2_leastSum_2 : decode cX2_leastSum 2 = .ok (.iconst 0, 1) := by decide +kernel
theorem dX2_leastSum_3 : decode cX2_leastSum 3 = .ok (.istore 4, 2) := by decide +kernel
theorem dX2_leastSum_5 : decode cX2_leastSum 5 = .ok (.iload 4, 2) := by decide +kernel
theorem dX2_leastSum_7 : decode cX2_leastSum 7 = .ok (.aload_n 0, 1) := by decide +kernel
theorem dX2_leastSum_8 : decode cX2_leastSum 8 = .ok (.getfield 18, 3) := by decide +kernel
theorem dX2_leastSum_11 : decode cX2_leastSum 11 = .ok (.if_icmp .ge 69, 3) := by decide +kernel
theorem dX2_leastSum_14 : decode cX2_leastSum 14 = .ok (.aload_n 1, 1) := by decide +kernel
theorem dX2_leastSum_15 : decode cX2_leastSum 15 = .ok (.aload_n 0, 1) := by decide +kernel
theorem dX2_leastSum_16 : decode cX2_leastSum 16 = .ok (.getfield 21, 3) := by decide +kernel
theorem dX2_leastSum_19 : decode cX2_leastSum 19 = .ok (.iload 4, 2) := by decide +kernel
theorem dX2_leastSum_21 : decode cX2_leastSum 21 = .ok (.iaload, 1) := by decide +kernel
theorem dX2_leastSum_22 : decode cX2_leastSum 22 = .ok (.iaload, 1) := by decide +kernel
theorem dX2_leastSum_23 : decode cX2_leastSum 23 = .ok (.istore 5, 2) := by decide +kernel
theorem dX2_leastSum_25 : decode cX2_leastSum 25 = .ok (.aload_n 2, 1) := by decide +kernel
theorem dX2_leastSum_26 : decode cX2_leastSum 26 = .ok (.aload_n 0, 1) := by decide +kernel
theorem dX2_leastSum_27 : decode cX2_leastSum 27 = .ok (.getfield 21, 3) := by decide +kernel
theorem dX2_leastSum_30 : decode cX2_leastSum 30 = .ok (.iload 4, 2) := by decide +kernel
theorem dX2_leastSum_32 : decode cX2_leastSum 32 = .ok (.iaload, 1) := by decide +kernel
theorem dX2_leastSum_33 : decode cX2_leastSum 33 = .ok (.iaload, 1) := by decide +kernel
theorem dX2_leastSum_34 : decode cX2_leastSum 34 = .ok (.iconst 1, 1) := by decide +kernel
theorem dX2_leastSum_35 : decode cX2_leastSum 35 = .ok (.isub, 1) := by decide +kernel
theorem dX2_leastSum_36 : decode cX2_leastSum 36 = .ok (.istore 6, 2) := by decide +kernel
theorem dX2_leastSum_38 : decode cX2_leastSum 38 = .ok (.iload_n 3, 1) := by decide +kernel
theorem dX2_leastSum_39 : decode cX2_leastSum 39 = .ok (.iload 5, 2) := by decide +kernel
theorem dX2_leastSum_41 : decode cX2_leastSum 41 = .ok (.iconst (-1), 1) := by decide +kernel
theorem dX2_leastSum_42 : decode cX2_leastSum 42 = .ok (.if_icmp .ne 20, 3) := by decide +kernel
theorem dX2_leastSum_45 : decode cX2_leastSum 45 = .ok (.iconst 0, 1) := by decide +kernel
theorem dX2_leastSum_46 : decode cX2_leastSum 46 = .ok (.aload_n 0, 1) := by decide +kernel
theorem dX2_leastSum_47 : decode cX2_leastSum 47 = .ok (.getfield 25, 3) := by decide +kernel
theorem dX2_leastSum_50 : decode cX2_leastSum 50 = .ok (.iload 4, 2) := by decide +kernel
theorem dX2_leastSum_52 : decode cX2_leastSum 52 = .ok (.iaload, 1) := by decide +kernel
theorem dX2_leastSum_53 : decode cX2_leastSum 53 = .ok (.iload 6, 2) := by decide +kernel
theorem dX2_leastSum_55 : decode cX2_leastSum 55 = .ok (.imul, 1) := by decide +kernel
theorem dX2_leastSum_56 : decode cX2_leastSum 56 = .ok (.invokestatic 63, 3) := by decide +kernel
theorem dX2_leastSum_59 : decode cX2_leastSum 59 = .ok (.goto 13, 3) := by decide +kernel
theorem dX2_leastSum_62 : decode cX2_leastSum 62 = .ok (.aload_n 0, 1) := by decide +kernel
theorem dX2_leastSum_63 : decode cX2_leastSum 63 = .ok (.getfield 25, 3) := by decide +kernel
theorem dX2_leastSum_66 : decode cX2_leastSum 66 = .ok (.iload 4, 2) := by decide +kernel
theorem dX2_leastSum_68 : decode cX2_leastSum 68 = .ok (.iaload, 1) := by decide +kernel
theorem dX2_leastSum_69 : decode cX2_leastSum 69 = .ok (.iload 5, 2) := by decide +kernel
theorem dX2_leastSum_71 : decode cX2_leastSum 71 = .ok (.imul, 1) := by decide +kernel
theorem dX2_leastSum_72 : decode cX2_leastSum 72 = .ok (.iadd, 1) := by decide +kernel
theorem dX2_leastSum_73 : decode cX2_leastSum 73 = .ok (.istore_n 3, 1) := by decide +kernel
theorem dX2_leastSum_74 : decode cX2_leastSum 74 = .ok (.iinc 4 1, 3) := by decide +kernel
theorem dX2_leastSum_77 : decode cX2_leastSum 77 = .ok (.goto (-72), 3) := by decide +kernel
theorem dX2_leastSum_80 : decode cX2_leastSum 80 = .ok (.iload_n 3, 1) := by decide +kernel
theorem dX2_leastSum_81 : decode cX2_leastSum 81 = .ok (.ireturn, 1) := by decide +kernel
theorem dX2_greatestSum_0 : decode cX2_greatestSum 0 = .ok (.iconst 0, 1) := by decide +kernel
theorem dX2_greatestSum_1 : decode cX2_greatestSum 1 = .ok (.istore_n 3, 1) := by decide +kernel
theorem dX2_greatestSum_2 : decode cX2_greatestSum 2 = .ok (.iconst 0, 1) := by decide +kernel
theorem dX2_greatestSum_3 : decode cX2_greatestSum 3 = .ok (.istore 4, 2) := by decide +kernel
theorem dX2_greatestSum_5 : decode cX2_greatestSum 5 = .ok (.iload 4, 2) := by decide +kernel
theorem dX2_greatestSum_7 : decode cX2_greatestSum 7 = .ok (.aload_n 0, 1) := by decide +kernel
theorem dX2_greatestSum_8 : decode cX2_greatestSum 8 = .ok (.getfield 18, 3) := by decide +kernel
theorem dX2_greatestSum_11 : decode cX2_greatestSum 11 = .ok (.if_icmp .ge 69, 3) := by decide +kernel
theorem dX2_greatestSum_14 : decode cX2_greatestSum 14 = .ok (.aload_n 1, 1) := by decide +kernel
theorem dX2_greatestSum_15 : decode cX2_greatestSum 15 = .ok (.aload_n 0, 1) := by decide +kernel
theorem dX2_greatestSum_16 : decode cX2_greatestSum 16 = .ok (.getfield 21, 3) := by decide +kernel
theorem dX2_greatestSum_19 : decode cX2_greatestSum 19 = .ok (.iload 4, 2) := by decide +kernel
theorem dX2_greatestSum_21 : decode cX2_greatestSum 21 = .ok (.iaload, 1) := by decide +kernel
theorem dX2_greatestSum_22 : decode cX2_greatestSum 22 = .ok (.iaload, 1) := by decide +kernel
theorem dX2_greatestSum_23 : decode cX2_greatestSum 23 = .ok (.istore 5, 2) := by decide +kernel
theorem dX2_greatestSum_25 : decode cX2_greatestSum 25 = .ok (.aload_n 2, 1) := by decide +kernel
theorem dX2_greatestSum_26 : decode cX2_greatestSum 26 = .ok (.aload_n 0, 1) := by decide +kernel
theorem dX2_greatestSum_27 : decode cX2_greatestSum 27 = .ok (.getfield 21, 3) := by decide +kernel
theorem dX2_greatestSum_30 : decode cX2_greatestSum 30 = .ok (.iload 4, 2) := by decide +kernel
theorem dX2_greatestSum_32 : decode cX2_greatestSum 32 = .ok (.iaload, 1) := by decide +kernel
theorem dX2_greatestSum_33 : decode cX2_greatestSum 33 = .ok (.iaload, 1) := by decide +kernel
theorem dX2_greatestSum_34 : decode cX2_greatestSum 34 = .ok (.iconst 1, 1) := by decide +kernel
theorem dX2_greatestSum_35 : decode cX2_greatestSum 35 = .ok (.isub, 1) := by decide +kernel
theorem dX2_greatestSum_36 : decode cX2_greatestSum 36 = .ok (.istore 6, 2) := by decide +kernel
theorem dX2_greatestSum_38 : decode cX2_greatestSum 38 = .ok (.iload_n 3, 1) := by decide +kernel
theorem dX2_greatestSum_39 : decode cX2_greatestSum 39 = .ok (.iload 5, 2) := by decide +kernel
theorem dX2_greatestSum_41 : decode cX2_greatestSum 41 = .ok (.iconst (-1), 1) := by decide +kernel
theorem dX2_greatestSum_42 : decode cX2_greatestSum 42 = .ok (.if_icmp .ne 20, 3) := by decide +kernel
theorem dX2_greatestSum_45 : decode cX2_greatestSum 45 = .ok (.iconst 0, 1) := by decide +kernel
theorem dX2_greatestSum_46 : decode cX2_greatestSum 46 = .ok (.aload_n 0, 1) := by decide +kernel
theorem dX2_greatestSum_47 : decode cX2_greatestSum 47 = .ok (.getfield 25, 3) := by decide +kernel
theorem dX2_greatestSum_50 : decode cX2_greatestSum 50 = .ok (.iload 4, 2) := by decide +kernel
theorem dX2_greatestSum_52 : decode cX2_greatestSum 52 = .ok (.iaload, 1) := by decide +kernel
theorem dX2_greatestSum_53 : decode cX2_greatestSum 53 = .ok (.iload 6, 2) := by decide +kernel
theorem dX2_greatestSum_55 : decode cX2_greatestSum 55 = .ok (.imul, 1) := by decide +kernel
theorem dX2_greatestSum_56 : decode cX2_greatestSum 56 = .ok (.invokestatic 50, 3) := by decide +kernel
theorem dX2_greatestSum_59 : decode cX2_greatestSum 59 = .ok (.goto 13, 3) := by decide +kernel
theorem dX2_greatestSum_62 : decode cX2_greatestSum 62 = .ok (.aload_n 0, 1) := by decide +kernel
theorem dX2_greatestSum_63 : decode cX2_greatestSum 63 = .ok (.getfield 25, 3) := by decide +kernel
theorem dX2_greatestSum_66 : decode cX2_greatestSum 66 = .ok (.iload 4, 2) := by decide +kernel
theorem dX2_greatestSum_68 : decode cX2_greatestSum 68 = .ok (.iaload, 1) := by decide +kernel
theorem dX2_greatestSum_69 : decode cX2_greatestSum 69 = .ok (.iload 5, 2) := by decide +kernel
theorem dX2_greatestSum_71 : decode cX2_greatestSum 71 = .ok (.imul, 1) := by decide +kernel
theorem dX2_greatestSum_72 : decode cX2_greatestSum 72 = .ok (.iadd, 1) := by decide +kernel
theorem dX2_greatestSum_73 : decode cX2_greatestSum 73 = .ok (.istore_n 3, 1) := by decide +kernel
theorem dX2_greatestSum_74 : decode cX2_greatestSum 74 = .ok (.iinc 4 1, 3) := by decide +kernel
theorem dX2_greatestSum_77 : decode cX2_greatestSum 77 = .ok (.goto (-72), 3) := by decide +kernel
theorem dX2_greatestSum_80 : decode cX2_greatestSum 80 = .ok (.iload_n 3, 1) := by decide +kernel
theorem dX2_greatestSum_81 : decode cX2_greatestSum 81 = .ok (.ireturn, 1) := by decide +kernel
