theorem dX5_addJudged_0 : decode cX5_addJudged 0 = .ok (.aload_n 0, 1) := by decide +kernel
theorem dX5_addJudged_1 : decode cX5_addJudged 1 = .ok (.getfield 49, 3) := by decide +kernel
theorem dX5_addJudged_4 : decode cX5_addJudged 4 = .ok (.aload_n 0, 1) := by decide +kernel
theorem dX5_addJudged_5 : decode cX5_addJudged 5 = .ok (.getfield 15, 3) := by decide +kernel
theorem dX5_addJudged_8 : decode cX5_addJudged 8 = .ok (.aload_n 0, 1) := by decide +kernel
theorem dX5_addJudged_9 : decode cX5_addJudged 9 = .ok (.getfield 31, 3) := by decide +kernel
theorem dX5_addJudged_12 : decode cX5_addJudged 12 = .ok (.getfield 91, 3) := by decide +kernel
theorem dX5_addJudged_15 : decode cX5_addJudged 15 = .ok (.i2l, 1) := by decide +kernel
theorem dX5_addJudged_16 : decode cX5_addJudged 16 = .ok (.bipush 18, 2) := by decide +kernel
theorem dX5_addJudged_18 : decode cX5_addJudged 18 = .ok (.lshl, 1) := by decide +kernel
theorem dX5_addJudged_19 : decode cX5_addJudged 19 = .ok (.lload_n 2, 1) := by decide +kernel
theorem dX5_addJudged_20 : decode cX5_addJudged 20 = .ok (.lor, 1) := by decide +kernel
theorem dX5_addJudged_21 : decode cX5_addJudged 21 = .ok (.lastore, 1) := by decide +kernel
theorem dX5_addJudged_22 : decode cX5_addJudged 22 = .ok (.aload_n 0, 1) := by decide +kernel
theorem dX5_addJudged_23 : decode cX5_addJudged 23 = .ok (.getfield 53, 3) := by decide +kernel
theorem dX5_addJudged_26 : decode cX5_addJudged 26 = .ok (.aload_n 0, 1) := by decide +kernel
theorem dX5_addJudged_27 : decode cX5_addJudged 27 = .ok (.getfield 15, 3) := by decide +kernel
theorem dX5_addJudged_30 : decode cX5_addJudged 30 = .ok (.iload_n 1, 1) := by decide +kernel
theorem dX5_addJudged_31 : decode cX5_addJudged 31 = .ok (.i2b, 1) := by decide +kernel
theorem dX5_addJudged_32 : decode cX5_addJudged 32 = .ok (.bastore, 1) := by decide +kernel
theorem dX5_addJudged_33 : decode cX5_addJudged 33 = .ok (.aload_n 0, 1) := by decide +kernel
theorem dX5_addJudged_34 : decode cX5_addJudged 34 = .ok (.getfield 57, 3) := by decide +kernel
theorem dX5_addJudged_37 : decode cX5_addJudged 37 = .ok (.aload_n 0, 1) := by decide +kernel
theorem dX5_addJudged_38 : decode cX5_addJudged 38 = .ok (.getfield 15, 3) := by decide +kernel
theorem dX5_addJudged_41 : decode cX5_addJudged 41 = .ok (.aload_n 0, 1) := by decide +kernel
theorem dX5_addJudged_42 : decode cX5_addJudged 42 = .ok (.getfield 31, 3) := by decide +kernel
theorem dX5_addJudged_45 : decode cX5_addJudged 45 = .ok (.getfield 94, 3) := by decide +kernel
theorem dX5_addJudged_48 : decode cX5_addJudged 48 = .ok (.i2b, 1) := by decide +kernel
theorem dX5_addJudged_49 : decode cX5_addJudged 49 = .ok (.bastore, 1) := by decide +kernel
theorem dX5_addJudged_50 : decode cX5_addJudged 50 = .ok (.aload_n 0, 1) := by decide +kernel
theorem dX5_addJudged_51 : decode cX5_addJudged 51 = .ok (.getfield 60, 3) := by decide +kernel
theorem dX5_addJudged_54 : decode cX5_addJudged 54 = .ok (.aload_n 0, 1) := by decide +kernel
theorem dX5_addJudged_55 : decode cX5_addJudged 55 = .ok (.getfield 15, 3) := by decide +kernel
theorem dX5_addJudged_58 : decode cX5_addJudged 58 = .ok (.aload_n 0, 1) := by decide +kernel
theorem dX5_addJudged_59 : decode cX5_addJudged 59 = .ok (.getfield 31, 3) := by decide +kernel
theorem dX5_addJudged_62 : decode cX5_addJudged 62 = .ok (.getfield 96, 3) := by decide +kernel
theorem dX5_addJudged_65 : decode cX5_addJudged 65 = .ok (.i2b, 1) := by decide +kernel
theorem dX5_addJudged_66 : decode cX5_addJudged 66 = .ok (.bastore, 1) := by decide +kernel
theorem dX5_addJudged_67 : decode cX5_addJudged 67 = .ok (.aload_n 0, 1) := by decide +kernel
theorem dX5_addJudged_68 : decode cX5_addJudged 68 = .ok (.getfield 63, 3) := by decide +kernel
theorem dX5_addJudged_71 : decode cX5_addJudged 71 = .ok (.aload_n 0, 1) := by decide +kernel
theorem dX5_addJudged_72 : decode cX5_addJudged 72 = .ok (.getfield 15, 3) := by decide +kernel
theorem dX5_addJudged_75 : decode cX5_addJudged 75 = .ok (.iconst 0, 1) := by decide +kernel
theorem dX5_addJudged_76 : decode cX5_addJudged 76 = .ok (.bastore, 1) := by decide +kernel
theorem dX5_addJudged_77 : decode cX5_addJudged 77 = .ok (.aload_n 0, 1) := by decide +kernel
theorem dX5_addJudged_78 : decode cX5_addJudged 78 = .ok (.getfield 66, 3) := by decide +kernel
theorem dX5_addJudged_81 : decode cX5_addJudged 81 = .ok (.aload_n 0, 1) := by decide +kernel
theorem dX5_addJudged_82 : decode cX5_addJudged 82 = .ok (.getfield 15, 3) := by decide +kernel
theorem dX5_addJudged_85 : decode cX5_addJudged 85 = .ok (.bipush (-9), 2) := by decide +kernel
theorem dX5_addJudged_87 : decode cX5_addJudged 87 = .ok (.bastore, 1) := by decide +kernel
theorem dX5_addJudged_88 : decode cX5_addJudged 88 = .ok (.aload_n 0, 1) := by decide +kernel
theorem dX5_addJudged_89 : decode cX5_addJudged 89 = .ok (.getfield 69, 3) := by decide +kernel
theorem dX5_addJudged_92 : decode cX5_addJudged 92 = .ok (.aload_n 0, 1) := by decide +kernel
theorem dX5_addJudged_93 : decode cX5_addJudged 93 = .ok (.getfield 15, 3) := by decide +kernel
theorem dX5_addJudged_96 : decode cX5_addJudged 96 = .ok (.iconst (-1), 1) := by decide +kernel
theorem dX5_addJudged_97 : decode cX5_addJudged 97 = .ok (.sastore, 1) := by decide +kernel
theorem dX5_addJudged_98 : decode cX5_addJudged 98 = .ok (.aload_n 0, 1) := by decide +kernel
theorem dX5_addJudged_99 : decode cX5_addJudged 99 = .ok (.getfield 73, 3) := by decide +kernel
theorem dX5_addJudged_102 : decode cX5_addJudged 102 = .ok (.aload_n 0, 1) := by decide +kernel
theorem dX5_addJudged_103 : decode cX5_addJudged 103 = .ok (.getfield 15, 3) := by decide +kernel
theorem dX5_addJudged_106 : decode cX5_addJudged 106 = .ok (.iconst 0, 1) := by decide +kernel
theorem dX5_addJudged_107 : decode cX5_addJudged 107 = .ok (.bastore, 1) := by decide +kernel
theorem dX5_addJudged_108 : decode cX5_addJudged 108 = .ok (.aload_n 0, 1) := by decide +kernel
theorem dX5_addJudged_109 : decode cX5_addJudged 109 = .ok (.dup, 1) := by decide +kernel
theorem dX5_addJudged_110 : decode cX5_addJudged 110 = .ok (.getfield 15, 3) := by decide +kernel
theorem dX5_addJudged_113 : decode cX5_addJudged 113 = .ok (.iconst 1, 1) := by decide +kernel
theorem dX5_addJudged_114 : decode cX5_addJudged 114 = .ok (.iadd, 1) := by decide +kernel
theorem dX5_addJudged_115 : decode cX5_addJudged 115 = .ok (.putfield 15, 3) := by decide +kernel
theorem dX5_addJudged_118 : decode cX5_addJudged 118 = .ok (.return_, 1) := by decide +kernel
theorem dX5_nextFree_0 : decode cX5_nextFree 0 = .ok (.iconst (-1), 1) := by decide +kernel
theorem dX5_nextFree_1 : decode cX5_nextFree 1 = .ok (.istore_n 1, 1) := by decide +kernel
theorem dX5_nextFree_2 : decode cX5_nextFree 2 = .ok (.iconst 0, 1) := by decide +kernel
theorem dX5_nextFree_3 : decode cX5_nextFree 3 = .ok (.istore_n 2, 1) := by decide +kernel
theorem dX5_nextFree_4 : decode cX5_nextFree 4 = .ok (.iload_n 2, 1) := by decide +kernel
theorem dX5_nextFree_5 : decode cX5_nextFree 5 = .ok (.aload_n 0, 1) := by decide +kernel
theorem dX5_nextFree_6 : decode cX5_nextFree 6 = .ok (.getfield 15, 3) := by decide +kernel
theorem dX5_nextFree_9 : decode cX5_nextFree 9 = .ok (.if_icmp .ge 60, 3) := by decide +kernel
theorem dX5_nextFree_12 : decode cX5_nextFree 12 = .ok (.aload_n 0, 1) := by decide +kernel
theorem dX5_nextFree_13 : decode cX5_nextFree 13 = .ok (.getfield 57, 3) := by decide +kernel
theorem dX5_nextFree_16 : decode cX5_nextFree 16 = .ok (.iload_n 2, 1) := by decide +kernel
theorem dX5_nextFree_17 : decode cX5_nextFree 17 = .ok (.baload, 1) := by decide +kernel
theorem dX5_nextFree_18 : decode cX5_nextFree 18 = .ok (.ifCond .ne 16, 3) := by decide +kernel
theorem dX5_nextFree_21 : decode cX5_nextFree 21 = .ok (.aload_n 0, 1) := by decide +kernel
theorem dX5_nextFree_22 : decode cX5_nextFree 22 = .ok (.getfield 63, 3) := by decide +kernel
theorem dX5_nextFree_25 : decode cX5_nextFree 25 = .ok (.iload_n 2, 1) := by decide +kernel
theorem dX5_nextFree_26 : decode cX5_nextFree 26 = .ok (.baload, 1) := by decide +kernel
theorem dX5_nextFree_27 : decode cX5_nextFree 27 = .ok (.ifCond .ne 7, 3) := by decide +kernel
theorem dX5_nextFree_30 : decode cX5_nextFree 30 = .ok (.iconst 1, 1) := by decide +kernel
theorem dX5_nextFree_31 : decode cX5_nextFree 31 = .ok (.goto 4, 3) := by decide +kernel
theorem dX5_nextFree_34 : decode cX5_nextFree 34 = .ok (.iconst 0, 1) := by decide +kernel
theorem dX5_nextFree_35 : decode cX5_nextFree 35 = .ok (.istore_n 3, 1) := by decide +kernel
theorem dX5_nextFree_36 : decode cX5_nextFree 36 = .ok (.iload_n 3, 1) := by decide +kernel
theorem dX5_nextFree_37 : decode cX5_nextFree 37 = .ok (.ifCond .eq 26, 3) := by decide +kernel
theorem dX5_nextFree_40 : decode cX5_nextFree 40 = .ok (.iload_n 1, 1) := by decide +kernel
theorem dX5_nextFree_41 : decode cX5_nextFree 41 = .ok (.iconst (-1), 1) := by decide +kernel
theorem dX5_nextFree_42 : decode cX5_nextFree 42 = .ok (.if_icmp .eq 19, 3) := by decide +kernel
theorem dX5_nextFree_45 : decode cX5_nextFree 45 = .ok (.aload_n 0, 1) := by decide +kernel
theorem dX5_nextFree_46 : decode cX5_nextFree 46 = .ok (.getfield 49, 3) := by decide +kernel
theorem dX5_nextFree_49 : decode cX5_nextFree 49 = .ok (.iload_n 2, 1) := by decide +kernel
theorem dX5_nextFree_50 : decode cX5_nextFree 50 = .ok (.laload, 1) := by decide +kernel
theorem dX5_nextFree_51 : decode cX5_nextFree 51 = .ok (.aload_n 0, 1) := by decide +kernel
theorem dX5_nextFree_52 : decode cX5_nextFree 52 = .ok (.getfield 49, 3) := by decide +kernel
theorem dX5_nextFree_55 : decode cX5_nextFree 55 = .ok (.iload_n 1, 1) := by decide +kernel
theorem dX5_nextFree_56 : decode cX5_nextFree 56 = .ok (.laload, 1) := by decide +kernel
theorem dX5_nextFree_57 : decode cX5_nextFree 57 = .ok (.lcmp, 1) := by decide +kernel
theorem dX5_nextFree_58 : decode cX5_nextFree 58 = .ok (.ifCond .ge 5, 3) := by decide +kernel
theorem dX5_nextFree_61 : decode cX5_nextFree 61 = .ok (.iload_n 2, 1) := by decide +kernel
theorem dX5_nextFree_62 : decode cX5_nextFree 62 = .ok (.istore_n 1, 1) := by decide +kernel
theorem dX5_nextFree_63 : decode cX5_nextFree 63 = .ok (.iinc 2 1, 3) := by decide +kernel
theorem dX5_nextFree_66 : decode cX5_nextFree 66 = .ok (.goto (-62), 3) := by decide +kernel
theorem dX5_nextFree_69 : decode cX5_nextFree 69 = .ok (.iload_n 1, 1) := by decide +kernel
theorem dX5_nextFree_70 : decode cX5_nextFree 70 = .ok (.ireturn, 1) := by decide +kernel
theorem dX5_nextOfWalk_0 : decode cX5_nextOfWalk 0 = .ok (.iconst (-1), 1) := by decide +kernel
theorem dX5_nextOfWalk_1 : decode cX5_nextOfWalk 1 = .ok (.istore_n 1, 1) := by decide +kernel
theorem dX5_nextOfWalk_2 : decode cX5_nextOfWalk 2 = .ok (.iconst 0, 1) := by decide +kernel
theorem dX5_nextOfWalk_3 : decode cX5_nextOfWalk 3 = .ok (.istore_n 2, 1) := by decide +kernel
theorem dX5_nextOfWalk_4 : decode cX5_nextOfWalk 4 = .ok (.iload_n 2, 1) := by decide +kernel
theorem dX5_nextOfWalk_5 : decode cX5_nextOfWalk 5 = .ok (.aload_n 0, 1) := by decide +kernel
theorem dX5_nextOfWalk_6 : decode cX5_nextOfWalk 6 = .ok (.getfield 15, 3) := by decide +kernel
theorem dX5_nextOfWalk_9 : decode cX5_nextOfWalk 9 = .ok (.if_icmp .ge 70, 3) := by decide +kernel
theorem dX5_nextOfWalk_12 : decode cX5_nextOfWalk 12 = .ok (.aload_n 0, 1) := by decide +kernel
theorem dX5_nextOfWalk_13 : decode cX5_nextOfWalk 13 = .ok (.getfield 73, 3) := by decide +kernel
theorem dX5_nextOfWalk_16 : decode cX5_nextOfWalk 16 = .ok (.iload_n 2, 1) := by decide +kernel
theorem dX5_nextOfWalk_17 : decode cX5_nextOfWalk 17 = .ok (.baload, 1) := by decide +kernel
theorem dX5_nextOfWalk_18 : decode cX5_nextOfWalk 18 = .ok (.ifCond .eq 26, 3) := by decide +kernel
theorem dX5_nextOfWalk_21 : decode cX5_nextOfWalk 21 = .ok (.aload_n 0, 1) := by decide +kernel
theorem dX5_nextOfWalk_22 : decode cX5_nextOfWalk 22 = .ok (.getfield 57, 3) := by decide +kernel
theorem dX5_nextOfWalk_25 : decode cX5_nextOfWalk 25 = .ok (.iload_n 2, 1) := by decide +kernel
theorem dX5_nextOfWalk_26 : decode cX5_nextOfWalk 26 = .ok (.baload, 1) := by decide +kernel
theorem dX5_nextOfWalk_27 : decode cX5_nextOfWalk 27 = .ok (.ifCond .ne 17, 3) := by decide +kernel
theorem dX5_nextOfWalk_30 : decode cX5_nextOfWalk 30 = .ok (.aload_n 0, 1) := by decide +kernel
theorem dX5_nextOfWalk_31 : decode cX5_nextOfWalk 31 = .ok (.getfield 63, 3) := by decide +kernel
theorem dX5_nextOfWalk_34 : decode cX5_nextOfWalk 34 = .ok (.iload_n 2, 1) := by decide +kernel
theorem dX5_nextOfWalk_35 : decode cX5_nextOfWalk 35 = .ok (.baload, 1) := by decide +kernel
theorem dX5_nextOfWalk_36 : decode cX5_nextOfWalk 36 = .ok (.iconst 3, 1) := by decide +kernel
theorem dX5_nextOfWalk_37 : decode cX5_nextOfWalk 37 = .ok (.if_icmp .eq 7, 3) := by decide +kernel
theorem dX5_nextOfWalk_40 : decode cX5_nextOfWalk 40 = .ok (.iconst 1, 1) := by decide +kernel
theorem dX5_nextOfWalk_41 : decode cX5_nextOfWalk 41 = .ok (.goto 4, 3) := by decide +kernel
theorem dX5_nextOfWalk_44 : decode cX5_nextOfWalk 44 = .ok (.iconst 0, 1) := by decide +kernel
theorem dX5_nextOfWalk_45 : decode cX5_nextOfWalk 45 = .ok (.istore_n 3, 1) := by decide +kernel
theorem dX5_nextOfWalk_46 : decode cX5_nextOfWalk 46 = .ok (.iload_n 3, 1) := by decide +kernel
theorem dX5_nextOfWalk_47 : decode cX5_nextOfWalk 47 = .ok (.ifCond .eq 26, 3) := by decide +kernel
theorem dX5_nextOfWalk_50 : decode cX5_nextOfWalk 50 = .ok (.iload_n 1, 1) := by decide +kernel
theorem dX5_nextOfWalk_51 : decode cX5_nextOfWalk 51 = .ok (.iconst (-1), 1) := by decide +kernel
theorem dX5_nextOfWalk_52 : decode cX5_nextOfWalk 52 = .ok (.if_icmp .eq 19, 3) := by decide +kernel
theorem dX5_nextOfWalk_55 : decode cX5_nextOfWalk 55 = .ok (.aload_n 0, 1) := by decide +kernel
theorem dX5_nextOfWalk_56 : decode cX5_nextOfWalk 56 = .ok (.getfield 49, 3) := by decide +kernel
theorem dX5_nextOfWalk_59 : decode cX5_nextOfWalk 59 = .ok (.iload_n 2, 1) := by decide +kernel
theorem dX5_nextOfWalk_60 : decode cX5_nextOfWalk 60 = .ok (.laload, 1) := by decide +kernel
theorem dX5_nextOfWalk_61 : decode cX5_nextOfWalk 61 = .ok (.aload_n 0, 1) := by decide +kernel
theorem dX5_nextOfWalk_62 : decode cX5_nextOfWalk 62 = .ok (.getfield 49, 3) := by decide +kernel
theorem dX5_nextOfWalk_65 : decode cX5_nextOfWalk 65 = .ok (.iload_n 1, 1) := by decide +kernel
theorem dX5_nextOfWalk_66 : decode cX5_nextOfWalk 66 = .ok (.laload, 1) := by decide +kernel
theorem dX5_nextOfWalk_67 : decode cX5_nextOfWalk 67 = .ok (.lcmp, 1) := by decide +kernel
theorem dX5_nextOfWalk_68 : decode cX5_nextOfWalk 68 = .ok (.ifCond .ge 5, 3) := by decide +kernel
theorem dX5_nextOfWalk_71 : decode cX5_nextOfWalk 71 = .ok (.iload_n 2, 1) := by decide +kernel
theorem dX5_nextOfWalk_72 : decode cX5_nextOfWalk 72 = .ok (.istore_n 1, 1) := by decide +kernel
theorem dX5_nextOfWalk_73 : decode cX5_nextOfWalk 73 = .ok (.iinc 2 1, 3) := by decide +kernel
theorem dX5_nextOfWalk_76 : decode cX5_nextOfWalk 76 = .ok (.goto (-72), 3) := by decide +kernel
theorem dX5_nextOfWalk_79 : decode cX5_nextOfWalk 79 = .ok (.iload_n 1, 1) := by decide +kernel
theorem dX5_nextOfWalk_80 : decode cX5_nextOfWalk 80 = .ok (.ireturn, 1) := by decide +kernel
theorem dX5_isFull_0 : decode cX5_isFull 0 = .ok (.aload_n 0, 1) := by decide +kernel
theorem dX5_isFull_1 : decode cX5_isFull 1 = .ok (.getfield 53, 3) := by decide +kernel
theorem dX5_isFull_4 : decode cX5_isFull 4 = .ok (.iload_n 1, 1) := by decide +kernel
theorem dX5_isFull_5 : decode cX5_isFull 5 = .ok (.baload, 1) := by decide +kernel
theorem dX5_isFull_6 : decode cX5_isFull 6 = .ok (.aload_n 0, 1) := by decide +kernel
theorem dX5_isFull_7 : decode cX5_isFull 7 = .ok (.getfield 45, 3) := by decide +kernel
theorem dX5_isFull_10 : decode cX5_isFull 10 = .ok (.getfield 120, 3) := by decide +kernel
theorem dX5_isFull_13 : decode cX5_isFull 13 = .ok (.if_icmp .lt 7, 3) := by decide +kernel
theorem dX5_isFull_16 : decode cX5_isFull 16 = .ok (.iconst 1, 1) := by decide +kernel
theorem dX5_isFull_17 : decode cX5_isFull 17 = .ok (.goto 4, 3) := by decide +kernel
theorem dX5_isFull_20 : decode cX5_isFull 20 = .ok (.iconst 0, 1) := by decide +kernel
theorem dX5_isFull_21 : decode cX5_isFull 21 = .ok (.ireturn, 1) := by decide +kernel
theorem dX5_boundOf_0 : decode cX5_boundOf 0 = .ok (.aload_n 0, 1) := by decide +kernel
theorem dX5_boundOf_1 : decode cX5_boundOf 1 = .ok (.getfield 49, 3) := by decide +kernel
theorem dX5_boundOf_4 : decode cX5_boundOf 4 = .ok (.iload_n 1, 1) := by decide +kernel
theorem dX5_boundOf_5 : decode cX5_boundOf 5 = .ok (.laload, 1) := by decide +kernel
theorem dX5_boundOf_6 : decode cX5_boundOf 6 = .ok (.bipush 18, 2) := by decide +kernel
theorem dX5_boundOf_8 : decode cX5_boundOf 8 = .ok (.lshr, 1) := by decide +kernel
theorem dX5_boundOf_9 : decode cX5_boundOf 9 = .ok (.l2i, 1) := by decide +kernel
theorem dX5_boundOf_10 : decode cX5_boundOf 10 = .ok (.ireturn, 1) := by decide +kernel
set_option maxRecDepth 20000 in
theorem ggX5_valueOf_X5_shiftOf : GoodIn wsX5_valueOf wsX5_shiftOf := goodIn_g _ [(6, 1)] rfl (by decide +kernel)
set_option maxRecDepth 20000 in
theorem gX5_valueOf_X5_shiftOf : GoodIn wsX5_valueOf (va_wsS RX5 113 yX5_shiftOf wsX5_shiftOf) := goodIn_app (goodIn_of _ (by decide +kernel)) ggX5_valueOf_X5_shiftOf
theorem dX5_valueOf_0 : decode cX5_valueOf 0 = .ok (.aload_n 0, 1) := by decide +kernel
theorem dX5_valueOf_1 : decode cX5_valueOf 1 = .ok (.getfield 49, 3) := by decide +kernel
theorem dX5_valueOf_4 : decode cX5_valueOf 4 = .ok (.iload_n 1, 1) := by decide +kernel
theorem dX5_valueOf_5 : decode cX5_valueOf 5 = .ok (.laload, 1) := by decide +kernel
theorem dX5_valueOf_6 : decode cX5_valueOf 6 = .ok (.iload_n 2, 1) := by decide +kernel
theorem dX5_valueOf_7 : decode cX5_valueOf 7 = .ok (.invokestatic 113, 3) := by decide +kernel
theorem dX5_valueOf_10 : decode cX5_valueOf 10 = .ok (.lshr, 1) := by decide +kernel
theorem dX5_valueOf_11 : decode cX5_valueOf 11 = .ok (.ldc2_w 123, 3) := by decide +kernel
theorem dX5_valueOf_14 : decode cX5_valueOf 14 = .ok (.land, 1) := by decide +kernel
theorem dX5_valueOf_15 : decode cX5_valueOf 15 = .ok (.l2i, 1) := by decide +kernel
theorem dX5_valueOf_16 : decode cX5_valueOf 16 = .ok (.iconst 1, 1) := by decide +kernel
theorem dX5_valueOf_17 : decode cX5_valueOf 17 = .ok (.isub, 1) := by decide +kernel
theorem dX5_valueOf_18 : decode cX5_valueOf 18 = .ok (.ireturn, 1) := by decide +kernel
theorem dX5_widthBelow_0 : decode cX5_widthBelow 0 = .ok (.aload_n 0, 1) := by decide +kernel
theorem dX5_widthBelow_1 : decode cX5_widthBelow 1 = .ok (.getfield 69, 3) := by decide +kernel
theorem dX5_widthBelow_4 : decode cX5_widthBelow 4 = .ok (.iload_n 1, 1) := by decide +kernel
theorem dX5_widthBelow_5 : decode cX5_widthBelow 5 = .ok (.saload, 1) := by decide +kernel
theorem dX5_widthBelow_6 : decode cX5_widthBelow 6 = .ok (.iconst (-1), 1) := by decide +kernel
theorem dX5_widthBelow_7 : decode cX5_widthBelow 7 = .ok (.if_icmp .ne 7, 3) := by decide +kernel
theorem dX5_widthBelow_10 : decode cX5_widthBelow 10 = .ok (.iconst 0, 1) := by decide +kernel
theorem dX5_widthBelow_11 : decode cX5_widthBelow 11 = .ok (.goto 17, 3) := by decide +kernel
theorem dX5_widthBelow_14 : decode cX5_widthBelow 14 = .ok (.aload_n 0, 1) := by decide +kernel
theorem dX5_widthBelow_15 : decode cX5_widthBelow 15 = .ok (.getfield 45, 3) := by decide +kernel
theorem dX5_widthBelow_18 : decode cX5_widthBelow 18 = .ok (.getfield 108, 3) := by decide +kernel
theorem dX5_widthBelow_21 : decode cX5_widthBelow 21 = .ok (.aload_n 0, 1) := by decide +kernel
theorem dX5_widthBelow_22 : decode cX5_widthBelow 22 = .ok (.getfield 53, 3) := by decide +kernel
theorem dX5_widthBelow_25 : decode cX5_widthBelow 25 = .ok (.iload_n 1, 1) := by decide +kernel
theorem dX5_widthBelow_26 : decode cX5_widthBelow 26 = .ok (.baload, 1) := by decide +kernel
theorem dX5_widthBelow_27 : decode cX5_widthBelow 27 = .ok (.iaload, 1) := by decide +kernel
theorem dX5_widthBelow_28 : decode cX5_widthBelow 28 = .ok (.ireturn, 1) := by decide +kernel
set_option maxRecDepth 20000 in
theorem ggX5_below_X5_widthBelow : GoodIn wsX5_below wsX5_widthBelow := goodIn_g _ [(6, 1), (1, 1), (7, 28)] rfl (by decide +kernel)
set_option maxRecDepth 20000 in
theorem gX5_below_X5_widthBelow : GoodIn wsX5_below (wsV RX5 117 RX5 yX5_widthBelow wsX5_widthBelow) := goodIn_app (goodIn_of _ (by decide +kernel)) ggX5_below_X5_widthBelow
theorem dX5_below_0 : decode cX5_below 0 = .ok (.iload_n 2, 1) := by decide +kernel
theorem dX5_below_1 : decode cX5_below 1 = .ok (.ifCond .lt 23, 3) := by decide +kernel
theorem dX5_below_4 : decode cX5_below 4 = .ok (.iload_n 2, 1) := by decide +kernel
theorem dX5_below_5 : decode cX5_below 5 = .ok (.aload_n 0, 1) := by decide +kernel
theorem dX5_below_6 : decode cX5_below 6 = .ok (.iload_n 1, 1) := by decide +kernel
theorem dX5_below_7 : decode cX5_below 7 = .ok (.invokevirtual 117, 3) := by decide +kernel
theorem dX5_below_10 : decode cX5_below 10 = .ok (.if_icmp .ge 14, 3) := by decide +kernel
theorem dX5_below_13 : decode cX5_below 13 = .ok (.aload_n 0, 1) := by decide +kernel
theorem dX5_below_14 : decode cX5_below 14 = .ok (.getfield 69, 3) := by decide +kernel
theorem dX5_below_17 : decode cX5_below 17 = .ok (.iload_n 1, 1) := by decide +kernel
theorem dX5_below_18 : decode cX5_below 18 = .ok (.saload, 1) := by decide +kernel
theorem dX5_below_19 : decode cX5_below 19 = .ok (.iload_n 2, 1) := by decide +kernel
theorem dX5_below_20 : decode cX5_below 20 = .ok (.iadd, 1) := by decide +kernel
theorem dX5_below_21 : decode cX5_below 21 = .ok (.goto 4, 3) := by decide +kernel
theorem dX5_below_24 : decode cX5_below 24 = .ok (.iconst (-1), 1) := by decide +kernel
theorem dX5_below_25 : decode cX5_below 25 = .ok (.ireturn, 1) := by decide +kernel
theorem dX5_shiftOf_0 : decode cX5_shiftOf 0 = .ok (.iconst 3, 1) := by decide +kernel
theorem dX5_shiftOf_1 : decode cX5_shiftOf 1 = .ok (.iconst 5, 1) := by decide +kernel
theorem dX5_shiftOf_2 : decode cX5_shiftOf 2 = .ok (.iload_n 0, 1) := by decide +kernel
theorem dX5_shiftOf_3 : decode cX5_shiftOf 3 = .ok (.isub, 1) := by decide +kernel
theorem dX5_shiftOf_4 : decode cX5_shiftOf 4 = .ok (.imul, 1) := by decide +kernel
theorem dX5_shiftOf_5 : decode cX5_shiftOf 5 = .ok (.ireturn, 1) := by decide +kernel
