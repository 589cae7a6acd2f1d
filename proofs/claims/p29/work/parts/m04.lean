/-! part 25.zrows -/
theorem dX5_addJudged_0 : decode cX5_addJudged 0 = .ok (.aload_n 0, 1) := by decide +kernel
theorem dX5_addJudged_1 : decode cX5_addJudged 1 = .ok (.getfield 49, 3) := by decide +kernel
theorem dX5_addJudged_4 : decode cX5_addJudged 4 = .ok (.aload_n 0, 1) := by decide +kernel
theorem dX5_addJudged_5 : decode cX5_addJudged 5 = .ok (.getfield 15, 3) := by decide +kernel
theorem dX5_addJudged_8 : decode cX5_addJudged 8 = .ok (.aload_n 0, 1) := by decide +kernel
theorem dX5_addJudged_9 : decode cX5_addJudged 9 = .ok (.getfield 31, 3) := by decide +kernel
theorem dX5_addJudged_12 : decode cX5_addJudged 12 = .ok (.getfield 91, 3) := by decide +kernel
theorem dX5_addJudged_15 : decode cX5_addJudged 15 = .ok (.i2l, 1) := by decide +kernel
theorem dX5_addJudged_16 : decode cX5_addJudged 16 = .ok (.bipush 18, 2) := by decide +kernel
theorem dX5_addJudged_18 : decode cX5_addJudged 18 = .ok (.lshl, 1) := by decide +kernel
theorem dX5_addJudged_19 : decode cX5_addJudged 19 = .ok (.lload_n 2, 1) := by decide +kernel
theorem dX5_addJudged_20 : decode cX5_addJudged 20 = .ok (.lor, 1) := by decide +kernel
theorem dX5_addJudged_21 : decode cX5_addJudged 21 = .ok (.lastore, 1) := by decide +kernel
theorem dX5_addJudged_22 : decode cX5_addJudged 22 = .ok (.aload_n 0, 1) := by decide +kernel
theorem dX5_addJudged_23 : decode cX5_addJudged 23 = .ok (.getfield 53, 3) := by decide +kernel
theorem dX5_addJudged_26 : decode cX5_addJudged 26 = .ok (.aload_n 0, 1) := by decide +kernel
theorem dX5_addJudged_27 : decode cX5_addJudged 27 = .ok (.getfield 15, 3) := by decide +kernel
theorem dX5_addJudged_30 : decode cX5_addJudged 30 = .ok (.iload_n 1, 1) := by decide +kernel
theorem dX5_addJudged_31 : decode cX5_addJudged 31 = .ok (.i2b, 1) := by decide +kernel
theorem dX5_addJudged_32 : decode cX5_addJudged 32 = .ok (.bastore, 1) := by decide +kernel
theorem dX5_addJudged_33 : decode cX5_addJudged 33 = .ok (.aload_n 0, 1) := by decide +kernel
theorem dX5_addJudged_34 : decode cX5_addJudged 34 = .ok (.getfield 57, 3) := by decide +kernel
theorem dX5_addJudged_37 : decode cX5_addJudged 37 = .ok (.aload_n 0, 1) := by decide +kernel
theorem dX5_addJudged_38 : decode cX5_addJudged 38 = .ok (.getfield 15, 3) := by decide +kernel
theorem dX5_addJudged_41 : decode cX5_addJudged 41 = .ok (.aload_n 0, 1) := by decide +kernel
theorem dX5_addJudged_42 : decode cX5_addJudged 42 = .ok (.getfield 31, 3) := by decide +kernel
theorem dX5_addJudged_45 : decode cX5_addJudged 45 = .ok (.getfield 94, 3) := by decide +kernel
theorem dX5_addJudged_48 : decode cX5_addJudged 48 = .ok (.i2b, 1) := by decide +kernel
theorem dX5_addJudged_49 : decode cX5_addJudged 49 = .ok (.bastore, 1) := by decide +kernel
theorem dX5_addJudged_50 : decode cX5_addJudged 50 = .ok (.aload_n 0, 1) := by decide +kernel
theorem dX5_addJudged_51 : decode cX5_addJudged 51 = .ok (.getfield 60, 3) := by decide +kernel
theorem dX5_addJudged_54 : decode cX5_addJudged 54 = .ok (.aload_n 0, 1) := by decide +kernel
theorem dX5_addJudged_55 : decode cX5_addJudged 55 = .ok (.getfield 15, 3) := by decide +kernel
theorem dX5_addJudged_58 : decode cX5_addJudged 58 = .ok (.aload_n 0, 1) := by decide +kernel
theorem dX5_addJudged_59 : decode cX5_addJudged 59 = .ok (.getfield 31, 3) := by decide +kernel
theorem dX5_addJudged_62 : decode cX5_addJudged 62 = .ok (.getfield 96, 3) := by decide +kernel
theorem dX5_addJudged_65 : decode cX5_addJudged 65 = .ok (.i2b, 1) := by decide +kernel
theorem dX5_addJudged_66 : decode cX5_addJudged 66 = .ok (.bastore, 1) := by decide +kernel
theorem dX5_addJudged_67 : decode cX5_addJudged 67 = .ok (.aload_n 0, 1) := by decide +kernel
theorem dX5_addJudged_68 : decode cX5_addJudged 68 = .ok (.getfield 63, 3) := by decide +kernel
theorem dX5_addJudged_71 : decode cX5_addJudged 71 = .ok (.aload_n 0, 1) := by decide +kernel
theorem dX5_addJudged_72 : decode cX5_addJudged 72 = .ok (.getfield 15, 3) := by decide +kernel
theorem dX5_addJudged_75 : decode cX5_addJudged 75 = .ok (.iconst 0, 1) := by decide +kernel
theorem dX5_addJudged_76 : decode cX5_addJudged 76 = .ok (.bastore, 1) := by decide +kernel
theorem dX5_addJudged_77 : decode cX5_addJudged 77 = .ok (.aload_n 0, 1) := by decide +kernel
theorem dX5_addJudged_78 : decode cX5_addJudged 78 = .ok (.getfield 66, 3) := by decide +kernel
theorem dX5_addJudged_81 : decode cX5_addJudged 81 = .ok (.aload_n 0, 1) := by decide +kernel
theorem dX5_addJudged_82 : decode cX5_addJudged 82 = .ok (.getfield 15, 3) := by decide +kernel
theorem dX5_addJudged_85 : decode cX5_addJudged 85 = .ok (.bipush (-9), 2) := by decide +kernel
theorem dX5_addJudged_87 : decode cX5_addJudged 87 = .ok (.bastore, 1) := by decide +kernel
theorem dX5_addJudged_88 : decode cX5_addJudged 88 = .ok (.aload_n 0, 1) := by decide +kernel
theorem dX5_addJudged_89 : decode cX5_addJudged 89 = .ok (.getfield 69, 3) := by decide +kernel
theorem dX5_addJudged_92 : decode cX5_addJudged 92 = .ok (.aload_n 0, 1) := by decide +kernel
theorem dX5_addJudged_93 : decode cX5_addJudged 93 = .ok (.getfield 15, 3) := by decide +kernel
theorem dX5_addJudged_96 : decode cX5_addJudged 96 = .ok (.iconst (-1), 1) := by decide +kernel
theorem dX5_addJudged_97 : decode cX5_addJudged 97 = .ok (.sastore, 1) := by decide +kernel
theorem dX5_addJudged_98 : decode cX5_addJudged 98 = .ok (.aload_n 0, 1) := by decide +kernel
theorem dX5_addJudged_99 : decode cX5_addJudged 99 = .ok (.getfield 73, 3) := by decide +kernel
theorem dX5_addJudged_102 : decode cX5_addJudged 102 = .ok (.aload_n 0, 1) := by decide +kernel
theorem dX5_addJudged_103 : decode cX5_addJudged 103 = .ok (.getfield 15, 3) := by decide +kernel
theorem dX5_addJudged_106 : decode cX5_addJudged 106 = .ok (.iconst 0, 1) := by decide +kernel
theorem dX5_addJudged_107 : decode cX5_addJudged 107 = .ok (.bastore, 1) := by decide +kernel
theorem dX5_addJudged_108 : decode cX5_addJudged 108 = .ok (.aload_n 0, 1) := by decide +kernel
theorem dX5_addJudged_109 : decode cX5_addJudged 109 = .ok (.dup, 1) := by decide +kernel
theorem dX5_addJudged_110 : decode cX5_addJudged 110 = .ok (.getfield 15, 3) := by decide +kernel
theorem dX5_addJudged_113 : decode cX5_addJudged 113 = .ok (.iconst 1, 1) := by decide +kernel
theorem dX5_addJudged_114 : decode cX5_addJudged 114 = .ok (.iadd, 1) := by decide +kernel
theorem dX5_addJudged_115 : decode cX5_addJudged 115 = .ok (.putfield 15, 3) := by decide +kernel
theorem dX5_addJudged_118 : decode cX5_addJudged 118 = .ok (.return_, 1) := by decide +kernel
theorem dX5_nextFree_0 : decode cX5_nextFree 0 = .ok (.iconst (-1), 1) := by decide +kernel
theorem dX5_nextFree_1 : decode cX5_nextFree 1 = .ok (.istore_n 1, 1) := by decide +kernel
theorem dX5_nextFree_2 : decode cX5_nextFree 2 = .ok (.iconst 0, 1) := by decide +kernel
theorem dX5_nextFree_3 : decode cX5_nextFree 3 = .ok (.istore_n 2, 1) := by decide +kernel
theorem dX5_nextFree_4 : decode cX5_nextFree 4 = .ok (.iload_n 2, 1) := by decide +kernel
theorem dX5_nextFree_5 : decode cX5_nextFree 5 = .ok (.aload_n 0, 1) := by decide +kernel
theorem dX5_nextFree_6 : decode cX5_nextFree 6 = .ok (.getfield 15, 3) := by decide +kernel
theorem dX5_nextFree_9 : decode cX5_nextFree 9 = .ok (.if_icmp .ge 60, 3) := by decide +kernel
theorem dX5_nextFree_12 : decode cX5_nextFree 12 = .ok (.aload_n 0, 1) := by decide +kernel
theorem dX5_nextFree_13 : decode cX5_nextFree 13 = .ok (.getfield 57, 3) := by decide +kernel
theorem dX5_nextFree_16 : decode cX5_nextFree 16 = .ok (.iload_n 2, 1) := by decide +kernel
theorem dX5_nextFree_17 : decode cX5_nextFree 17 = .ok (.baload, 1) := by decide +kernel
theorem dX5_nextFree_18 : decode cX5_nextFree 18 = .ok (.ifCond .ne 16, 3) := by decide +kernel
theorem dX5_nextFree_21 : decode cX5_nextFree 21 = .ok (.aload_n 0, 1) := by decide +kernel
theorem dX5_nextFree_22 : decode cX5_nextFree 22 = .ok (.getfield 63, 3) := by decide +kernel
theorem dX5_nextFree_25 : decode cX5_nextFree 25 = .ok (.iload_n 2, 1) := by decide +kernel
theorem dX5_nextFree_26 : decode cX5_nextFree 26 = .ok (.baload, 1) := by decide +kernel
theorem dX5_nextFree_27 : decode cX5_nextFree 27 = .ok (.ifCond .ne 7, 3) := by decide +kernel
theorem dX5_nextFree_30 : decode cX5_nextFree 30 = .ok (.iconst 1, 1) := by decide +kernel
theorem dX5_nextFree_31 : decode cX5_nextFree 31 = .ok (.goto 4, 3) := by decide +kernel
theorem dX5_nextFree_34 : decode cX5_nextFree 34 = .ok (.iconst 0, 1) := by decide +kernel
theorem dX5_nextFree_35 : decode cX5_nextFree 35 = .ok (.istore_n 3, 1) := by decide +kernel
theorem dX5_nextFree_36 : decode cX5_nextFree 36 = .ok (.iload_n 3, 1) := by decide +kernel
theorem dX5_nextFree_37 : decode cX5_nextFree 37 = .ok (.ifCond .eq 26, 3) := by decide +kernel
theorem dX5_nextFree_40 : decode cX5_nextFree 40 = .ok (.iload_n 1, 1) := by decide +kernel
theorem dX5_nextFree_41 : decode cX5_nextFree 41 = .ok (.iconst (-1), 1) := by decide +kernel
theorem dX5_nextFree_42 : decode cX5_nextFree 42 = .ok (.if_icmp .eq 19, 3) := by decide +kernel
theorem dX5_nextFree_45 : decode cX5_nextFree 45 = .ok (.aload_n 0, 1) := by decide +kernel
theorem dX5_nextFree_46 : decode cX5_nextFree 46 = .ok (.getfield 49, 3) := by decide +kernel
theorem dX5_nextFree_49 : decode cX5_nextFree 49 = .ok (.iload_n 2, 1) := by decide +kernel
theorem dX5_nextFree_50 : decode cX5_nextFree 50 = .ok (.laload, 1) := by decide +kernel
theorem dX5_nextFree_51 : decode cX5_nextFree 51 = .ok (.aload_n 0, 1) := by decide +kernel
theorem dX5_nextFree_52 : decode cX5_nextFree 52 = .ok (.getfield 49, 3) := by decide +kernel
theorem dX5_nextFree_55 : decode cX5_nextFree 55 = .ok (.iload_n 1, 1) := by decide +kernel
theorem dX5_nextFree_56 : decode cX5_nextFree 56 = .ok (.laload, 1) := by decide +kernel
theorem dX5_nextFree_57 : decode cX5_nextFree 57 = .ok (.lcmp, 1) := by decide +kernel
theorem dX5_nextFree_58 : decode cX5_nextFree 58 = .ok (.ifCond .ge 5, 3) := by decide +kernel
theorem dX5_nextFree_61 : decode cX5_nextFree 61 = .ok (.iload_n 2, 1) := by decide +kernel
theorem dX5_nextFree_62 : decode cX5_nextFree 62 = .ok (.istore_n 1, 1) := by decide +kernel
theorem dX5_nextFree_63 : decode cX5_nextFree 63 = .ok (.iinc 2 1, 3) := by decide +kernel
theorem dX5_nextFree_66 : decode cX5_nextFree 66 = .ok (.goto (-62), 3) := by decide +kernel
theorem dX5_nextFree_69 : decode cX5_nextFree 69 = .ok (.iload_n 1, 1) := by decide +kernel
theorem dX5_nextFree_70 : decode cX5_nextFree 70 = .ok (.ireturn, 1) := by decide +kernel
theorem dX5_nextOfWalk_0 : decode cX5_nextOfWalk 0 = .ok (.iconst (-1), 1) := by decide +kernel
theorem dX5_nextOfWalk_1 : decode cX5_nextOfWalk 1 = .ok (.istore_n 1, 1) := by decide +kernel
theorem dX5_nextOfWalk_2 : decode cX5_nextOfWalk 2 = .ok (.iconst 0, 1) := by decide +kernel
theorem dX5_nextOfWalk_3 : decode cX5_nextOfWalk 3 = .ok (.istore_n 2, 1) := by decide +kernel
theorem dX5_nextOfWalk_4 : decode cX5_nextOfWalk 4 = .ok (.iload_n 2, 1) := by decide +kernel
theorem dX5_nextOfWalk_5 : decode cX5_nextOfWalk 5 = .ok (.aload_n 0, 1) := by decide +kernel
theorem dX5_nextOfWalk_6 : decode cX5_nextOfWalk 6 = .ok (.getfield 15, 3) := by decide +kernel
theorem dX5_nextOfWalk_9 : decode cX5_nextOfWalk 9 = .ok (.if_icmp .ge 70, 3) := by decide +kernel
theorem dX5_nextOfWalk_12 : decode cX5_nextOfWalk 12 = .ok (.aload_n 0, 1) := by decide +kernel
theorem dX5_nextOfWalk_13 : decode cX5_nextOfWalk 13 = .ok (.getfield 73, 3) := by decide +kernel
theorem dX5_nextOfWalk_16 : decode cX5_nextOfWalk 16 = .ok (.iload_n 2, 1) := by decide +kernel
theorem dX5_nextOfWalk_17 : decode cX5_nextOfWalk 17 = .ok (.baload, 1) := by decide +kernel
theorem dX5_nextOfWalk_18 : decode cX5_nextOfWalk 18 = .ok (.ifCond .eq 26, 3) := by decide +kernel
theorem dX5_nextOfWalk_21 : decode cX5_nextOfWalk 21 = .ok (.aload_n 0, 1) := by decide +kernel
theorem dX5_nextOfWalk_22 : decode cX5_nextOfWalk 22 = .ok (.getfield 57, 3) := by decide +kernel
theorem dX5_nextOfWalk_25 : decode cX5_nextOfWalk 25 = .ok (.iload_n 2, 1) := by decide +kernel
theorem dX5_nextOfWalk_26 : decode cX5_nextOfWalk 26 = .ok (.baload, 1) := by decide +kernel
theorem dX5_nextOfWalk_27 : decode cX5_nextOfWalk 27 = .ok (.ifCond .ne 17, 3) := by decide +kernel
theorem dX5_nextOfWalk_30 : decode cX5_nextOfWalk 30 = .ok (.aload_n 0, 1) := by decide +kernel
theorem dX5_nextOfWalk_31 : decode cX5_nextOfWalk 31 = .ok (.getfield 63, 3) := by decide +kernel
theorem dX5_nextOfWalk_34 : decode cX5_nextOfWalk 34 = .ok (.iload_n 2, 1) := by decide +kernel
theorem dX5_nextOfWalk_35 : decode cX5_nextOfWalk 35 = .ok (.baload, 1) := by decide +kernel
theorem dX5_nextOfWalk_36 : decode cX5_nextOfWalk 36 = .ok (.iconst 3, 1) := by decide +kernel
theorem dX5_nextOfWalk_37 : decode cX5_nextOfWalk 37 = .ok (.if_icmp .eq 7, 3) := by decide +kernel
theorem dX5_nextOfWalk_40 : decode cX5_nextOfWalk 40 = .ok (.iconst 1, 1) := by decide +kernel
theorem dX5_nextOfWalk_41 : decode cX5_nextOfWalk 41 = .ok (.goto 4, 3) := by decide +kernel
theorem dX5_nextOfWalk_44 : decode cX5_nextOfWalk 44 = .ok (.iconst 0, 1) := by decide +kernel
theorem dX5_nextOfWalk_45 : decode cX5_nextOfWalk 45 = .ok (.istore_n 3, 1) := by decide +kernel
theorem dX5_nextOfWalk_46 : decode cX5_nextOfWalk 46 = .ok (.iload_n 3, 1) := by decide +kernel
theorem dX5_nextOfWalk_47 : decode cX5_nextOfWalk 47 = .ok (.ifCond .eq 26, 3) := by decide +kernel
theorem dX5_nextOfWalk_50 : decode cX5_nextOfWalk 50 = .ok (.iload_n 1, 1) := by decide +kernel
theorem dX5_nextOfWalk_51 : decode cX5_nextOfWalk 51 = .ok (.iconst (-1), 1) := by decide +kernel
theorem dX5_nextOfWalk_52 : decode cX5_nextOfWalk 52 = .ok (.if_icmp .eq 19, 3) := by decide +kernel
theorem dX5_nextOfWalk_55 : decode cX5_nextOfWalk 55 = .ok (.aload_n 0, 1) := by decide +kernel
theorem dX5_nextOfWalk_56 : decode cX5_nextOfWalk 56 = .ok (.getfield 49, 3) := by decide +kernel
theorem dX5_nextOfWalk_59 : decode cX5_nextOfWalk 59 = .ok (.iload_n 2, 1) := by decide +kernel
theorem dX5_nextOfWalk_60 : decode cX5_nextOfWalk 60 = .ok (.laload, 1) := by decide +kernel
theorem dX5_nextOfWalk_61 : decode cX5_nextOfWalk 61 = .ok (.aload_n 0, 1) := by decide +kernel
theorem dX5_nextOfWalk_62 : decode cX5_nextOfWalk 62 = .ok (.getfield 49, 3) := by decide +kernel
theorem dX5_nextOfWalk_65 : decode cX5_nextOfWalk 65 = .ok (.iload_n 1, 1) := by decide +kernel
theorem dX5_nextOfWalk_66 : decode cX5_nextOfWalk 66 = .ok (.laload, 1) := by decide +kernel
theorem dX5_nextOfWalk_67 : decode cX5_nextOfWalk 67 = .ok (.lcmp, 1) := by decide +kernel
theorem dX5_nextOfWalk_68 : decode cX5_nextOfWalk 68 = .ok (.ifCond .ge 5, 3) := by decide +kernel
theorem dX5_nextOfWalk_71 : decode cX5_nextOfWalk 71 = .ok (.iload_n 2, 1) := by decide +kernel
theorem dX5_nextOfWalk_72 : decode cX5_nextOfWalk 72 = .ok (.istore_n 1, 1) := by decide +kernel
theorem dX5_nextOfWalk_73 : decode cX5_nextOfWalk 73 = .ok (.iinc 2 1, 3) := by decide +kernel
theorem dX5_nextOfWalk_76 : decode cX5_nextOfWalk 76 = .ok (.goto (-72), 3) := by decide +kernel
theorem dX5_nextOfWalk_79 : decode cX5_nextOfWalk 79 = .ok (.iload_n 1, 1) := by decide +kernel
theorem dX5_nextOfWalk_80 : decode cX5_nextOfWalk 80 = .ok (.ireturn, 1) := by decide +kernel
theorem dX5_isFull_0 : decode cX5_isFull 0 = .ok (.aload_n 0, 1) := by decide +kernel
theorem dX5_isFull_1 : decode cX5_isFull 1 = .ok (.getfield 53, 3) := by decide +kernel
theorem dX5_isFull_4 : decode cX5_isFull 4 = .ok (.iload_n 1, 1) := by decide +kernel
theorem dX5_isFull_5 : decode cX5_isFull 5 = .ok (.baload, 1) := by decide +kernel
theorem dX5_isFull_6 : decode cX5_isFull 6 = .ok (.aload_n 0, 1) := by decide +kernel
theorem dX5_isFull_7 : decode cX5_isFull 7 = .ok (.getfield 45, 3) := by decide +kernel
theorem dX5_isFull_10 : decode cX5_isFull 10 = .ok (.getfield 120, 3) := by decide +kernel
theorem dX5_isFull_13 : decode cX5_isFull 13 = .ok (.if_icmp .lt 7, 3) := by decide +kernel
theorem dX5_isFull_16 : decode cX5_isFull 16 = .ok (.iconst 1, 1) := by decide +kernel
theorem dX5_isFull_17 : decode cX5_isFull 17 = .ok (.goto 4, 3) := by decide +kernel
theorem dX5_isFull_20 : decode cX5_isFull 20 = .ok (.iconst 0, 1) := by decide +kernel
theorem dX5_isFull_21 : decode cX5_isFull 21 = .ok (.ireturn, 1) := by decide +kernel
theorem dX5_boundOf_0 : decode cX5_boundOf 0 = .ok (.aload_n 0, 1) := by decide +kernel
theorem dX5_boundOf_1 : decode cX5_boundOf 1 = .ok (.getfield 49, 3) := by decide +kernel
theorem dX5_boundOf_4 : decode cX5_boundOf 4 = .ok (.iload_n 1, 1) := by decide +kernel
theorem dX5_boundOf_5 : decode cX5_boundOf 5 = .ok (.laload, 1) := by decide +kernel
theorem dX5_boundOf_6 : decode cX5_boundOf 6 = .ok (.bipush 18, 2) := by decide +kernel
theorem dX5_boundOf_8 : decode cX5_boundOf 8 = .ok (.lshr, 1) := by decide +kernel
theorem dX5_boundOf_9 : decode cX5_boundOf 9 = .ok (.l2i, 1) := by decide +kernel
theorem dX5_boundOf_10 : decode cX5_boundOf 10 = .ok (.ireturn, 1) := by decide +kernel
set_option maxRecDepth 20000 in
theorem ggX5_valueOf_X5_shiftOf : GoodIn wsX5_valueOf wsX5_shiftOf := goodIn_g _ [(6, 1)] rfl (by decide +kernel)
set_option maxRecDepth 20000 in
theorem gX5_valueOf_X5_shiftOf : GoodIn wsX5_valueOf (va_wsS RX5 113 yX5_shiftOf wsX5_shiftOf) := goodIn_app (goodIn_of _ (by decide +kernel)) ggX5_valueOf_X5_shiftOf
theorem dX5_valueOf_0 : decode cX5_valueOf 0 = .ok (.aload_n 0, 1) := by decide +kernel
theorem dX5_valueOf_1 : decode cX5_valueOf 1 = .ok (.getfield 49, 3) := by decide +kernel
theorem dX5_valueOf_4 : decode cX5_valueOf 4 = .ok (.iload_n 1, 1) := by decide +kernel
theorem dX5_valueOf_5 : decode cX5_valueOf 5 = .ok (.laload, 1) := by decide +kernel
theorem dX5_valueOf_6 : decode cX5_valueOf 6 = .ok (.iload_n 2, 1) := by decide +kernel
theorem dX5_valueOf_7 : decode cX5_valueOf 7 = .ok (.invokestatic 113, 3) := by decide +kernel
theorem dX5_valueOf_10 : decode cX5_valueOf 10 = .ok (.lshr, 1) := by decide +kernel
theorem dX5_valueOf_11 : decode cX5_valueOf 11 = .ok (.ldc2_w 123, 3) := by decide +kernel
theorem dX5_valueOf_14 : decode cX5_valueOf 14 = .ok (.land, 1) := by decide +kernel
theorem dX5_valueOf_15 : decode cX5_valueOf 15 = .ok (.l2i, 1) := by decide +kernel
theorem dX5_valueOf_16 : decode cX5_valueOf 16 = .ok (.iconst 1, 1) := by decide +kernel
theorem dX5_valueOf_17 : decode cX5_valueOf 17 = .ok (.isub, 1) := by decide +kernel
theorem dX5_valueOf_18 : decode cX5_valueOf 18 = .ok (.ireturn, 1) := by decide +kernel
theorem dX5_widthBelow_0 : decode cX5_widthBelow 0 = .ok (.aload_n 0, 1) := by decide +kernel
theorem dX5_widthBelow_1 : decode cX5_widthBelow 1 = .ok (.getfield 69, 3) := by decide +kernel
theorem dX5_widthBelow_4 : decode cX5_widthBelow 4 = .ok (.iload_n 1, 1) := by decide +kernel
theorem dX5_widthBelow_5 : decode cX5_widthBelow 5 = .ok (.saload, 1) := by decide +kernel
theorem dX5_widthBelow_6 : decode cX5_widthBelow 6 = .ok (.iconst (-1), 1) := by decide +kernel
theorem dX5_widthBelow_7 : decode cX5_widthBelow 7 = .ok (.if_icmp .ne 7, 3) := by decide +kernel
theorem dX5_widthBelow_10 : decode cX5_widthBelow 10 = .ok (.iconst 0, 1) := by decide +kernel
theorem dX5_widthBelow_11 : decode cX5_widthBelow 11 = .ok (.goto 17, 3) := by decide +kernel
theorem dX5_widthBelow_14 : decode cX5_widthBelow 14 = .ok (.aload_n 0, 1) := by decide +kernel
theorem dX5_widthBelow_15 : decode cX5_widthBelow 15 = .ok (.getfield 45, 3) := by decide +kernel
theorem dX5_widthBelow_18 : decode cX5_widthBelow 18 = .ok (.getfield 108, 3) := by decide +kernel
theorem dX5_widthBelow_21 : decode cX5_widthBelow 21 = .ok (.aload_n 0, 1) := by decide +kernel
theorem dX5_widthBelow_22 : decode cX5_widthBelow 22 = .ok (.getfield 53, 3) := by decide +kernel
theorem dX5_widthBelow_25 : decode cX5_widthBelow 25 = .ok (.iload_n 1, 1) := by decide +kernel
theorem dX5_widthBelow_26 : decode cX5_widthBelow 26 = .ok (.baload, 1) := by decide +kernel
theorem dX5_widthBelow_27 : decode cX5_widthBelow 27 = .ok (.iaload, 1) := by decide +kernel
theorem dX5_widthBelow_28 : decode cX5_widthBelow 28 = .ok (.ireturn, 1) := by decide +kernel
set_option maxRecDepth 20000 in
theorem ggX5_below_X5_widthBelow : GoodIn wsX5_below wsX5_widthBelow := goodIn_g _ [(6, 1), (1, 1), (7, 28)] rfl (by decide +kernel)
set_option maxRecDepth 20000 in
theorem gX5_below_X5_widthBelow : GoodIn wsX5_below (wsV RX5 117 RX5 yX5_widthBelow wsX5_widthBelow) := goodIn_app (goodIn_of _ (by decide +kernel)) ggX5_below_X5_widthBelow
theorem dX5_below_0 : decode cX5_below 0 = .ok (.iload_n 2, 1) := by decide +kernel
theorem dX5_below_1 : decode cX5_below 1 = .ok (.ifCond .lt 23, 3) := by decide +kernel
theorem dX5_below_4 : decode cX5_below 4 = .ok (.iload_n 2, 1) := by decide +kernel
theorem dX5_below_5 : decode cX5_below 5 = .ok (.aload_n 0, 1) := by decide +kernel
theorem dX5_below_6 : decode cX5_below 6 = .ok (.iload_n 1, 1) := by decide +kernel
theorem dX5_below_7 : decode cX5_below 7 = .ok (.invokevirtual 117, 3) := by decide +kernel
theorem dX5_below_10 : decode cX5_below 10 = .ok (.if_icmp .ge 14, 3) := by decide +kernel
theorem dX5_below_13 : decode cX5_below 13 = .ok (.aload_n 0, 1) := by decide +kernel
theorem dX5_below_14 : decode cX5_below 14 = .ok (.getfield 69, 3) := by decide +kernel
theorem dX5_below_17 : decode cX5_below 17 = .ok (.iload_n 1, 1) := by decide +kernel
theorem dX5_below_18 : decode cX5_below 18 = .ok (.saload, 1) := by decide +kernel
theorem dX5_below_19 : decode cX5_below 19 = .ok (.iload_n 2, 1) := by decide +kernel
theorem dX5_below_20 : decode cX5_below 20 = .ok (.iadd, 1) := by decide +kernel
theorem dX5_below_21 : decode cX5_below 21 = .ok (.goto 4, 3) := by decide +kernel
theorem dX5_below_24 : decode cX5_below 24 = .ok (.iconst (-1), 1) := by decide +kernel
theorem dX5_below_25 : decode cX5_below 25 = .ok (.ireturn, 1) := by decide +kernel
theorem dX5_shiftOf_0 : decode cX5_shiftOf 0 = .ok (.iconst 3, 1) := by decide +kernel
theorem dX5_shiftOf_1 : decode cX5_shiftOf 1 = .ok (.iconst 5, 1) := by decide +kernel
theorem dX5_shiftOf_2 : decode cX5_shiftOf 2 = .ok (.iload_n 0, 1) := by decide +kernel
theorem dX5_shiftOf_3 : decode cX5_shiftOf 3 = .ok (.isub, 1) := by decide +kernel
theorem dX5_shiftOf_4 : decode cX5_shiftOf 4 = .ok (.imul, 1) := by decide +kernel
theorem dX5_shiftOf_5 : decode cX5_shiftOf 5 = .ok (.ireturn, 1) := by decide +kernel

/-! part 26.tree -/
/-! TREES. A tree lies in 12 slots from T on -/
def TrAt (T : Nat) : Prop := T = 22 ∨ T = 34 ∨ T = 46
/-- how many nodes a tree has room for -/
def lT (T : Nat) : Nat := if T < 46 then 1711 else 1501
theorem tr_o {T : Nat} (h : TrAt T) : T + 11 < 58 ∧ kd T = 5 ∧ kd (T + 1) = 12 ∧ kd (T + 2) = 9 ∧ kd (T + 3) = 9 ∧ kd (T + 4) = 9 ∧ kd (T + 5) = 9 ∧ kd (T + 6) = 9 ∧ kd (T + 7) = 10 ∧ kd (T + 8) = 11 ∧ kd (T + 9) = 8 ∧ kd (T + 10) = 8 ∧ kd (T + 11) = 0 := by
  rcases h with rfl | rfl | rfl <;> decide +kernel
theorem tr_l {T : Nat} (h : TrAt T) : ln (T + 1) = lT T ∧ ln (T + 2) = lT T ∧ ln (T + 3) = lT T ∧ ln (T + 4) = lT T ∧ ln (T + 5) = lT T ∧ ln (T + 6) = lT T ∧ ln (T + 7) = lT T ∧ ln (T + 8) = lT T ∧ ln (T + 9) = 250 ∧ ln (T + 10) = 6 ∧ 1501 ≤ lT T ∧ lT T ≤ 1711 := by
  rcases h with rfl | rfl | rfl <;> decide +kernel
theorem lg_lt {x y : Int64} : 0 ≤ lg_cmp x y ↔ ¬ x < y := (lg_cmp_ge x y).trans Int64.not_lt.symm
/-- the bits that a variable's value begins at -/
def sh (x : Int32) : Int32 := 3 * (5 - x)
def plc (b : Int32) (row : Int64) : Int64 := b.toInt64 <<< ((18 : Int32).toInt64 &&& 63) ||| row
def bdo (w : Int64) : Int32 := (w >>> ((18 : Int32).toInt64 &&& 63)).toInt32
def vlo (w : Int64) (x : Int32) : Int32 := ((w >>> ((sh x).toInt64 &&& 63)) &&& 7).toInt32 - 1
/-- the least free node from i on, within k steps; the least one to take -/
def nfr (A : Nat → Nat → Int32) (L : Nat → Nat → Int64) (T : Nat) : Nat → Nat → Int32 → Int32
  | 0, _, b => b
  | k + 1, i, b => nfr A L T k (i + 1) (if (A (T + 3) i = 0 ∧ A (T + 5) i = 0) ∧ (b = -1 ∨ L (T + 1) i < L (T + 1) b.toNatClampNeg) then nI i else b)
def nwk (A : Nat → Nat → Int32) (L : Nat → Nat → Int64) (T : Nat) : Nat → Nat → Int32 → Int32
  | 0, _, b => b
  | k + 1, i, b => nwk A L T k (i + 1) (if (¬ A (T + 8) i = 0 ∧ A (T + 3) i = 0 ∧ ¬ A (T + 5) i = 3) ∧ (b = -1 ∨ L (T + 1) i < L (T + 1) b.toNatClampNeg) then nI i else b)

set_option maxHeartbeats 4000000 in
set_option maxRecDepth 100000 in
theorem c_X5_shiftOf (l : Launch) (D : va_G) (K : Nat → ClassId) (ad : Nat → Nat) (hap0 : apart ad (fun _ => True)) (x : Int32) (I : Nat → Nat → Int32) (G : Nat → Nat → Nat) (A : Nat → Nat → Int32) (L : Nat → Nat → Int64)  : Ci l D K ad yX5_shiftOf wsX5_shiftOf 0 0 [.int x] (I, G, A, L) (fun (r : Int32) (u : Mem) => r = sh x ∧ u = (I, G, A, L)) := by
  intro sz
  refine Met.ofW (cc := cX5_shiftOf) (maxL := 1) (ret := (some .int)) (by decide) rfl ?_
  intro p e s m args below meth c s₁ Bd hml hv0
  obtain ⟨rfl, hsz, hP, hK⟩ := hv0
  have hx := Bd.exec
  have hb := Bd.bytes
  have hr := Bd.returns
  have hts := atoms_spec (ws := wsX5_shiftOf) Bd.pre
  have hown : s.vm.findClass RX5 = some m.cls := findClass_of_methodNamed Bd.named
  have hlocks := Bd.notSynchronized
  subst hsz
  have hap := vF_ap hap0 s.heap.size
  have hS : va_S (vF ad s.heap.size) s.heap s.heap [] := va_S.rf
  have hP : va_P D vwCl (VW K ad I G A L) s.heap := hP
  have hl := lv_entry ([.int x]) (n := 1) (Nat.le_of_ble_eq_true rfl)
  rw [lg_entry_eq]
  generalize (lg_sl ([.int x]) ++ List.replicate (1 - (lg_sl ([.int x])).length) Slot.unset).toArray = ls at hl ⊢
  have hl : lv_has ls 1 [(0, .int x)] := hl
  refine lv_iconst (v := 3) hx hb dX5_shiftOf_0 (by decide) ?_
  refine lv_iconst (v := 5) hx hb dX5_shiftOf_1 (by decide) ?_
  refine lv_iload_n hx hb dX5_shiftOf_2 rfl (lv_at hl 0 rfl) ?_
  refine lv_isub hx hb dX5_shiftOf_3 ?_
  refine lv_imul hx hb dX5_shiftOf_4 ?_
  exact W.iret (v := (3 * (5 - x))) hx hb hr (fun t ht hW => ⟨⟨(3 * (5 - x)), (I, G, A, L), rfl, ⟨rfl, rfl⟩, by rw [ht]; exact hP, va_K.moved hW.alike hK⟩, hS.F ht⟩) hS.2.2 dX5_shiftOf_5

set_option maxHeartbeats 4000000 in
set_option maxRecDepth 100000 in
theorem c_X5_boundOf (l : Launch) (D : va_G) (K : Nat → ClassId) (ad : Nat → Nat) (hap0 : apart ad (fun _ => True)) (T d : Nat) (hT : TrAt T) (hd : d < lT T) (I : Nat → Nat → Int32) (G : Nat → Nat → Nat) (A : Nat → Nat → Int32) (L : Nat → Nat → Int64)  : Ci l D K ad yX5_boundOf wsX5_boundOf 0 0 [.ref (ad T), .int (nI d)] (I, G, A, L) (fun (r : Int32) (u : Mem) => r = bdo (L (T + 1) d) ∧ u = (I, G, A, L)) := by
  intro sz
  refine Met.ofW (cc := cX5_boundOf) (maxL := 2) (ret := (some .int)) (by decide) rfl ?_
  intro p e s m args below meth c s₁ Bd hml hv0
  obtain ⟨rfl, hsz, hP, hK⟩ := hv0
  have hx := Bd.exec
  have hb := Bd.bytes
  have hr := Bd.returns
  have hts := atoms_spec (ws := wsX5_boundOf) Bd.pre
  have hown : s.vm.findClass RX5 = some m.cls := findClass_of_methodNamed Bd.named
  have hlocks := Bd.notSynchronized
  have hi5 : ∀ w ∈ u_ws RX5 TX5 16, w ∈ wsX5_boundOf := fun w h => List.mem_cons_of_mem _ (List.mem_append_right _ h)
  subst hsz
  have hap := vF_ap hap0 s.heap.size
  have hS : va_S (vF ad s.heap.size) s.heap s.heap [] := va_S.rf
  have hP : va_P D vwCl (VW K ad I G A L) s.heap := hP
  have hl := lv_entry ([.ref (ad T), .int (nI d)]) (n := 2) (Nat.le_of_ble_eq_true rfl)
  rw [lg_entry_eq]
  generalize (lg_sl ([.ref (ad T), .int (nI d)]) ++ List.replicate (2 - (lg_sl ([.ref (ad T), .int (nI d)])).length) Slot.unset).toArray = ls at hl ⊢
  have hl : lv_has ls 2 [(0, .ref (ad T)), (1, .int (nI d))] := hl
  have hl1 := (tr_l hT).2.2.2.2.2.2.2.2.2.2
  have hi1d : vp_in (nI d) (ln (T + 1)) := by rw [(tr_l hT).1]; exact vp_in_nI hd (by omega)
  have hi2d : vp_in (nI d) (ln (T + 2)) := by rw [(tr_l hT).2.1]; exact vp_in_nI hd (by omega)
  have hi3d : vp_in (nI d) (ln (T + 3)) := by rw [(tr_l hT).2.2.1]; exact vp_in_nI hd (by omega)
  have hi4d : vp_in (nI d) (ln (T + 4)) := by rw [(tr_l hT).2.2.2.1]; exact vp_in_nI hd (by omega)
  have hi5d : vp_in (nI d) (ln (T + 5)) := by rw [(tr_l hT).2.2.2.2.1]; exact vp_in_nI hd (by omega)
  have hi6d : vp_in (nI d) (ln (T + 6)) := by rw [(tr_l hT).2.2.2.2.2.1]; exact vp_in_nI hd (by omega)
  have hi7d : vp_in (nI d) (ln (T + 7)) := by rw [(tr_l hT).2.2.2.2.2.2.1]; exact vp_in_nI hd (by omega)
  have hi8d : vp_in (nI d) (ln (T + 8)) := by rw [(tr_l hT).2.2.2.2.2.2.2.1]; exact vp_in_nI hd (by omega)
  refine lv_aload_n hx hb dX5_boundOf_0 rfl (lv_at hl 0 rfl) ?_
  refine vgS hx hb hts hi5 hown hK hP (T) (by have := (tr_o hT).1; show _ < 378; omega) (tr_o hT).2.1 (C := RX5) (T := TX5) (N := 16) rfl 0 (by decide) (by decide) (by decide) (by decide) (T + 1) rfl (hts (.fieldLink RX5 49 "CrateHelpers$Tree" "place" "[J") (by decide +kernel)) (fun _ h9 => h9) dX5_boundOf_1 ?_
  refine lv_iload_n hx hb dX5_boundOf_4 rfl (lv_at hl 1 rfl) ?_
  refine xlald hx hb hK hP (T + 1) (by have := (tr_o hT).1; show _ < 378; omega) (tr_o hT).2.2.1 hi1d dX5_boundOf_5 ?_
  rw [nI_clamp (n := d) (by omega)]
  refine lv_bipush (v := 18) hx hb dX5_boundOf_6 (by decide) ?_
  refine lv_lshr hx hb dX5_boundOf_8 rfl ?_
  refine lv_l2i hx hb dX5_boundOf_9 rfl ?_
  exact W.iret (v := (((L (T + 1) d) >>> ((18 : Int32).toInt64 &&& 63)).toInt32)) hx hb hr (fun t ht hW => ⟨⟨(((L (T + 1) d) >>> ((18 : Int32).toInt64 &&& 63)).toInt32), (I, G, A, L), rfl, ⟨rfl, rfl⟩, by rw [ht]; exact hP, va_K.moved hW.alike hK⟩, hS.F ht⟩) hS.2.2 dX5_boundOf_10

set_option maxHeartbeats 4000000 in
set_option maxRecDepth 100000 in
theorem c_X5_valueOf (l : Launch) (D : va_G) (K : Nat → ClassId) (ad : Nat → Nat) (hap0 : apart ad (fun _ => True)) (T d : Nat) (hT : TrAt T) (hd : d < lT T) (x : Int32) (I : Nat → Nat → Int32) (G : Nat → Nat → Nat) (A : Nat → Nat → Int32) (L : Nat → Nat → Int64)  : Ci l D K ad yX5_valueOf wsX5_valueOf 1 40 [.ref (ad T), .int (nI d), .int x] (I, G, A, L) (fun (r : Int32) (u : Mem) => r = vlo (L (T + 1) d) x ∧ u = (I, G, A, L)) := by
  intro sz
  refine Met.ofW (cc := cX5_valueOf) (maxL := 3) (ret := (some .int)) (by decide) rfl ?_
  intro p e s m args below meth c s₁ Bd hml hv0
  obtain ⟨rfl, hsz, hP, hK⟩ := hv0
  have hx := Bd.exec
  have hb := Bd.bytes
  have hr := Bd.returns
  have hts := atoms_spec (ws := wsX5_valueOf) Bd.pre
  have hown : s.vm.findClass RX5 = some m.cls := findClass_of_methodNamed Bd.named
  have hlocks := Bd.notSynchronized
  have hi5 : ∀ w ∈ u_ws RX5 TX5 16, w ∈ wsX5_valueOf := fun w h => List.mem_cons_of_mem _ (List.mem_append_right _ h)
  subst hsz
  have hap := vF_ap hap0 s.heap.size
  have hS : va_S (vF ad s.heap.size) s.heap s.heap [] := va_S.rf
  have hP : va_P D vwCl (VW K ad I G A L) s.heap := hP
  have hl := lv_entry ([.ref (ad T), .int (nI d), .int x]) (n := 3) (Nat.le_of_ble_eq_true rfl)
  rw [lg_entry_eq]
  generalize (lg_sl ([.ref (ad T), .int (nI d), .int x]) ++ List.replicate (3 - (lg_sl ([.ref (ad T), .int (nI d), .int x])).length) Slot.unset).toArray = ls at hl ⊢
  have hl : lv_has ls 3 [(0, .ref (ad T)), (1, .int (nI d)), (2, .int x)] := hl
  have hl1 := (tr_l hT).2.2.2.2.2.2.2.2.2.2
  have hi1d : vp_in (nI d) (ln (T + 1)) := by rw [(tr_l hT).1]; exact vp_in_nI hd (by omega)
  have hi2d : vp_in (nI d) (ln (T + 2)) := by rw [(tr_l hT).2.1]; exact vp_in_nI hd (by omega)
  have hi3d : vp_in (nI d) (ln (T + 3)) := by rw [(tr_l hT).2.2.1]; exact vp_in_nI hd (by omega)
  have hi4d : vp_in (nI d) (ln (T + 4)) := by rw [(tr_l hT).2.2.2.1]; exact vp_in_nI hd (by omega)
  have hi5d : vp_in (nI d) (ln (T + 5)) := by rw [(tr_l hT).2.2.2.2.1]; exact vp_in_nI hd (by omega)
  have hi6d : vp_in (nI d) (ln (T + 6)) := by rw [(tr_l hT).2.2.2.2.2.1]; exact vp_in_nI hd (by omega)
  have hi7d : vp_in (nI d) (ln (T + 7)) := by rw [(tr_l hT).2.2.2.2.2.2.1]; exact vp_in_nI hd (by omega)
  have hi8d : vp_in (nI d) (ln (T + 8)) := by rw [(tr_l hT).2.2.2.2.2.2.2.1]; exact vp_in_nI hd (by omega)
  refine lv_aload_n hx hb dX5_valueOf_0 rfl (lv_at hl 0 rfl) ?_
  refine vgS hx hb hts hi5 hown hK hP (T) (by have := (tr_o hT).1; show _ < 378; omega) (tr_o hT).2.1 (C := RX5) (T := TX5) (N := 16) rfl 0 (by decide) (by decide) (by decide) (by decide) (T + 1) rfl (hts (.fieldLink RX5 49 "CrateHelpers$Tree" "place" "[J") (by decide +kernel)) (fun _ h9 => h9) dX5_valueOf_1 ?_
  refine lv_iload_n hx hb dX5_valueOf_4 rfl (lv_at hl 1 rfl) ?_
  refine xlald hx hb hK hP (T + 1) (by have := (tr_o hT).1; show _ < 378; omega) (tr_o hT).2.2.1 hi1d dX5_valueOf_5 ?_
  rw [nI_clamp (n := d) (by omega)]
  refine lv_iload_n hx hb dX5_valueOf_6 rfl (lv_at hl 2 rfl) ?_
  refine vcS (As := [.int x]) (rest := [.long (L (T + 1) d)]) ⟨hx, hb, hml, hown, hts⟩ (c_X5_shiftOf l D K ad hap0 x I G A L) (va_cwS 1 hts gX5_valueOf_X5_shiftOf rfl rfl rfl (by decide +kernel) ⟨Nat.le_of_ble_eq_true rfl, Nat.le_of_ble_eq_true rfl⟩) hK hP hS rfl hl.1 (Nat.le_of_ble_eq_true rfl) (Nat.le_of_ble_eq_true rfl) (Nat.le_of_ble_eq_true rfl) dX5_valueOf_7 (fun r1 u2 H locs hw hP hS => ?_) rfl
  obtain ⟨hr1, rfl⟩ := hw
  have hP : va_P D vwCl (VW K ad I G A L) H := hP
  subst hr1
  refine lv_lshr hx hb dX5_valueOf_10 rfl ?_
  refine lv_ldc2 (v := 7) hx hb hown (hts (.constantLong RX5 123 (7)) (by decide +kernel)) dX5_valueOf_11 ?_
  refine lv_land hx hb dX5_valueOf_14 ?_
  refine lv_l2i hx hb dX5_valueOf_15 rfl ?_
  refine lv_iconst (v := 1) hx hb dX5_valueOf_16 (by decide) ?_
  refine lv_isub hx hb dX5_valueOf_17 ?_
  exact W.iret (v := (((((L (T + 1) d) >>> ((sh x).toInt64 &&& 63)) &&& 7).toInt32) - 1)) hx hb hr (fun t ht hW => ⟨⟨(((((L (T + 1) d) >>> ((sh x).toInt64 &&& 63)) &&& 7).toInt32) - 1), (I, G, A, L), rfl, ⟨rfl, rfl⟩, by rw [ht]; exact hP, va_K.moved hW.alike hK⟩, hS.F ht⟩) hS.2.2 dX5_valueOf_18

set_option maxHeartbeats 4000000 in
set_option maxRecDepth 100000 in
theorem c_X5_isFull (l : Launch) (D : va_G) (K : Nat → ClassId) (ad : Nat → Nat) (hap0 : apart ad (fun _ => True)) (T d : Nat) (hT : TrAt T) (hd : d < lT T) (B : Nat) (hB : PrAt B) (I : Nat → Nat → Int32) (G : Nat → Nat → Nat) (A : Nat → Nat → Int32) (L : Nat → Nat → Int64) (hTB : G T 14 = B) : Ci l D K ad yX5_isFull wsX5_isFull 0 0 [.ref (ad T), .int (nI d)] (I, G, A, L) (fun (r : Int32) (u : Mem) => r = (if A (T + 2) d < I B 0 then 0 else 1) ∧ u = (I, G, A, L)) := by
  intro sz
  refine Met.ofW (cc := cX5_isFull) (maxL := 2) (ret := (some .boolean)) (by decide) rfl ?_
  intro p e s m args below meth c s₁ Bd hml hv0
  obtain ⟨rfl, hsz, hP, hK⟩ := hv0
  have hx := Bd.exec
  have hb := Bd.bytes
  have hr := Bd.returns
  have hts := atoms_spec (ws := wsX5_isFull) Bd.pre
  have hown : s.vm.findClass RX5 = some m.cls := findClass_of_methodNamed Bd.named
  have hlocks := Bd.notSynchronized
  have hi5 : ∀ w ∈ u_ws RX5 TX5 16, w ∈ wsX5_isFull := fun w h => List.mem_cons_of_mem _ (List.mem_append_left _ (List.mem_append_right _ h))
  have hi1 : ∀ w ∈ u_ws RX1 TX1 9, w ∈ wsX5_isFull := fun w h => List.mem_cons_of_mem _ (List.mem_append_right _ h)
  subst hsz
  have hap := vF_ap hap0 s.heap.size
  have hS : va_S (vF ad s.heap.size) s.heap s.heap [] := va_S.rf
  have hP : va_P D vwCl (VW K ad I G A L) s.heap := hP
  have hl := lv_entry ([.ref (ad T), .int (nI d)]) (n := 2) (Nat.le_of_ble_eq_true rfl)
  rw [lg_entry_eq]
  generalize (lg_sl ([.ref (ad T), .int (nI d)]) ++ List.replicate (2 - (lg_sl ([.ref (ad T), .int (nI d)])).length) Slot.unset).toArray = ls at hl ⊢
  have hl : lv_has ls 2 [(0, .ref (ad T)), (1, .int (nI d))] := hl
  have hl1 := (tr_l hT).2.2.2.2.2.2.2.2.2.2
  have hi1d : vp_in (nI d) (ln (T + 1)) := by rw [(tr_l hT).1]; exact vp_in_nI hd (by omega)
  have hi2d : vp_in (nI d) (ln (T + 2)) := by rw [(tr_l hT).2.1]; exact vp_in_nI hd (by omega)
  have hi3d : vp_in (nI d) (ln (T + 3)) := by rw [(tr_l hT).2.2.1]; exact vp_in_nI hd (by omega)
  have hi4d : vp_in (nI d) (ln (T + 4)) := by rw [(tr_l hT).2.2.2.1]; exact vp_in_nI hd (by omega)
  have hi5d : vp_in (nI d) (ln (T + 5)) := by rw [(tr_l hT).2.2.2.2.1]; exact vp_in_nI hd (by omega)
  have hi6d : vp_in (nI d) (ln (T + 6)) := by rw [(tr_l hT).2.2.2.2.2.1]; exact vp_in_nI hd (by omega)
  have hi7d : vp_in (nI d) (ln (T + 7)) := by rw [(tr_l hT).2.2.2.2.2.2.1]; exact vp_in_nI hd (by omega)
  have hi8d : vp_in (nI d) (ln (T + 8)) := by rw [(tr_l hT).2.2.2.2.2.2.2.1]; exact vp_in_nI hd (by omega)
  refine lv_aload_n hx hb dX5_isFull_0 rfl (lv_at hl 0 rfl) ?_
  refine vgS hx hb hts hi5 hown hK hP (T) (by have := (tr_o hT).1; show _ < 378; omega) (tr_o hT).2.1 (C := RX5) (T := TX5) (N := 16) rfl 1 (by decide) (by decide) (by decide) (by decide) (T + 2) rfl (hts (.fieldLink RX5 53 "CrateHelpers$Tree" "depth" "[B") (by decide +kernel)) (fun _ h9 => h9) dX5_isFull_1 ?_
  refine lv_iload_n hx hb dX5_isFull_4 rfl (lv_at hl 1 rfl) ?_
  refine xbald hx hb hK hP (T + 2) (by have := (tr_o hT).1; show _ < 378; omega) (tr_o hT).2.2.2.1 hi2d dX5_isFull_5 ?_
  rw [nI_clamp (n := d) (by omega)]
  refine lv_aload_n hx hb dX5_isFull_6 rfl (lv_at hl 0 rfl) ?_
  refine vgG hx hb hts hi5 hown hK hP (T) (by have := (tr_o hT).1; show _ < 378; omega) (tr_o hT).2.1 (C := RX5) (T := TX5) (N := 16) rfl 14 (by decide) (by decide) (by decide) (by decide) (hts (.fieldLink RX5 45 "CrateHelpers$Tree" "problem" "LCrateHelpers$Problem;") (by decide +kernel)) (fun _ h9 => h9) dX5_isFull_7 ?_
  rw [hTB]
  refine vgI hx hb hts hi1 hown hK hP (B) (by have := (pr_o hB).1; omega) (pr_o hB).2.1 (C := RX1) (T := TX1) (N := 9) rfl 0 (by decide) (by decide) (by decide) (by decide) (hts (.fieldLink RX5 120 "CrateHelpers$Problem" "variables" "I") (by decide +kernel)) (fun _ h9 => h9) dX5_isFull_10 ?_
  refine lv_icmp_lt (tgt := 20) hx hb dX5_isFull_13 (by decide) (fun c_1 => ?_) (fun c_1 => ?_)
  · refine lv_iconst (v := 0) hx hb dX5_isFull_20 (by decide) ?_
    exact W.zret (v := 0) hx hb hr (by decide) (fun t ht hW => ⟨⟨0, (I, G, A, L), rfl, ⟨by first | (simp [c_1]; done), rfl⟩, by rw [ht]; exact hP, va_K.moved hW.alike hK⟩, hS.F ht⟩) hS.2.2 dX5_isFull_21
  · refine lv_iconst (v := 1) hx hb dX5_isFull_16 (by decide) ?_
    refine lv_goto (tgt := 21) hx hb dX5_isFull_17 (by decide) ?_
    exact W.zret (v := 1) hx hb hr (by decide) (fun t ht hW => ⟨⟨1, (I, G, A, L), rfl, ⟨by first | (simp [c_1]; done), rfl⟩, by rw [ht]; exact hP, va_K.moved hW.alike hK⟩, hS.F ht⟩) hS.2.2 dX5_isFull_21

set_option maxHeartbeats 4000000 in
set_option maxRecDepth 100000 in
theorem c_X5_nextFree (l : Launch) (D : va_G) (K : Nat → ClassId) (ad : Nat → Nat) (hap0 : apart ad (fun _ => True)) (T n : Nat) (hT : TrAt T) (hn : n ≤ lT T) (I : Nat → Nat → Int32) (G : Nat → Nat → Nat) (A : Nat → Nat → Int32) (L : Nat → Nat → Int64) (hkn : I T 9 = nI n) : Ci l D K ad yX5_nextFree wsX5_nextFree 0 0 [.ref (ad T)] (I, G, A, L) (fun (r : Int32) (u : Mem) => r = nfr A L T n 0 (-1) ∧ u = (I, G, A, L)) := by
  intro sz
  refine Met.ofW (cc := cX5_nextFree) (maxL := 4) (ret := (some .int)) (by decide) rfl ?_
  intro p e s m args below meth c s₁ Bd hml hv0
  obtain ⟨rfl, hsz, hP, hK⟩ := hv0
  have hx := Bd.exec
  have hb := Bd.bytes
  have hr := Bd.returns
  have hts := atoms_spec (ws := wsX5_nextFree) Bd.pre
  have hown : s.vm.findClass RX5 = some m.cls := findClass_of_methodNamed Bd.named
  have hlocks := Bd.notSynchronized
  have hi5 : ∀ w ∈ u_ws RX5 TX5 16, w ∈ wsX5_nextFree := fun w h => List.mem_cons_of_mem _ (List.mem_append_right _ h)
  subst hsz
  have hap := vF_ap hap0 s.heap.size
  have hS : va_S (vF ad s.heap.size) s.heap s.heap [] := va_S.rf
  have hP : va_P D vwCl (VW K ad I G A L) s.heap := hP
  have hl := lv_entry ([.ref (ad T)]) (n := 4) (Nat.le_of_ble_eq_true rfl)
  rw [lg_entry_eq]
  generalize (lg_sl ([.ref (ad T)]) ++ List.replicate (4 - (lg_sl ([.ref (ad T)])).length) Slot.unset).toArray = ls at hl ⊢
  have hl : lv_has ls 4 [(0, .ref (ad T))] := hl
  have hl1 := (tr_l hT).2.2.2.2.2.2.2.2.2.2
  refine lv_iconst (v := (-1)) hx hb dX5_nextFree_0 (by decide) ?_
  refine lv_istore_n (lv' := [(1, .int (-1)), (0, .ref (ad T))]) hx hb dX5_nextFree_1 rfl hl (by decide) rfl (fun ls hl => ?_)
  refine lv_iconst (v := 0) hx hb dX5_nextFree_2 (by decide) ?_
  refine lv_istore_n (lv' := [(2, .int 0), (1, .int (-1)), (0, .ref (ad T))]) hx hb dX5_nextFree_3 rfl hl (by decide) rfl (fun ls hl => ?_)
  have kx1 : ∀ (b : Int32), b = nfr A L T n 0 (-1) → ∀ (H : Heap) (locs : List Loc), va_P D vwCl (VW K ad I G A L) H → va_S (vF ad s.heap.size) s.heap H locs → ∀ (ls : Array Slot), lv_has ls 4 [(1, .int b), (0, .ref (ad T))] → W p l e ({ frames := 0, cells := 0, slots := 0, locals := 0 }) s m ([.ref (ad T)] : List Value).toArray below meth c H locs 0 0 (MQ below (va_Qi (fun (r : Int32) (u : Mem) => r = nfr A L T n 0 (-1) ∧ u = (I, G, A, L)) (vB D K ad) (vF ad s.heap.size)) ([.ref (ad T)] : List Value).toArray s 0 0 (vF ad s.heap.size)) (F0 m 69 ls []) := by
    intro b hinv1 H locs hP hS ls hl
    refine lv_iload_n hx hb dX5_nextFree_69 rfl (lv_at hl 0 rfl) ?_
    exact W.iret (v := b) hx hb hr (fun t ht hW => ⟨⟨b, (I, G, A, L), rfl, ⟨hinv1, rfl⟩, by rw [ht]; exact hP, va_K.moved hW.alike hK⟩, hS.F ht⟩) hS.2.2 dX5_nextFree_70
  have lp1 : ∀ (k1 i : Nat) (b : Int32), i + k1 = n → nfr A L T k1 i b = nfr A L T n 0 (-1) ∧ (b = -1 ∨ vp_in b (ln (T + 1))) → ∀ (H : Heap) (locs : List Loc), va_P D vwCl (VW K ad I G A L) H → va_S (vF ad s.heap.size) s.heap H locs → ∀ (ls : Array Slot), lv_has ls 4 [(2, .int (nI i)), (1, .int b), (0, .ref (ad T))] → W p l e ({ frames := 0, cells := 0, slots := 0, locals := 0 }) s m ([.ref (ad T)] : List Value).toArray below meth c H locs 0 0 (MQ below (va_Qi (fun (r : Int32) (u : Mem) => r = nfr A L T n 0 (-1) ∧ u = (I, G, A, L)) (vB D K ad) (vF ad s.heap.size)) ([.ref (ad T)] : List Value).toArray s 0 0 (vF ad s.heap.size)) (F0 m 4 ls []) := by
    intro k1
    induction k1 with
    | zero =>
      intro i b hk1 hinv1 H locs hP hS ls hl
      obtain rfl : n = i := by omega
      refine lv_iload_n hx hb dX5_nextFree_4 rfl (lv_at hl 0 rfl) ?_
      refine lv_aload_n hx hb dX5_nextFree_5 rfl (lv_at hl 2 rfl) ?_
      refine vgI hx hb hts hi5 hown hK hP (T) (by have := (tr_o hT).1; show _ < 378; omega) (tr_o hT).2.1 (C := RX5) (T := TX5) (N := 16) rfl 9 (by decide) (by decide) (by decide) (by decide) (hts (.fieldLink RX5 15 "CrateHelpers$Tree" "known" "I") (by decide +kernel)) (fun _ h9 => h9) dX5_nextFree_6 ?_
      rw [hkn]
      refine lv_icmp_ge (tgt := 69) hx hb dX5_nextFree_9 (by decide) (fun _ => ?_) (fun c_2 => absurd (nI_le (Nat.le_refl _) (by omega)) c_2)
      exact kx1 b (hinv1.1) H locs hP hS ls (lv_sub hl [1, 2] rfl)
    | succ k1 ih1 =>
      intro i b hk1 hinv1 H locs hP hS ls hl
      have hlt1 : i < n := by omega
      have hi1i : vp_in (nI i) (ln (T + 1)) := by rw [(tr_l hT).1]; exact vp_in_nI (by omega) (by omega)
      have hi2i : vp_in (nI i) (ln (T + 2)) := by rw [(tr_l hT).2.1]; exact vp_in_nI (by omega) (by omega)
      have hi3i : vp_in (nI i) (ln (T + 3)) := by rw [(tr_l hT).2.2.1]; exact vp_in_nI (by omega) (by omega)
      have hi4i : vp_in (nI i) (ln (T + 4)) := by rw [(tr_l hT).2.2.2.1]; exact vp_in_nI (by omega) (by omega)
      have hi5i : vp_in (nI i) (ln (T + 5)) := by rw [(tr_l hT).2.2.2.2.1]; exact vp_in_nI (by omega) (by omega)
      have hi6i : vp_in (nI i) (ln (T + 6)) := by rw [(tr_l hT).2.2.2.2.2.1]; exact vp_in_nI (by omega) (by omega)
      have hi7i : vp_in (nI i) (ln (T + 7)) := by rw [(tr_l hT).2.2.2.2.2.2.1]; exact vp_in_nI (by omega) (by omega)
      have hi8i : vp_in (nI i) (ln (T + 8)) := by rw [(tr_l hT).2.2.2.2.2.2.2.1]; exact vp_in_nI (by omega) (by omega)
      refine lv_iload_n hx hb dX5_nextFree_4 rfl (lv_at hl 0 rfl) ?_
      refine lv_aload_n hx hb dX5_nextFree_5 rfl (lv_at hl 2 rfl) ?_
      refine vgI hx hb hts hi5 hown hK hP (T) (by have := (tr_o hT).1; show _ < 378; omega) (tr_o hT).2.1 (C := RX5) (T := TX5) (N := 16) rfl 9 (by decide) (by decide) (by decide) (by decide) (hts (.fieldLink RX5 15 "CrateHelpers$Tree" "known" "I") (by decide +kernel)) (fun _ h9 => h9) dX5_nextFree_6 ?_
      rw [hkn]
      refine lv_icmp_ge (tgt := 69) hx hb dX5_nextFree_9 (by decide) (fun c_3 => absurd c_3 (nI_ge (by omega) (by omega))) (fun _ => ?_)
      refine lv_aload_n hx hb dX5_nextFree_12 rfl (lv_at hl 2 rfl) ?_
      refine vgS hx hb hts hi5 hown hK hP (T) (by have := (tr_o hT).1; show _ < 378; omega) (tr_o hT).2.1 (C := RX5) (T := TX5) (N := 16) rfl 2 (by decide) (by decide) (by decide) (by decide) (T + 3) rfl (hts (.fieldLink RX5 57 "CrateHelpers$Tree" "what" "[B") (by decide +kernel)) (fun _ h9 => h9) dX5_nextFree_13 ?_
      refine lv_iload_n hx hb dX5_nextFree_16 rfl (lv_at hl 0 rfl) ?_
      refine xbald hx hb hK hP (T + 3) (by have := (tr_o hT).1; show _ < 378; omega) (tr_o hT).2.2.2.2.1 hi3i dX5_nextFree_17 ?_
      rw [nI_clamp (n := i) (by omega)]
      refine lv_if_ne (tgt := 34) hx hb dX5_nextFree_18 (by decide) (fun c_4 => ?_) (fun c_4 => ?_)
      · refine lv_iconst (v := 0) hx hb dX5_nextFree_34 (by decide) ?_
        refine lv_istore_n (lv' := [(3, .int 0), (2, .int (nI i)), (1, .int b), (0, .ref (ad T))]) hx hb dX5_nextFree_35 rfl hl (by decide) rfl (fun ls hl => ?_)
        refine lv_iload_n hx hb dX5_nextFree_36 rfl (lv_at hl 0 rfl) ?_
        refine lv_if_eq (tgt := 63) hx hb dX5_nextFree_37 (by decide) (fun _ => ?_) (fun c_5 => absurd c_5 (by decide))
        refine lv_iinc (v := (nI (i + 1))) (lv' := [(2, .int (nI (i + 1))), (3, .int 0), (1, .int b), (0, .ref (ad T))]) hx hb dX5_nextFree_63 hl (k := 1) rfl (nI_1 i) (by decide) rfl (fun ls hl => ?_)
        refine lv_goto (tgt := 4) hx hb dX5_nextFree_66 (by decide) ?_
        exact ih1 (i + 1) b (by omega) (⟨by rw [← hinv1.1]; simp [nfr, c_4], hinv1.2⟩) H locs hP hS ls (lv_sub hl [0, 2, 3] rfl)
      · refine lv_aload_n hx hb dX5_nextFree_21 rfl (lv_at hl 2 rfl) ?_
        refine vgS hx hb hts hi5 hown hK hP (T) (by have := (tr_o hT).1; show _ < 378; omega) (tr_o hT).2.1 (C := RX5) (T := TX5) (N := 16) rfl 4 (by decide) (by decide) (by decide) (by decide) (T + 5) rfl (hts (.fieldLink RX5 63 "CrateHelpers$Tree" "stage" "[B") (by decide +kernel)) (fun _ h9 => h9) dX5_nextFree_22 ?_
        refine lv_iload_n hx hb dX5_nextFree_25 rfl (lv_at hl 0 rfl) ?_
        refine xbald hx hb hK hP (T + 5) (by have := (tr_o hT).1; show _ < 378; omega) (tr_o hT).2.2.2.2.2.2.1 hi5i dX5_nextFree_26 ?_
        rw [nI_clamp (n := i) (by omega)]
        refine lv_if_ne (tgt := 34) hx hb dX5_nextFree_27 (by decide) (fun c_6 => ?_) (fun c_6 => ?_)
        · refine lv_iconst (v := 0) hx hb dX5_nextFree_34 (by decide) ?_
          refine lv_istore_n (lv' := [(3, .int 0), (2, .int (nI i)), (1, .int b), (0, .ref (ad T))]) hx hb dX5_nextFree_35 rfl hl (by decide) rfl (fun ls hl => ?_)
          refine lv_iload_n hx hb dX5_nextFree_36 rfl (lv_at hl 0 rfl) ?_
          refine lv_if_eq (tgt := 63) hx hb dX5_nextFree_37 (by decide) (fun _ => ?_) (fun c_7 => absurd c_7 (by decide))
          refine lv_iinc (v := (nI (i + 1))) (lv' := [(2, .int (nI (i + 1))), (3, .int 0), (1, .int b), (0, .ref (ad T))]) hx hb dX5_nextFree_63 hl (k := 1) rfl (nI_1 i) (by decide) rfl (fun ls hl => ?_)
          refine lv_goto (tgt := 4) hx hb dX5_nextFree_66 (by decide) ?_
          exact ih1 (i + 1) b (by omega) (⟨by rw [← hinv1.1]; simp [nfr, c_4, c_6], hinv1.2⟩) H locs hP hS ls (lv_sub hl [0, 2, 3] rfl)
        · refine lv_iconst (v := 1) hx hb dX5_nextFree_30 (by decide) ?_
          refine lv_goto (tgt := 35) hx hb dX5_nextFree_31 (by decide) ?_
          refine lv_istore_n (lv' := [(3, .int 1), (2, .int (nI i)), (1, .int b), (0, .ref (ad T))]) hx hb dX5_nextFree_35 rfl hl (by decide) rfl (fun ls hl => ?_)
          refine lv_iload_n hx hb dX5_nextFree_36 rfl (lv_at hl 0 rfl) ?_
          refine lv_if_eq (tgt := 63) hx hb dX5_nextFree_37 (by decide) (fun c_8 => absurd c_8 (by decide)) (fun _ => ?_)
          refine lv_iload_n hx hb dX5_nextFree_40 rfl (lv_at hl 2 rfl) ?_
          refine lv_iconst (v := (-1)) hx hb dX5_nextFree_41 (by decide) ?_
          refine lv_icmp_eq (tgt := 61) hx hb dX5_nextFree_42 (by decide) (fun c_9 => ?_) (fun c_9 => ?_)
          · refine lv_iload_n hx hb dX5_nextFree_61 rfl (lv_at hl 1 rfl) ?_
            refine lv_istore_n (lv' := [(1, .int (nI i)), (3, .int 1), (2, .int (nI i)), (0, .ref (ad T))]) hx hb dX5_nextFree_62 rfl hl (by decide) rfl (fun ls hl => ?_)
            refine lv_iinc (v := (nI (i + 1))) (lv' := [(2, .int (nI (i + 1))), (1, .int (nI i)), (3, .int 1), (0, .ref (ad T))]) hx hb dX5_nextFree_63 hl (k := 2) rfl (nI_1 i) (by decide) rfl (fun ls hl => ?_)
            refine lv_goto (tgt := 4) hx hb dX5_nextFree_66 (by decide) ?_
            exact ih1 (i + 1) (nI i) (by omega) (⟨by rw [← hinv1.1]; simp [nfr, c_4, c_6, c_9], Or.inr hi1i⟩) H locs hP hS ls (lv_sub hl [0, 1, 3] rfl)
          · have hbb : vp_in b (ln (T + 1)) := hinv1.2.resolve_left c_9
            refine lv_aload_n hx hb dX5_nextFree_45 rfl (lv_at hl 3 rfl) ?_
            refine vgS hx hb hts hi5 hown hK hP (T) (by have := (tr_o hT).1; show _ < 378; omega) (tr_o hT).2.1 (C := RX5) (T := TX5) (N := 16) rfl 0 (by decide) (by decide) (by decide) (by decide) (T + 1) rfl (hts (.fieldLink RX5 49 "CrateHelpers$Tree" "place" "[J") (by decide +kernel)) (fun _ h9 => h9) dX5_nextFree_46 ?_
            refine lv_iload_n hx hb dX5_nextFree_49 rfl (lv_at hl 1 rfl) ?_
            refine xlald hx hb hK hP (T + 1) (by have := (tr_o hT).1; show _ < 378; omega) (tr_o hT).2.2.1 hi1i dX5_nextFree_50 ?_
            rw [nI_clamp (n := i) (by omega)]
            refine lv_aload_n hx hb dX5_nextFree_51 rfl (lv_at hl 3 rfl) ?_
            refine vgS hx hb hts hi5 hown hK hP (T) (by have := (tr_o hT).1; show _ < 378; omega) (tr_o hT).2.1 (C := RX5) (T := TX5) (N := 16) rfl 0 (by decide) (by decide) (by decide) (by decide) (T + 1) rfl (hts (.fieldLink RX5 49 "CrateHelpers$Tree" "place" "[J") (by decide +kernel)) (fun _ h9 => h9) dX5_nextFree_52 ?_
            refine lv_iload_n hx hb dX5_nextFree_55 rfl (lv_at hl 2 rfl) ?_
            refine xlald hx hb hK hP (T + 1) (by have := (tr_o hT).1; show _ < 378; omega) (tr_o hT).2.2.1 hbb dX5_nextFree_56 ?_
            refine W.lcmp hx hb dX5_nextFree_57 ?_
            refine lv_if_ge (tgt := 63) hx hb dX5_nextFree_58 (by decide) (fun c_10 => ?_) (fun c_10 => ?_)
            · refine lv_iinc (v := (nI (i + 1))) (lv' := [(2, .int (nI (i + 1))), (3, .int 1), (1, .int b), (0, .ref (ad T))]) hx hb dX5_nextFree_63 hl (k := 1) rfl (nI_1 i) (by decide) rfl (fun ls hl => ?_)
              refine lv_goto (tgt := 4) hx hb dX5_nextFree_66 (by decide) ?_
              exact ih1 (i + 1) b (by omega) (⟨by rw [← hinv1.1]; simp [nfr, c_4, c_6, c_9, (lg_lt.mp c_10)], hinv1.2⟩) H locs hP hS ls (lv_sub hl [0, 2, 3] rfl)
            · refine lv_iload_n hx hb dX5_nextFree_61 rfl (lv_at hl 1 rfl) ?_
              refine lv_istore_n (lv' := [(1, .int (nI i)), (3, .int 1), (2, .int (nI i)), (0, .ref (ad T))]) hx hb dX5_nextFree_62 rfl hl (by decide) rfl (fun ls hl => ?_)
              refine lv_iinc (v := (nI (i + 1))) (lv' := [(2, .int (nI (i + 1))), (1, .int (nI i)), (3, .int 1), (0, .ref (ad T))]) hx hb dX5_nextFree_63 hl (k := 2) rfl (nI_1 i) (by decide) rfl (fun ls hl => ?_)
              refine lv_goto (tgt := 4) hx hb dX5_nextFree_66 (by decide) ?_
              exact ih1 (i + 1) (nI i) (by omega) (⟨by rw [← hinv1.1]; simp [nfr, c_4, c_6, c_9, (Decidable.not_not.mp (fun h9 => c_10 (lg_lt.mpr h9)))], Or.inr hi1i⟩) H locs hP hS ls (lv_sub hl [0, 1, 3] rfl)
  exact lp1 (n) 0 (-1) (by omega) (⟨rfl, Or.inl rfl⟩) _ _ hP hS ls (lv_sub hl [0, 1, 2] rfl)

set_option maxHeartbeats 4000000 in
set_option maxRecDepth 100000 in
theorem c_X5_nextOfWalk (l : Launch) (D : va_G) (K : Nat → ClassId) (ad : Nat → Nat) (hap0 : apart ad (fun _ => True)) (T n : Nat) (hT : TrAt T) (hn : n ≤ lT T) (I : Nat → Nat → Int32) (G : Nat → Nat → Nat) (A : Nat → Nat → Int32) (L : Nat → Nat → Int64) (hkn : I T 9 = nI n) : Ci l D K ad yX5_nextOfWalk wsX5_nextOfWalk 0 0 [.ref (ad T)] (I, G, A, L) (fun (r : Int32) (u : Mem) => r = nwk A L T n 0 (-1) ∧ u = (I, G, A, L)) := by
  intro sz
  refine Met.ofW (cc := cX5_nextOfWalk) (maxL := 4) (ret := (some .int)) (by decide) rfl ?_
  intro p e s m args below meth c s₁ Bd hml hv0
  obtain ⟨rfl, hsz, hP, hK⟩ := hv0
  have hx := Bd.exec
  have hb := Bd.bytes
  have hr := Bd.returns
  have hts := atoms_spec (ws := wsX5_nextOfWalk) Bd.pre
  have hown : s.vm.findClass RX5 = some m.cls := findClass_of_methodNamed Bd.named
  have hlocks := Bd.notSynchronized
  have hi5 : ∀ w ∈ u_ws RX5 TX5 16, w ∈ wsX5_nextOfWalk := fun w h => List.mem_cons_of_mem _ (List.mem_append_right _ h)
  subst hsz
  have hap := vF_ap hap0 s.heap.size
  have hS : va_S (vF ad s.heap.size) s.heap s.heap [] := va_S.rf
  have hP : va_P D vwCl (VW K ad I G A L) s.heap := hP
  have hl := lv_entry ([.ref (ad T)]) (n := 4) (Nat.le_of_ble_eq_true rfl)
  rw [lg_entry_eq]
  generalize (lg_sl ([.ref (ad T)]) ++ List.replicate (4 - (lg_sl ([.ref (ad T)])).length) Slot.unset).toArray = ls at hl ⊢
  have hl : lv_has ls 4 [(0, .ref (ad T))] := hl
  have hl1 := (tr_l hT).2.2.2.2.2.2.2.2.2.2
  refine lv_iconst (v := (-1)) hx hb dX5_nextOfWalk_0 (by decide) ?_
  refine lv_istore_n (lv' := [(1, .int (-1)), (0, .ref (ad T))]) hx hb dX5_nextOfWalk_1 rfl hl (by decide) rfl (fun ls hl => ?_)
  refine lv_iconst (v := 0) hx hb dX5_nextOfWalk_2 (by decide) ?_
  refine lv_istore_n (lv' := [(2, .int 0), (1, .int (-1)), (0, .ref (ad T))]) hx hb dX5_nextOfWalk_3 rfl hl (by decide) rfl (fun ls hl => ?_)
  have kx1 : ∀ (b : Int32), b = nwk A L T n 0 (-1) → ∀ (H : Heap) (locs : List Loc), va_P D vwCl (VW K ad I G A L) H → va_S (vF ad s.heap.size) s.heap H locs → ∀ (ls : Array Slot), lv_has ls 4 [(1, .int b), (0, .ref (ad T))] → W p l e ({ frames := 0, cells := 0, slots := 0, locals := 0 }) s m ([.ref (ad T)] : List Value).toArray below meth c H locs 0 0 (MQ below (va_Qi (fun (r : Int32) (u : Mem) => r = nwk A L T n 0 (-1) ∧ u = (I, G, A, L)) (vB D K ad) (vF ad s.heap.size)) ([.ref (ad T)] : List Value).toArray s 0 0 (vF ad s.heap.size)) (F0 m 79 ls []) := by
    intro b hinv1 H locs hP hS ls hl
    refine lv_iload_n hx hb dX5_nextOfWalk_79 rfl (lv_at hl 0 rfl) ?_
    exact W.iret (v := b) hx hb hr (fun t ht hW => ⟨⟨b, (I, G, A, L), rfl, ⟨hinv1, rfl⟩, by rw [ht]; exact hP, va_K.moved hW.alike hK⟩, hS.F ht⟩) hS.2.2 dX5_nextOfWalk_80
  have lp1 : ∀ (k1 i : Nat) (b : Int32), i + k1 = n → nwk A L T k1 i b = nwk A L T n 0 (-1) ∧ (b = -1 ∨ vp_in b (ln (T + 1))) → ∀ (H : Heap) (locs : List Loc), va_P D vwCl (VW K ad I G A L) H → va_S (vF ad s.heap.size) s.heap H locs → ∀ (ls : Array Slot), lv_has ls 4 [(2, .int (nI i)), (1, .int b), (0, .ref (ad T))] → W p l e ({ frames := 0, cells := 0, slots := 0, locals := 0 }) s m ([.ref (ad T)] : List Value).toArray below meth c H locs 0 0 (MQ below (va_Qi (fun (r : Int32) (u : Mem) => r = nwk A L T n 0 (-1) ∧ u = (I, G, A, L)) (vB D K ad) (vF ad s.heap.size)) ([.ref (ad T)] : List Value).toArray s 0 0 (vF ad s.heap.size)) (F0 m 4 ls []) := by
    intro k1
    induction k1 with
    | zero =>
      intro i b hk1 hinv1 H locs hP hS ls hl
      obtain rfl : n = i := by omega
      refine lv_iload_n hx hb dX5_nextOfWalk_4 rfl (lv_at hl 0 rfl) ?_
      refine lv_aload_n hx hb dX5_nextOfWalk_5 rfl (lv_at hl 2 rfl) ?_
      refine vgI hx hb hts hi5 hown hK hP (T) (by have := (tr_o hT).1; show _ < 378; omega) (tr_o hT).2.1 (C := RX5) (T := TX5) (N := 16) rfl 9 (by decide) (by decide) (by decide) (by decide) (hts (.fieldLink RX5 15 "CrateHelpers$Tree" "known" "I") (by decide +kernel)) (fun _ h9 => h9) dX5_nextOfWalk_6 ?_
      rw [hkn]
      refine lv_icmp_ge (tgt := 79) hx hb dX5_nextOfWalk_9 (by decide) (fun _ => ?_) (fun c_2 => absurd (nI_le (Nat.le_refl _) (by omega)) c_2)
      exact kx1 b (hinv1.1) H locs hP hS ls (lv_sub hl [1, 2] rfl)
    | succ k1 ih1 =>
      intro i b hk1 hinv1 H locs hP hS ls hl
      have hlt1 : i < n := by omega
      have hi1i : vp_in (nI i) (ln (T + 1)) := by rw [(tr_l hT).1]; exact vp_in_nI (by omega) (by omega)
      have hi2i : vp_in (nI i) (ln (T + 2)) := by rw [(tr_l hT).2.1]; exact vp_in_nI (by omega) (by omega)
      have hi3i : vp_in (nI i) (ln (T + 3)) := by rw [(tr_l hT).2.2.1]; exact vp_in_nI (by omega) (by omega)
      have hi4i : vp_in (nI i) (ln (T + 4)) := by rw [(tr_l hT).2.2.2.1]; exact vp_in_nI (by omega) (by omega)
      have hi5i : vp_in (nI i) (ln (T + 5)) := by rw [(tr_l hT).2.2.2.2.1]; exact vp_in_nI (by omega) (by omega)
      have hi6i : vp_in (nI i) (ln (T + 6)) := by rw [(tr_l hT).2.2.2.2.2.1]; exact vp_in_nI (by omega) (by omega)
      have hi7i : vp_in (nI i) (ln (T + 7)) := by rw [(tr_l hT).2.2.2.2.2.2.1]; exact vp_in_nI (by omega) (by omega)
      have hi8i : vp_in (nI i) (ln (T + 8)) := by rw [(tr_l hT).2.2.2.2.2.2.2.1]; exact vp_in_nI (by omega) (by omega)
      refine lv_iload_n hx hb dX5_nextOfWalk_4 rfl (lv_at hl 0 rfl) ?_
      refine lv_aload_n hx hb dX5_nextOfWalk_5 rfl (lv_at hl 2 rfl) ?_
      refine vgI hx hb hts hi5 hown hK hP (T) (by have := (tr_o hT).1; show _ < 378; omega) (tr_o hT).2.1 (C := RX5) (T := TX5) (N := 16) rfl 9 (by decide) (by decide) (by decide) (by decide) (hts (.fieldLink RX5 15 "CrateHelpers$Tree" "known" "I") (by decide +kernel)) (fun _ h9 => h9) dX5_nextOfWalk_6 ?_
      rw [hkn]
      refine lv_icmp_ge (tgt := 79) hx hb dX5_nextOfWalk_9 (by decide) (fun c_3 => absurd c_3 (nI_ge (by omega) (by omega))) (fun _ => ?_)
      refine lv_aload_n hx hb dX5_nextOfWalk_12 rfl (lv_at hl 2 rfl) ?_
      refine vgS hx hb hts hi5 hown hK hP (T) (by have := (tr_o hT).1; show _ < 378; omega) (tr_o hT).2.1 (C := RX5) (T := TX5) (N := 16) rfl 7 (by decide) (by decide) (by decide) (by decide) (T + 8) rfl (hts (.fieldLink RX5 73 "CrateHelpers$Tree" "isReached" "[Z") (by decide +kernel)) (fun _ h9 => h9) dX5_nextOfWalk_13 ?_
      refine lv_iload_n hx hb dX5_nextOfWalk_16 rfl (lv_at hl 0 rfl) ?_
      refine xzald hx hb hK hP (T + 8) (by have := (tr_o hT).1; show _ < 378; omega) (tr_o hT).2.2.2.2.2.2.2.2.2.1 hi8i dX5_nextOfWalk_17 ?_
      rw [nI_clamp (n := i) (by omega)]
      refine lv_if_eq (tgt := 44) hx hb dX5_nextOfWalk_18 (by decide) (fun c_4 => ?_) (fun c_4 => ?_)
      · refine lv_iconst (v := 0) hx hb dX5_nextOfWalk_44 (by decide) ?_
        refine lv_istore_n (lv' := [(3, .int 0), (2, .int (nI i)), (1, .int b), (0, .ref (ad T))]) hx hb dX5_nextOfWalk_45 rfl hl (by decide) rfl (fun ls hl => ?_)
        refine lv_iload_n hx hb dX5_nextOfWalk_46 rfl (lv_at hl 0 rfl) ?_
        refine lv_if_eq (tgt := 73) hx hb dX5_nextOfWalk_47 (by decide) (fun _ => ?_) (fun c_5 => absurd c_5 (by decide))
        refine lv_iinc (v := (nI (i + 1))) (lv' := [(2, .int (nI (i + 1))), (3, .int 0), (1, .int b), (0, .ref (ad T))]) hx hb dX5_nextOfWalk_73 hl (k := 1) rfl (nI_1 i) (by decide) rfl (fun ls hl => ?_)
        refine lv_goto (tgt := 4) hx hb dX5_nextOfWalk_76 (by decide) ?_
        exact ih1 (i + 1) b (by omega) (⟨by rw [← hinv1.1]; simp [nwk, c_4], hinv1.2⟩) H locs hP hS ls (lv_sub hl [0, 2, 3] rfl)
      · refine lv_aload_n hx hb dX5_nextOfWalk_21 rfl (lv_at hl 2 rfl) ?_
        refine vgS hx hb hts hi5 hown hK hP (T) (by have := (tr_o hT).1; show _ < 378; omega) (tr_o hT).2.1 (C := RX5) (T := TX5) (N := 16) rfl 2 (by decide) (by decide) (by decide) (by decide) (T + 3) rfl (hts (.fieldLink RX5 57 "CrateHelpers$Tree" "what" "[B") (by decide +kernel)) (fun _ h9 => h9) dX5_nextOfWalk_22 ?_
        refine lv_iload_n hx hb dX5_nextOfWalk_25 rfl (lv_at hl 0 rfl) ?_
        refine xbald hx hb hK hP (T + 3) (by have := (tr_o hT).1; show _ < 378; omega) (tr_o hT).2.2.2.2.1 hi3i dX5_nextOfWalk_26 ?_
        rw [nI_clamp (n := i) (by omega)]
        refine lv_if_ne (tgt := 44) hx hb dX5_nextOfWalk_27 (by decide) (fun c_6 => ?_) (fun c_6 => ?_)
        · refine lv_iconst (v := 0) hx hb dX5_nextOfWalk_44 (by decide) ?_
          refine lv_istore_n (lv' := [(3, .int 0), (2, .int (nI i)), (1, .int b), (0, .ref (ad T))]) hx hb dX5_nextOfWalk_45 rfl hl (by decide) rfl (fun ls hl => ?_)
          refine lv_iload_n hx hb dX5_nextOfWalk_46 rfl (lv_at hl 0 rfl) ?_
          refine lv_if_eq (tgt := 73) hx hb dX5_nextOfWalk_47 (by decide) (fun _ => ?_) (fun c_7 => absurd c_7 (by decide))
          refine lv_iinc (v := (nI (i + 1))) (lv' := [(2, .int (nI (i + 1))), (3, .int 0), (1, .int b), (0, .ref (ad T))]) hx hb dX5_nextOfWalk_73 hl (k := 1) rfl (nI_1 i) (by decide) rfl (fun ls hl => ?_)
          refine lv_goto (tgt := 4) hx hb dX5_nextOfWalk_76 (by decide) ?_
          exact ih1 (i + 1) b (by omega) (⟨by rw [← hinv1.1]; simp [nwk, c_4, c_6], hinv1.2⟩) H locs hP hS ls (lv_sub hl [0, 2, 3] rfl)
        · refine lv_aload_n hx hb dX5_nextOfWalk_30 rfl (lv_at hl 2 rfl) ?_
          refine vgS hx hb hts hi5 hown hK hP (T) (by have := (tr_o hT).1; show _ < 378; omega) (tr_o hT).2.1 (C := RX5) (T := TX5) (N := 16) rfl 4 (by decide) (by decide) (by decide) (by decide) (T + 5) rfl (hts (.fieldLink RX5 63 "CrateHelpers$Tree" "stage" "[B") (by decide +kernel)) (fun _ h9 => h9) dX5_nextOfWalk_31 ?_
          refine lv_iload_n hx hb dX5_nextOfWalk_34 rfl (lv_at hl 0 rfl) ?_
          refine xbald hx hb hK hP (T + 5) (by have := (tr_o hT).1; show _ < 378; omega) (tr_o hT).2.2.2.2.2.2.1 hi5i dX5_nextOfWalk_35 ?_
          rw [nI_clamp (n := i) (by omega)]
          refine lv_iconst (v := 3) hx hb dX5_nextOfWalk_36 (by decide) ?_
          refine lv_icmp_eq (tgt := 44) hx hb dX5_nextOfWalk_37 (by decide) (fun c_8 => ?_) (fun c_8 => ?_)
          · refine lv_iconst (v := 0) hx hb dX5_nextOfWalk_44 (by decide) ?_
            refine lv_istore_n (lv' := [(3, .int 0), (2, .int (nI i)), (1, .int b), (0, .ref (ad T))]) hx hb dX5_nextOfWalk_45 rfl hl (by decide) rfl (fun ls hl => ?_)
            refine lv_iload_n hx hb dX5_nextOfWalk_46 rfl (lv_at hl 0 rfl) ?_
            refine lv_if_eq (tgt := 73) hx hb dX5_nextOfWalk_47 (by decide) (fun _ => ?_) (fun c_9 => absurd c_9 (by decide))
            refine lv_iinc (v := (nI (i + 1))) (lv' := [(2, .int (nI (i + 1))), (3, .int 0), (1, .int b), (0, .ref (ad T))]) hx hb dX5_nextOfWalk_73 hl (k := 1) rfl (nI_1 i) (by decide) rfl (fun ls hl => ?_)
            refine lv_goto (tgt := 4) hx hb dX5_nextOfWalk_76 (by decide) ?_
            exact ih1 (i + 1) b (by omega) (⟨by rw [← hinv1.1]; simp [nwk, c_4, c_6, c_8], hinv1.2⟩) H locs hP hS ls (lv_sub hl [0, 2, 3] rfl)
          · refine lv_iconst (v := 1) hx hb dX5_nextOfWalk_40 (by decide) ?_
            refine lv_goto (tgt := 45) hx hb dX5_nextOfWalk_41 (by decide) ?_
            refine lv_istore_n (lv' := [(3, .int 1), (2, .int (nI i)), (1, .int b), (0, .ref (ad T))]) hx hb dX5_nextOfWalk_45 rfl hl (by decide) rfl (fun ls hl => ?_)
            refine lv_iload_n hx hb dX5_nextOfWalk_46 rfl (lv_at hl 0 rfl) ?_
            refine lv_if_eq (tgt := 73) hx hb dX5_nextOfWalk_47 (by decide) (fun c_10 => absurd c_10 (by decide)) (fun _ => ?_)
            refine lv_iload_n hx hb dX5_nextOfWalk_50 rfl (lv_at hl 2 rfl) ?_
            refine lv_iconst (v := (-1)) hx hb dX5_nextOfWalk_51 (by decide) ?_
            refine lv_icmp_eq (tgt := 71) hx hb dX5_nextOfWalk_52 (by decide) (fun c_11 => ?_) (fun c_11 => ?_)
            · refine lv_iload_n hx hb dX5_nextOfWalk_71 rfl (lv_at hl 1 rfl) ?_
              refine lv_istore_n (lv' := [(1, .int (nI i)), (3, .int 1), (2, .int (nI i)), (0, .ref (ad T))]) hx hb dX5_nextOfWalk_72 rfl hl (by decide) rfl (fun ls hl => ?_)
              refine lv_iinc (v := (nI (i + 1))) (lv' := [(2, .int (nI (i + 1))), (1, .int (nI i)), (3, .int 1), (0, .ref (ad T))]) hx hb dX5_nextOfWalk_73 hl (k := 2) rfl (nI_1 i) (by decide) rfl (fun ls hl => ?_)
              refine lv_goto (tgt := 4) hx hb dX5_nextOfWalk_76 (by decide) ?_
              exact ih1 (i + 1) (nI i) (by omega) (⟨by rw [← hinv1.1]; simp [nwk, c_4, c_6, c_8, c_11], Or.inr hi1i⟩) H locs hP hS ls (lv_sub hl [0, 1, 3] rfl)
            · have hbb : vp_in b (ln (T + 1)) := hinv1.2.resolve_left c_11
              refine lv_aload_n hx hb dX5_nextOfWalk_55 rfl (lv_at hl 3 rfl) ?_
              refine vgS hx hb hts hi5 hown hK hP (T) (by have := (tr_o hT).1; show _ < 378; omega) (tr_o hT).2.1 (C := RX5) (T := TX5) (N := 16) rfl 0 (by decide) (by decide) (by decide) (by decide) (T + 1) rfl (hts (.fieldLink RX5 49 "CrateHelpers$Tree" "place" "[J") (by decide +kernel)) (fun _ h9 => h9) dX5_nextOfWalk_56 ?_
              refine lv_iload_n hx hb dX5_nextOfWalk_59 rfl (lv_at hl 1 rfl) ?_
              refine xlald hx hb hK hP (T + 1) (by have := (tr_o hT).1; show _ < 378; omega) (tr_o hT).2.2.1 hi1i dX5_nextOfWalk_60 ?_
              rw [nI_clamp (n := i) (by omega)]
              refine lv_aload_n hx hb dX5_nextOfWalk_61 rfl (lv_at hl 3 rfl) ?_
              refine vgS hx hb hts hi5 hown hK hP (T) (by have := (tr_o hT).1; show _ < 378; omega) (tr_o hT).2.1 (C := RX5) (T := TX5) (N := 16) rfl 0 (by decide) (by decide) (by decide) (by decide) (T + 1) rfl (hts (.fieldLink RX5 49 "CrateHelpers$Tree" "place" "[J") (by decide +kernel)) (fun _ h9 => h9) dX5_nextOfWalk_62 ?_
              refine lv_iload_n hx hb dX5_nextOfWalk_65 rfl (lv_at hl 2 rfl) ?_
              refine xlald hx hb hK hP (T + 1) (by have := (tr_o hT).1; show _ < 378; omega) (tr_o hT).2.2.1 hbb dX5_nextOfWalk_66 ?_
              refine W.lcmp hx hb dX5_nextOfWalk_67 ?_
              refine lv_if_ge (tgt := 73) hx hb dX5_nextOfWalk_68 (by decide) (fun c_12 => ?_) (fun c_12 => ?_)
              · refine lv_iinc (v := (nI (i + 1))) (lv' := [(2, .int (nI (i + 1))), (3, .int 1), (1, .int b), (0, .ref (ad T))]) hx hb dX5_nextOfWalk_73 hl (k := 1) rfl (nI_1 i) (by decide) rfl (fun ls hl => ?_)
                refine lv_goto (tgt := 4) hx hb dX5_nextOfWalk_76 (by decide) ?_
                exact ih1 (i + 1) b (by omega) (⟨by rw [← hinv1.1]; simp [nwk, c_4, c_6, c_8, c_11, (lg_lt.mp c_12)], hinv1.2⟩) H locs hP hS ls (lv_sub hl [0, 2, 3] rfl)
              · refine lv_iload_n hx hb dX5_nextOfWalk_71 rfl (lv_at hl 1 rfl) ?_
                refine lv_istore_n (lv' := [(1, .int (nI i)), (3, .int 1), (2, .int (nI i)), (0, .ref (ad T))]) hx hb dX5_nextOfWalk_72 rfl hl (by decide) rfl (fun ls hl => ?_)
                refine lv_iinc (v := (nI (i + 1))) (lv' := [(2, .int (nI (i + 1))), (1, .int (nI i)), (3, .int 1), (0, .ref (ad T))]) hx hb dX5_nextOfWalk_73 hl (k := 2) rfl (nI_1 i) (by decide) rfl (fun ls hl => ?_)
                refine lv_goto (tgt := 4) hx hb dX5_nextOfWalk_76 (by decide) ?_
                exact ih1 (i + 1) (nI i) (by omega) (⟨by rw [← hinv1.1]; simp [nwk, c_4, c_6, c_8, c_11, (Decidable.not_not.mp (fun h9 => c_12 (lg_lt.mpr h9)))], Or.inr hi1i⟩) H locs hP hS ls (lv_sub hl [0, 1, 3] rfl)
  exact lp1 (n) 0 (-1) (by omega) (⟨rfl, Or.inl rfl⟩) _ _ hP hS ls (lv_sub hl [0, 1, 2] rfl)

/-! part 26.tree2 -/
set_option maxHeartbeats 4000000 in
set_option maxRecDepth 100000 in
theorem c_X5_widthBelow (l : Launch) (D : va_G) (K : Nat → ClassId) (ad : Nat → Nat) (hap0 : apart ad (fun _ => True)) (T d : Nat) (hT : TrAt T) (hd : d < lT T) (B : Nat) (hB : PrAt B) (I : Nat → Nat → Int32) (G : Nat → Nat → Nat) (A : Nat → Nat → Int32) (L : Nat → Nat → Int64) (hTB : G T 14 = B) (hdp : ¬ A (T + 7) d = -1 → vp_in (A (T + 2) d) 6) : Ci l D K ad yX5_widthBelow wsX5_widthBelow 0 0 [.ref (ad T), .int (nI d)] (I, G, A, L) (fun (r : Int32) (u : Mem) => r = (if A (T + 7) d = -1 then 0 else A (B + 1) (A (T + 2) d).toNatClampNeg) ∧ u = (I, G, A, L)) := by
  intro sz
  refine Met.ofW (cc := cX5_widthBelow) (maxL := 2) (ret := (some .int)) (by decide) rfl ?_
  intro p e s m args below meth c s₁ Bd hml hv0
  obtain ⟨rfl, hsz, hP, hK⟩ := hv0
  have hx := Bd.exec
  have hb := Bd.bytes
  have hr := Bd.returns
  have hts := atoms_spec (ws := wsX5_widthBelow) Bd.pre
  have hown : s.vm.findClass RX5 = some m.cls := findClass_of_methodNamed Bd.named
  have hlocks := Bd.notSynchronized
  have hi5 : ∀ w ∈ u_ws RX5 TX5 16, w ∈ wsX5_widthBelow := fun w h => List.mem_cons_of_mem _ (List.mem_append_left _ (List.mem_append_right _ h))
  have hi1 : ∀ w ∈ u_ws RX1 TX1 9, w ∈ wsX5_widthBelow := fun w h => List.mem_cons_of_mem _ (List.mem_append_right _ h)
  subst hsz
  have hap := vF_ap hap0 s.heap.size
  have hS : va_S (vF ad s.heap.size) s.heap s.heap [] := va_S.rf
  have hP : va_P D vwCl (VW K ad I G A L) s.heap := hP
  have hl := lv_entry ([.ref (ad T), .int (nI d)]) (n := 2) (Nat.le_of_ble_eq_true rfl)
  rw [lg_entry_eq]
  generalize (lg_sl ([.ref (ad T), .int (nI d)]) ++ List.replicate (2 - (lg_sl ([.ref (ad T), .int (nI d)])).length) Slot.unset).toArray = ls at hl ⊢
  have hl : lv_has ls 2 [(0, .ref (ad T)), (1, .int (nI d))] := hl
  have hl1 := (tr_l hT).2.2.2.2.2.2.2.2.2.2
  have hi1d : vp_in (nI d) (ln (T + 1)) := by rw [(tr_l hT).1]; exact vp_in_nI hd (by omega)
  have hi2d : vp_in (nI d) (ln (T + 2)) := by rw [(tr_l hT).2.1]; exact vp_in_nI hd (by omega)
  have hi3d : vp_in (nI d) (ln (T + 3)) := by rw [(tr_l hT).2.2.1]; exact vp_in_nI hd (by omega)
  have hi4d : vp_in (nI d) (ln (T + 4)) := by rw [(tr_l hT).2.2.2.1]; exact vp_in_nI hd (by omega)
  have hi5d : vp_in (nI d) (ln (T + 5)) := by rw [(tr_l hT).2.2.2.2.1]; exact vp_in_nI hd (by omega)
  have hi6d : vp_in (nI d) (ln (T + 6)) := by rw [(tr_l hT).2.2.2.2.2.1]; exact vp_in_nI hd (by omega)
  have hi7d : vp_in (nI d) (ln (T + 7)) := by rw [(tr_l hT).2.2.2.2.2.2.1]; exact vp_in_nI hd (by omega)
  have hi8d : vp_in (nI d) (ln (T + 8)) := by rw [(tr_l hT).2.2.2.2.2.2.2.1]; exact vp_in_nI hd (by omega)
  refine lv_aload_n hx hb dX5_widthBelow_0 rfl (lv_at hl 0 rfl) ?_
  refine vgS hx hb hts hi5 hown hK hP (T) (by have := (tr_o hT).1; show _ < 378; omega) (tr_o hT).2.1 (C := RX5) (T := TX5) (N := 16) rfl 6 (by decide) (by decide) (by decide) (by decide) (T + 7) rfl (hts (.fieldLink RX5 69 "CrateHelpers$Tree" "firstBelow" "[S") (by decide +kernel)) (fun _ h9 => h9) dX5_widthBelow_1 ?_
  refine lv_iload_n hx hb dX5_widthBelow_4 rfl (lv_at hl 1 rfl) ?_
  refine xsald hx hb hK hP (T + 7) (by have := (tr_o hT).1; show _ < 378; omega) (tr_o hT).2.2.2.2.2.2.2.2.1 hi7d dX5_widthBelow_5 ?_
  rw [nI_clamp (n := d) (by omega)]
  refine lv_iconst (v := (-1)) hx hb dX5_widthBelow_6 (by decide) ?_
  refine lv_icmp_ne (tgt := 14) hx hb dX5_widthBelow_7 (by decide) (fun c_1 => ?_) (fun c_1 => ?_)
  · have hdq : vp_in (A (T + 2) d) (ln (B + 1)) := by rw [(pr_o hB).2.2.2.2.2.2.2.1]; exact hdp c_1
    refine lv_aload_n hx hb dX5_widthBelow_14 rfl (lv_at hl 0 rfl) ?_
    refine vgG hx hb hts hi5 hown hK hP (T) (by have := (tr_o hT).1; show _ < 378; omega) (tr_o hT).2.1 (C := RX5) (T := TX5) (N := 16) rfl 14 (by decide) (by decide) (by decide) (by decide) (hts (.fieldLink RX5 45 "CrateHelpers$Tree" "problem" "LCrateHelpers$Problem;") (by decide +kernel)) (fun _ h9 => h9) dX5_widthBelow_15 ?_
    rw [hTB]
    refine vgS hx hb hts hi1 hown hK hP (B) (by have := (pr_o hB).1; omega) (pr_o hB).2.1 (C := RX1) (T := TX1) (N := 9) rfl 4 (by decide) (by decide) (by decide) (by decide) (B + 1) rfl (hts (.fieldLink RX5 108 "CrateHelpers$Problem" "sizes" "[I") (by decide +kernel)) (fun _ h9 => h9) dX5_widthBelow_18 ?_
    refine lv_aload_n hx hb dX5_widthBelow_21 rfl (lv_at hl 0 rfl) ?_
    refine vgS hx hb hts hi5 hown hK hP (T) (by have := (tr_o hT).1; show _ < 378; omega) (tr_o hT).2.1 (C := RX5) (T := TX5) (N := 16) rfl 1 (by decide) (by decide) (by decide) (by decide) (T + 2) rfl (hts (.fieldLink RX5 53 "CrateHelpers$Tree" "depth" "[B") (by decide +kernel)) (fun _ h9 => h9) dX5_widthBelow_22 ?_
    refine lv_iload_n hx hb dX5_widthBelow_25 rfl (lv_at hl 1 rfl) ?_
    refine xbald hx hb hK hP (T + 2) (by have := (tr_o hT).1; show _ < 378; omega) (tr_o hT).2.2.2.1 hi2d dX5_widthBelow_26 ?_
    rw [nI_clamp (n := d) (by omega)]
    refine xiald hx hb hK hP (B + 1) (by have := (pr_o hB).1; omega) (pr_o hB).2.2.1 hdq dX5_widthBelow_27 ?_
    exact W.iret (v := (A (B + 1) ((A (T + 2) d).toNatClampNeg))) hx hb hr (fun t ht hW => ⟨⟨(A (B + 1) ((A (T + 2) d).toNatClampNeg)), (I, G, A, L), rfl, ⟨by first | (simp [c_1]; done), rfl⟩, by rw [ht]; exact hP, va_K.moved hW.alike hK⟩, hS.F ht⟩) hS.2.2 dX5_widthBelow_28
  · refine lv_iconst (v := 0) hx hb dX5_widthBelow_10 (by decide) ?_
    refine lv_goto (tgt := 28) hx hb dX5_widthBelow_11 (by decide) ?_
    exact W.iret (v := 0) hx hb hr (fun t ht hW => ⟨⟨0, (I, G, A, L), rfl, ⟨by first | (simp [c_1]; done), rfl⟩, by rw [ht]; exact hP, va_K.moved hW.alike hK⟩, hS.F ht⟩) hS.2.2 dX5_widthBelow_28

set_option maxHeartbeats 4000000 in
set_option maxRecDepth 100000 in
theorem c_X5_below (l : Launch) (D : va_G) (K : Nat → ClassId) (ad : Nat → Nat) (hap0 : apart ad (fun _ => True)) (T d : Nat) (hT : TrAt T) (hd : d < lT T) (B : Nat) (w : Int32) (hB : PrAt B) (I : Nat → Nat → Int32) (G : Nat → Nat → Nat) (A : Nat → Nat → Int32) (L : Nat → Nat → Int64) (hTB : G T 14 = B) (hdp : ¬ A (T + 7) d = -1 → vp_in (A (T + 2) d) 6) : Ci l D K ad yX5_below wsX5_below 1 40 [.ref (ad T), .int (nI d), .int w] (I, G, A, L) (fun (r : Int32) (u : Mem) => r = (if ¬ w < 0 ∧ w < (if A (T + 7) d = -1 then 0 else A (B + 1) (A (T + 2) d).toNatClampNeg) then A (T + 7) d + w else -1) ∧ u = (I, G, A, L)) := by
  intro sz
  refine Met.ofW (cc := cX5_below) (maxL := 3) (ret := (some .int)) (by decide) rfl ?_
  intro p e s m args below meth c s₁ Bd hml hv0
  obtain ⟨rfl, hsz, hP, hK⟩ := hv0
  have hx := Bd.exec
  have hb := Bd.bytes
  have hr := Bd.returns
  have hts := atoms_spec (ws := wsX5_below) Bd.pre
  have hown : s.vm.findClass RX5 = some m.cls := findClass_of_methodNamed Bd.named
  have hlocks := Bd.notSynchronized
  have hi5 : ∀ w ∈ u_ws RX5 TX5 16, w ∈ wsX5_below := fun w h => List.mem_cons_of_mem _ (List.mem_append_left _ (List.mem_append_right _ h))
  have hi1 : ∀ w ∈ u_ws RX1 TX1 9, w ∈ wsX5_below := fun w h => List.mem_cons_of_mem _ (List.mem_append_right _ h)
  subst hsz
  have hap := vF_ap hap0 s.heap.size
  have hS : va_S (vF ad s.heap.size) s.heap s.heap [] := va_S.rf
  have hP : va_P D vwCl (VW K ad I G A L) s.heap := hP
  have hl := lv_entry ([.ref (ad T), .int (nI d), .int w]) (n := 3) (Nat.le_of_ble_eq_true rfl)
  rw [lg_entry_eq]
  generalize (lg_sl ([.ref (ad T), .int (nI d), .int w]) ++ List.replicate (3 - (lg_sl ([.ref (ad T), .int (nI d), .int w])).length) Slot.unset).toArray = ls at hl ⊢
  have hl : lv_has ls 3 [(0, .ref (ad T)), (1, .int (nI d)), (2, .int w)] := hl
  have hl1 := (tr_l hT).2.2.2.2.2.2.2.2.2.2
  have hi1d : vp_in (nI d) (ln (T + 1)) := by rw [(tr_l hT).1]; exact vp_in_nI hd (by omega)
  have hi2d : vp_in (nI d) (ln (T + 2)) := by rw [(tr_l hT).2.1]; exact vp_in_nI hd (by omega)
  have hi3d : vp_in (nI d) (ln (T + 3)) := by rw [(tr_l hT).2.2.1]; exact vp_in_nI hd (by omega)
  have hi4d : vp_in (nI d) (ln (T + 4)) := by rw [(tr_l hT).2.2.2.1]; exact vp_in_nI hd (by omega)
  have hi5d : vp_in (nI d) (ln (T + 5)) := by rw [(tr_l hT).2.2.2.2.1]; exact vp_in_nI hd (by omega)
  have hi6d : vp_in (nI d) (ln (T + 6)) := by rw [(tr_l hT).2.2.2.2.2.1]; exact vp_in_nI hd (by omega)
  have hi7d : vp_in (nI d) (ln (T + 7)) := by rw [(tr_l hT).2.2.2.2.2.2.1]; exact vp_in_nI hd (by omega)
  have hi8d : vp_in (nI d) (ln (T + 8)) := by rw [(tr_l hT).2.2.2.2.2.2.2.1]; exact vp_in_nI hd (by omega)
  refine lv_iload_n hx hb dX5_below_0 rfl (lv_at hl 2 rfl) ?_
  refine lv_if_lt (tgt := 24) hx hb dX5_below_1 (by decide) (fun c_1 => ?_) (fun c_1 => ?_)
  · refine lv_iconst (v := (-1)) hx hb dX5_below_24 (by decide) ?_
    exact W.iret (v := (-1)) hx hb hr (fun t ht hW => ⟨⟨(-1), (I, G, A, L), rfl, ⟨(if_neg (fun h => h.1 c_1)).symm, rfl⟩, by rw [ht]; exact hP, va_K.moved hW.alike hK⟩, hS.F ht⟩) hS.2.2 dX5_below_25
  · refine lv_iload_n hx hb dX5_below_4 rfl (lv_at hl 2 rfl) ?_
    refine lv_aload_n hx hb dX5_below_5 rfl (lv_at hl 0 rfl) ?_
    refine lv_iload_n hx hb dX5_below_6 rfl (lv_at hl 1 rfl) ?_
    refine vcV (As := [.int (nI d)]) (rest := [.int w]) ⟨hx, hb, hml, hown, hts⟩ (c_X5_widthBelow l D K ad hap0 T d hT hd B hB I G A L hTB hdp) (cwV 1 hts gX5_below_X5_widthBelow rfl rfl rfl (by decide +kernel) ⟨Nat.le_of_ble_eq_true rfl, Nat.le_of_ble_eq_true rfl⟩) hK hP hS (by have := (tr_o hT).1; show _ < 378; omega) (tr_o hT).2.1 (by decide) rfl rfl rfl hl.1 (Nat.le_of_ble_eq_true rfl) (Nat.le_of_ble_eq_true rfl) (Nat.le_of_ble_eq_true rfl) dX5_below_7 (fun r2 u3 H locs hw hP hS => ?_) rfl
    obtain ⟨hr2, rfl⟩ := hw
    have hP : va_P D vwCl (VW K ad I G A L) H := hP
    subst hr2
    refine lv_icmp_ge (tgt := 24) hx hb dX5_below_10 (by decide) (fun c_4 => ?_) (fun c_4 => ?_)
    · refine lv_iconst (v := (-1)) hx hb dX5_below_24 (by decide) ?_
      exact W.iret (v := (-1)) hx hb hr (fun t ht hW => ⟨⟨(-1), (I, G, A, L), rfl, ⟨(if_neg (fun h => absurd h.2 (Int32.not_lt.mpr c_4))).symm, rfl⟩, by rw [ht]; exact hP, va_K.moved hW.alike hK⟩, hS.F ht⟩) hS.2.2 dX5_below_25
    · refine lv_aload_n hx hb dX5_below_13 rfl (lv_at hl 0 rfl) ?_
      refine vgS hx hb hts hi5 hown hK hP (T) (by have := (tr_o hT).1; show _ < 378; omega) (tr_o hT).2.1 (C := RX5) (T := TX5) (N := 16) rfl 6 (by decide) (by decide) (by decide) (by decide) (T + 7) rfl (hts (.fieldLink RX5 69 "CrateHelpers$Tree" "firstBelow" "[S") (by decide +kernel)) (fun _ h9 => h9) dX5_below_14 ?_
      refine lv_iload_n hx hb dX5_below_17 rfl (lv_at hl 1 rfl) ?_
      refine xsald hx hb hK hP (T + 7) (by have := (tr_o hT).1; show _ < 378; omega) (tr_o hT).2.2.2.2.2.2.2.2.1 hi7d dX5_below_18 ?_
      rw [nI_clamp (n := d) (by omega)]
      refine lv_iload_n hx hb dX5_below_19 rfl (lv_at hl 2 rfl) ?_
      refine lv_iadd hx hb dX5_below_20 ?_
      refine lv_goto (tgt := 25) hx hb dX5_below_21 (by decide) ?_
      exact W.iret (v := ((A (T + 7) d) + w)) hx hb hr (fun t ht hW => ⟨⟨((A (T + 7) d) + w), (I, G, A, L), rfl, ⟨(if_pos ⟨c_1, Int32.not_le.mp c_4⟩).symm, rfl⟩, by rw [ht]; exact hP, va_K.moved hW.alike hK⟩, hS.F ht⟩) hS.2.2 dX5_below_25

set_option maxHeartbeats 4000000 in
set_option maxRecDepth 100000 in
theorem c_X5_addJudged (l : Launch) (D : va_G) (K : Nat → ClassId) (ad : Nat → Nat) (hap0 : apart ad (fun _ => True)) (T n : Nat) (x : Int32) (w : Int64) (hT : TrAt T) (hn : n < lT T) (I : Nat → Nat → Int32) (G : Nat → Nat → Nat) (A : Nat → Nat → Int32) (L : Nat → Nat → Int64) (hkn : I T 9 = nI n) : Cv l D K ad yX5_addJudged wsX5_addJudged 0 0 [.ref (ad T), .int x, .long w] (I, G, A, L) (fun (u : Mem) => u = (up2 I T 9 (nI n + 1), G, up2 (up2 (up2 (up2 (up2 (up2 (up2 A (T + 2) n (vp_nar .byte x.toInt8.toInt32)) (T + 3) n (vp_nar .byte (I (T + 11) 0).toInt8.toInt32)) (T + 4) n (vp_nar .byte (I (T + 11) 1).toInt8.toInt32)) (T + 5) n (vp_nar .byte 0)) (T + 6) n (vp_nar .byte (-9))) (T + 7) n (vp_nar .short (-1))) (T + 8) n (vp_nar .boolean 0), up2 L (T + 1) n (plc (I (T + 11) 2) w))) := by
  intro sz
  refine Met.ofW (cc := cX5_addJudged) (maxL := 4) (ret := none) (by decide) rfl ?_
  intro p e s m args below meth c s₁ Bd hml hv0
  obtain ⟨rfl, hsz, hP, hK⟩ := hv0
  have hx := Bd.exec
  have hb := Bd.bytes
  have hr := Bd.returns
  have hts := atoms_spec (ws := wsX5_addJudged) Bd.pre
  have hown : s.vm.findClass RX5 = some m.cls := findClass_of_methodNamed Bd.named
  have hlocks := Bd.notSynchronized
  have hi5 : ∀ w ∈ u_ws RX5 TX5 16, w ∈ wsX5_addJudged := fun w h => List.mem_cons_of_mem _ (List.mem_append_left _ (List.mem_append_right _ h))
  have hi0 : ∀ w ∈ u_ws RX0 TX0 3, w ∈ wsX5_addJudged := fun w h => List.mem_cons_of_mem _ (List.mem_append_right _ h)
  subst hsz
  have hap := vF_ap hap0 s.heap.size
  have hS : va_S (vF ad s.heap.size) s.heap s.heap [] := va_S.rf
  have hP : va_P D vwCl (VW K ad I G A L) s.heap := hP
  have hl := lv_entry ([.ref (ad T), .int x, .long w]) (n := 4) (Nat.le_of_ble_eq_true rfl)
  rw [lg_entry_eq]
  generalize (lg_sl ([.ref (ad T), .int x, .long w]) ++ List.replicate (4 - (lg_sl ([.ref (ad T), .int x, .long w])).length) Slot.unset).toArray = ls at hl ⊢
  have hl : lv_has ls 4 [(0, .ref (ad T)), (1, .int x), (2, .long w)] := hl
  have hl1 := (tr_l hT).2.2.2.2.2.2.2.2.2.2
  have hi1n : vp_in (nI n) (ln (T + 1)) := by rw [(tr_l hT).1]; exact vp_in_nI hn (by omega)
  have hi2n : vp_in (nI n) (ln (T + 2)) := by rw [(tr_l hT).2.1]; exact vp_in_nI hn (by omega)
  have hi3n : vp_in (nI n) (ln (T + 3)) := by rw [(tr_l hT).2.2.1]; exact vp_in_nI hn (by omega)
  have hi4n : vp_in (nI n) (ln (T + 4)) := by rw [(tr_l hT).2.2.2.1]; exact vp_in_nI hn (by omega)
  have hi5n : vp_in (nI n) (ln (T + 5)) := by rw [(tr_l hT).2.2.2.2.1]; exact vp_in_nI hn (by omega)
  have hi6n : vp_in (nI n) (ln (T + 6)) := by rw [(tr_l hT).2.2.2.2.2.1]; exact vp_in_nI hn (by omega)
  have hi7n : vp_in (nI n) (ln (T + 7)) := by rw [(tr_l hT).2.2.2.2.2.2.1]; exact vp_in_nI hn (by omega)
  have hi8n : vp_in (nI n) (ln (T + 8)) := by rw [(tr_l hT).2.2.2.2.2.2.2.1]; exact vp_in_nI hn (by omega)
  refine lv_aload_n hx hb dX5_addJudged_0 rfl (lv_at hl 0 rfl) ?_
  refine vgS hx hb hts hi5 hown hK hP (T) (by have := (tr_o hT).1; show _ < 378; omega) (tr_o hT).2.1 (C := RX5) (T := TX5) (N := 16) rfl 0 (by decide) (by decide) (by decide) (by decide) (T + 1) rfl (hts (.fieldLink RX5 49 "CrateHelpers$Tree" "place" "[J") (by decide +kernel)) (fun _ h9 => h9) dX5_addJudged_1 ?_
  refine lv_aload_n hx hb dX5_addJudged_4 rfl (lv_at hl 0 rfl) ?_
  refine vgI hx hb hts hi5 hown hK hP (T) (by have := (tr_o hT).1; show _ < 378; omega) (tr_o hT).2.1 (C := RX5) (T := TX5) (N := 16) rfl 9 (by decide) (by decide) (by decide) (by decide) (hts (.fieldLink RX5 15 "CrateHelpers$Tree" "known" "I") (by decide +kernel)) (fun _ h9 => h9) dX5_addJudged_5 ?_
  rw [hkn]
  refine lv_aload_n hx hb dX5_addJudged_8 rfl (lv_at hl 0 rfl) ?_
  refine vgS hx hb hts hi5 hown hK hP (T) (by have := (tr_o hT).1; show _ < 378; omega) (tr_o hT).2.1 (C := RX5) (T := TX5) (N := 16) rfl 13 (by decide) (by decide) (by decide) (by decide) (T + 11) rfl (hts (.fieldLink RX5 31 "CrateHelpers$Tree" "judge" "LCrateHelpers$Judge;") (by decide +kernel)) (fun _ h9 => h9) dX5_addJudged_9 ?_
  refine vgI hx hb hts hi0 hown hK hP (T + 11) (by have := (tr_o hT).1; show _ < 378; omega) (tr_o hT).2.2.2.2.2.2.2.2.2.2.2.2 (C := RX0) (T := TX0) (N := 3) rfl 2 (by decide) (by decide) (by decide) (by decide) (hts (.fieldLink RX5 91 "CrateHelpers$Judge" "bound" "I") (by decide +kernel)) (fun _ h9 => h9) dX5_addJudged_12 ?_
  refine lv_i2l hx hb dX5_addJudged_15 rfl ?_
  refine lv_bipush (v := 18) hx hb dX5_addJudged_16 (by decide) ?_
  refine lv_lshl hx hb dX5_addJudged_18 rfl ?_
  refine lv_lload_n hx hb dX5_addJudged_19 rfl (lv_at hl 2 rfl) ?_
  refine lv_lor hx hb dX5_addJudged_20 ?_
  refine xlast hx hb hK hP hap hS (T + 1) (by have := (tr_o hT).1; show _ < 378; omega) (tr_o hT).2.2.1 hi1n dX5_addJudged_21 (fun H locs hP hS => ?_)
  rw [nI_clamp (n := n) (by omega)] at hP
  obtain ⟨L1, eL1⟩ : ∃ z, z = up2 L (T + 1) n (((((I (T + 11) 2).toInt64) <<< ((18 : Int32).toInt64 &&& 63)) ||| w)) := ⟨_, rfl⟩
  rw [← eL1] at hP
  have hP : va_P D vwCl (VW K ad I G A L1) H := hP
  refine lv_aload_n hx hb dX5_addJudged_22 rfl (lv_at hl 0 rfl) ?_
  refine vgS hx hb hts hi5 hown hK hP (T) (by have := (tr_o hT).1; show _ < 378; omega) (tr_o hT).2.1 (C := RX5) (T := TX5) (N := 16) rfl 1 (by decide) (by decide) (by decide) (by decide) (T + 2) rfl (hts (.fieldLink RX5 53 "CrateHelpers$Tree" "depth" "[B") (by decide +kernel)) (fun _ h9 => h9) dX5_addJudged_23 ?_
  refine lv_aload_n hx hb dX5_addJudged_26 rfl (lv_at hl 0 rfl) ?_
  refine vgI hx hb hts hi5 hown hK hP (T) (by have := (tr_o hT).1; show _ < 378; omega) (tr_o hT).2.1 (C := RX5) (T := TX5) (N := 16) rfl 9 (by decide) (by decide) (by decide) (by decide) (hts (.fieldLink RX5 15 "CrateHelpers$Tree" "known" "I") (by decide +kernel)) (fun _ h9 => h9) dX5_addJudged_27 ?_
  rw [hkn]
  refine lv_iload_n hx hb dX5_addJudged_30 rfl (lv_at hl 1 rfl) ?_
  refine lv_i2b hx hb dX5_addJudged_31 rfl ?_
  refine xbast hx hb hK hP hap hS (T + 2) (by have := (tr_o hT).1; show _ < 378; omega) (tr_o hT).2.2.2.1 hi2n dX5_addJudged_32 (fun H locs hP hS => ?_)
  rw [nI_clamp (n := n) (by omega)] at hP
  obtain ⟨A2, eA2⟩ : ∃ z, z = up2 A (T + 2) n (vp_nar .byte x.toInt8.toInt32) := ⟨_, rfl⟩
  rw [← eA2] at hP
  have hP : va_P D vwCl (VW K ad I G A2 L1) H := hP
  refine lv_aload_n hx hb dX5_addJudged_33 rfl (lv_at hl 0 rfl) ?_
  refine vgS hx hb hts hi5 hown hK hP (T) (by have := (tr_o hT).1; show _ < 378; omega) (tr_o hT).2.1 (C := RX5) (T := TX5) (N := 16) rfl 2 (by decide) (by decide) (by decide) (by decide) (T + 3) rfl (hts (.fieldLink RX5 57 "CrateHelpers$Tree" "what" "[B") (by decide +kernel)) (fun _ h9 => h9) dX5_addJudged_34 ?_
  refine lv_aload_n hx hb dX5_addJudged_37 rfl (lv_at hl 0 rfl) ?_
  refine vgI hx hb hts hi5 hown hK hP (T) (by have := (tr_o hT).1; show _ < 378; omega) (tr_o hT).2.1 (C := RX5) (T := TX5) (N := 16) rfl 9 (by decide) (by decide) (by decide) (by decide) (hts (.fieldLink RX5 15 "CrateHelpers$Tree" "known" "I") (by decide +kernel)) (fun _ h9 => h9) dX5_addJudged_38 ?_
  rw [hkn]
  refine lv_aload_n hx hb dX5_addJudged_41 rfl (lv_at hl 0 rfl) ?_
  refine vgS hx hb hts hi5 hown hK hP (T) (by have := (tr_o hT).1; show _ < 378; omega) (tr_o hT).2.1 (C := RX5) (T := TX5) (N := 16) rfl 13 (by decide) (by decide) (by decide) (by decide) (T + 11) rfl (hts (.fieldLink RX5 31 "CrateHelpers$Tree" "judge" "LCrateHelpers$Judge;") (by decide +kernel)) (fun _ h9 => h9) dX5_addJudged_42 ?_
  refine vgI hx hb hts hi0 hown hK hP (T + 11) (by have := (tr_o hT).1; show _ < 378; omega) (tr_o hT).2.2.2.2.2.2.2.2.2.2.2.2 (C := RX0) (T := TX0) (N := 3) rfl 0 (by decide) (by decide) (by decide) (by decide) (hts (.fieldLink RX5 94 "CrateHelpers$Judge" "what" "I") (by decide +kernel)) (fun _ h9 => h9) dX5_addJudged_45 ?_
  refine lv_i2b hx hb dX5_addJudged_48 rfl ?_
  refine xbast hx hb hK hP hap hS (T + 3) (by have := (tr_o hT).1; show _ < 378; omega) (tr_o hT).2.2.2.2.1 hi3n dX5_addJudged_49 (fun H locs hP hS => ?_)
  rw [nI_clamp (n := n) (by omega)] at hP
  obtain ⟨A3, eA3⟩ : ∃ z, z = up2 A2 (T + 3) n (vp_nar .byte ((I (T + 11) 0).toInt8.toInt32)) := ⟨_, rfl⟩
  rw [← eA3] at hP
  have hP : va_P D vwCl (VW K ad I G A3 L1) H := hP
  refine lv_aload_n hx hb dX5_addJudged_50 rfl (lv_at hl 0 rfl) ?_
  refine vgS hx hb hts hi5 hown hK hP (T) (by have := (tr_o hT).1; show _ < 378; omega) (tr_o hT).2.1 (C := RX5) (T := TX5) (N := 16) rfl 3 (by decide) (by decide) (by decide) (by decide) (T + 4) rfl (hts (.fieldLink RX5 60 "CrateHelpers$Tree" "why" "[B") (by decide +kernel)) (fun _ h9 => h9) dX5_addJudged_51 ?_
  refine lv_aload_n hx hb dX5_addJudged_54 rfl (lv_at hl 0 rfl) ?_
  refine vgI hx hb hts hi5 hown hK hP (T) (by have := (tr_o hT).1; show _ < 378; omega) (tr_o hT).2.1 (C := RX5) (T := TX5) (N := 16) rfl 9 (by decide) (by decide) (by decide) (by decide) (hts (.fieldLink RX5 15 "CrateHelpers$Tree" "known" "I") (by decide +kernel)) (fun _ h9 => h9) dX5_addJudged_55 ?_
  rw [hkn]
  refine lv_aload_n hx hb dX5_addJudged_58 rfl (lv_at hl 0 rfl) ?_
  refine vgS hx hb hts hi5 hown hK hP (T) (by have := (tr_o hT).1; show _ < 378; omega) (tr_o hT).2.1 (C := RX5) (T := TX5) (N := 16) rfl 13 (by decide) (by decide) (by decide) (by decide) (T + 11) rfl (hts (.fieldLink RX5 31 "CrateHelpers$Tree" "judge" "LCrateHelpers$Judge;") (by decide +kernel)) (fun _ h9 => h9) dX5_addJudged_59 ?_
  refine vgI hx hb hts hi0 hown hK hP (T + 11) (by have := (tr_o hT).1; show _ < 378; omega) (tr_o hT).2.2.2.2.2.2.2.2.2.2.2.2 (C := RX0) (T := TX0) (N := 3) rfl 1 (by decide) (by decide) (by decide) (by decide) (hts (.fieldLink RX5 96 "CrateHelpers$Judge" "why" "I") (by decide +kernel)) (fun _ h9 => h9) dX5_addJudged_62 ?_
  refine lv_i2b hx hb dX5_addJudged_65 rfl ?_
  refine xbast hx hb hK hP hap hS (T + 4) (by have := (tr_o hT).1; show _ < 378; omega) (tr_o hT).2.2.2.2.2.1 hi4n dX5_addJudged_66 (fun H locs hP hS => ?_)
  rw [nI_clamp (n := n) (by omega)] at hP
  obtain ⟨A4, eA4⟩ : ∃ z, z = up2 A3 (T + 4) n (vp_nar .byte ((I (T + 11) 1).toInt8.toInt32)) := ⟨_, rfl⟩
  rw [← eA4] at hP
  have hP : va_P D vwCl (VW K ad I G A4 L1) H := hP
  refine lv_aload_n hx hb dX5_addJudged_67 rfl (lv_at hl 0 rfl) ?_
  refine vgS hx hb hts hi5 hown hK hP (T) (by have := (tr_o hT).1; show _ < 378; omega) (tr_o hT).2.1 (C := RX5) (T := TX5) (N := 16) rfl 4 (by decide) (by decide) (by decide) (by decide) (T + 5) rfl (hts (.fieldLink RX5 63 "CrateHelpers$Tree" "stage" "[B") (by decide +kernel)) (fun _ h9 => h9) dX5_addJudged_68 ?_
  refine lv_aload_n hx hb dX5_addJudged_71 rfl (lv_at hl 0 rfl) ?_
  refine vgI hx hb hts hi5 hown hK hP (T) (by have := (tr_o hT).1; show _ < 378; omega) (tr_o hT).2.1 (C := RX5) (T := TX5) (N := 16) rfl 9 (by decide) (by decide) (by decide) (by decide) (hts (.fieldLink RX5 15 "CrateHelpers$Tree" "known" "I") (by decide +kernel)) (fun _ h9 => h9) dX5_addJudged_72 ?_
  rw [hkn]
  refine lv_iconst (v := 0) hx hb dX5_addJudged_75 (by decide) ?_
  refine xbast hx hb hK hP hap hS (T + 5) (by have := (tr_o hT).1; show _ < 378; omega) (tr_o hT).2.2.2.2.2.2.1 hi5n dX5_addJudged_76 (fun H locs hP hS => ?_)
  rw [nI_clamp (n := n) (by omega)] at hP
  obtain ⟨A5, eA5⟩ : ∃ z, z = up2 A4 (T + 5) n (vp_nar .byte 0) := ⟨_, rfl⟩
  rw [← eA5] at hP
  have hP : va_P D vwCl (VW K ad I G A5 L1) H := hP
  refine lv_aload_n hx hb dX5_addJudged_77 rfl (lv_at hl 0 rfl) ?_
  refine vgS hx hb hts hi5 hown hK hP (T) (by have := (tr_o hT).1; show _ < 378; omega) (tr_o hT).2.1 (C := RX5) (T := TX5) (N := 16) rfl 5 (by decide) (by decide) (by decide) (by decide) (T + 6) rfl (hts (.fieldLink RX5 66 "CrateHelpers$Tree" "doneBy" "[B") (by decide +kernel)) (fun _ h9 => h9) dX5_addJudged_78 ?_
  refine lv_aload_n hx hb dX5_addJudged_81 rfl (lv_at hl 0 rfl) ?_
  refine vgI hx hb hts hi5 hown hK hP (T) (by have := (tr_o hT).1; show _ < 378; omega) (tr_o hT).2.1 (C := RX5) (T := TX5) (N := 16) rfl 9 (by decide) (by decide) (by decide) (by decide) (hts (.fieldLink RX5 15 "CrateHelpers$Tree" "known" "I") (by decide +kernel)) (fun _ h9 => h9) dX5_addJudged_82 ?_
  rw [hkn]
  refine lv_bipush (v := (-9)) hx hb dX5_addJudged_85 (by decide) ?_
  refine xbast hx hb hK hP hap hS (T + 6) (by have := (tr_o hT).1; show _ < 378; omega) (tr_o hT).2.2.2.2.2.2.2.1 hi6n dX5_addJudged_87 (fun H locs hP hS => ?_)
  rw [nI_clamp (n := n) (by omega)] at hP
  obtain ⟨A6, eA6⟩ : ∃ z, z = up2 A5 (T + 6) n (vp_nar .byte (-9)) := ⟨_, rfl⟩
  rw [← eA6] at hP
  have hP : va_P D vwCl (VW K ad I G A6 L1) H := hP
  refine lv_aload_n hx hb dX5_addJudged_88 rfl (lv_at hl 0 rfl) ?_
  refine vgS hx hb hts hi5 hown hK hP (T) (by have := (tr_o hT).1; show _ < 378; omega) (tr_o hT).2.1 (C := RX5) (T := TX5) (N := 16) rfl 6 (by decide) (by decide) (by decide) (by decide) (T + 7) rfl (hts (.fieldLink RX5 69 "CrateHelpers$Tree" "firstBelow" "[S") (by decide +kernel)) (fun _ h9 => h9) dX5_addJudged_89 ?_
  refine lv_aload_n hx hb dX5_addJudged_92 rfl (lv_at hl 0 rfl) ?_
  refine vgI hx hb hts hi5 hown hK hP (T) (by have := (tr_o hT).1; show _ < 378; omega) (tr_o hT).2.1 (C := RX5) (T := TX5) (N := 16) rfl 9 (by decide) (by decide) (by decide) (by decide) (hts (.fieldLink RX5 15 "CrateHelpers$Tree" "known" "I") (by decide +kernel)) (fun _ h9 => h9) dX5_addJudged_93 ?_
  rw [hkn]
  refine lv_iconst (v := (-1)) hx hb dX5_addJudged_96 (by decide) ?_
  refine xsast hx hb hK hP hap hS (T + 7) (by have := (tr_o hT).1; show _ < 378; omega) (tr_o hT).2.2.2.2.2.2.2.2.1 hi7n dX5_addJudged_97 (fun H locs hP hS => ?_)
  rw [nI_clamp (n := n) (by omega)] at hP
  obtain ⟨A7, eA7⟩ : ∃ z, z = up2 A6 (T + 7) n (vp_nar .short (-1)) := ⟨_, rfl⟩
  rw [← eA7] at hP
  have hP : va_P D vwCl (VW K ad I G A7 L1) H := hP
  refine lv_aload_n hx hb dX5_addJudged_98 rfl (lv_at hl 0 rfl) ?_
  refine vgS hx hb hts hi5 hown hK hP (T) (by have := (tr_o hT).1; show _ < 378; omega) (tr_o hT).2.1 (C := RX5) (T := TX5) (N := 16) rfl 7 (by decide) (by decide) (by decide) (by decide) (T + 8) rfl (hts (.fieldLink RX5 73 "CrateHelpers$Tree" "isReached" "[Z") (by decide +kernel)) (fun _ h9 => h9) dX5_addJudged_99 ?_
  refine lv_aload_n hx hb dX5_addJudged_102 rfl (lv_at hl 0 rfl) ?_
  refine vgI hx hb hts hi5 hown hK hP (T) (by have := (tr_o hT).1; show _ < 378; omega) (tr_o hT).2.1 (C := RX5) (T := TX5) (N := 16) rfl 9 (by decide) (by decide) (by decide) (by decide) (hts (.fieldLink RX5 15 "CrateHelpers$Tree" "known" "I") (by decide +kernel)) (fun _ h9 => h9) dX5_addJudged_103 ?_
  rw [hkn]
  refine lv_iconst (v := 0) hx hb dX5_addJudged_106 (by decide) ?_
  refine xzast hx hb hK hP hap hS (T + 8) (by have := (tr_o hT).1; show _ < 378; omega) (tr_o hT).2.2.2.2.2.2.2.2.2.1 hi8n dX5_addJudged_107 (fun H locs hP hS => ?_)
  rw [nI_clamp (n := n) (by omega)] at hP
  obtain ⟨A8, eA8⟩ : ∃ z, z = up2 A7 (T + 8) n (vp_nar .boolean 0) := ⟨_, rfl⟩
  rw [← eA8] at hP
  have hP : va_P D vwCl (VW K ad I G A8 L1) H := hP
  refine lv_aload_n hx hb dX5_addJudged_108 rfl (lv_at hl 0 rfl) ?_
  refine lv_dup hx hb dX5_addJudged_109 rfl ?_
  refine vgI hx hb hts hi5 hown hK hP (T) (by have := (tr_o hT).1; show _ < 378; omega) (tr_o hT).2.1 (C := RX5) (T := TX5) (N := 16) rfl 9 (by decide) (by decide) (by decide) (by decide) (hts (.fieldLink RX5 15 "CrateHelpers$Tree" "known" "I") (by decide +kernel)) (fun _ h9 => h9) dX5_addJudged_110 ?_
  rw [hkn]
  refine lv_iconst (v := 1) hx hb dX5_addJudged_113 (by decide) ?_
  refine lv_iadd hx hb dX5_addJudged_114 ?_
  refine vpI (v := ((nI n) + 1)) (ty := .int) hx hb hts hi5 tyX5 tyX5_ok nmX5 hown hK hP hap hS (T) (by have := (tr_o hT).1; show _ < 378; omega) (tr_o hT).2.1 (C := RX5) (T := TX5) (N := 16) rfl 9 (by decide) (by decide) (by decide) (by decide) (hts (.fieldLink RX5 15 "CrateHelpers$Tree" "known" "I") (by decide +kernel)) (fun _ h9 => h9) rfl (by decide +kernel) rfl rfl dX5_addJudged_115 (fun H locs hP hS => ?_)
  obtain ⟨I9, eI9⟩ : ∃ z, z = up2 I T 9 ((nI n) + 1) := ⟨_, rfl⟩
  rw [← eI9] at hP
  have hP : va_P D vwCl (VW K ad I9 G A8 L1) H := hP
  exact W.vret hx hb hr (fun t ht hW => ⟨⟨(I9, G, A8, L1), rfl, by rw [eI9, eA8, eA7, eA6, eA5, eA4, eA3, eA2, eL1]; rfl, by rw [ht]; exact hP, va_K.moved hW.alike hK⟩, hS.F ht⟩) hS.2.2 dX5_addJudged_118

/-! part 26.zrows -/
set_option maxRecDepth 20000 in
theorem ggX5_copyValues_X5_valueOf : GoodIn wsX5_copyValues wsX5_valueOf := goodIn_g _ [(6, 5), (5, 1), (11, 17)] rfl (by decide +kernel)
set_option maxRecDepth 20000 in
theorem gX5_copyValues_X5_valueOf : GoodIn wsX5_copyValues (wsV RX5 125 RX5 yX5_valueOf wsX5_valueOf) := goodIn_app (goodIn_of _ (by decide +kernel)) ggX5_copyValues_X5_valueOf
theorem dX5_copyValues_0 : decode cX5_copyValues 0 = .ok (.iconst 0, 1) := by decide +kernel
theorem dX5_copyValues_1 : decode cX5_copyValues 1 = .ok (.istore 4, 2) := by decide +kernel
theorem dX5_copyValues_3 : decode cX5_copyValues 3 = .ok (.iload 4, 2) := by decide +kernel
theorem dX5_copyValues_5 : decode cX5_copyValues 5 = .ok (.aload_n 0, 1) := by decide +kernel
theorem dX5_copyValues_6 : decode cX5_copyValues 6 = .ok (.getfield 53, 3) := by decide +kernel
theorem dX5_copyValues_9 : decode cX5_copyValues 9 = .ok (.iload_n 1, 1) := by decide +kernel
theorem dX5_copyValues_10 : decode cX5_copyValues 10 = .ok (.baload, 1) := by decide +kernel
theorem dX5_copyValues_11 : decode cX5_copyValues 11 = .ok (.if_icmp .ge 31, 3) := by decide +kernel
theorem dX5_copyValues_14 : decode cX5_copyValues 14 = .ok (.iload_n 3, 1) := by decide +kernel
theorem dX5_copyValues_15 : decode cX5_copyValues 15 = .ok (.iload 4, 2) := by decide +kernel
theorem dX5_copyValues_17 : decode cX5_copyValues 17 = .ok (.iadd, 1) := by decide +kernel
theorem dX5_copyValues_18 : decode cX5_copyValues 18 = .ok (.aload_n 2, 1) := by decide +kernel
theorem dX5_copyValues_19 : decode cX5_copyValues 19 = .ok (.arraylength, 1) := by decide +kernel
theorem dX5_copyValues_20 : decode cX5_copyValues 20 = .ok (.if_icmp .ge 22, 3) := by decide +kernel
theorem dX5_copyValues_23 : decode cX5_copyValues 23 = .ok (.aload_n 2, 1) := by decide +kernel
theorem dX5_copyValues_24 : decode cX5_copyValues 24 = .ok (.iload_n 3, 1) := by decide +kernel
theorem dX5_copyValues_25 : decode cX5_copyValues 25 = .ok (.iload 4, 2) := by decide +kernel
theorem dX5_copyValues_27 : decode cX5_copyValues 27 = .ok (.iadd, 1) := by decide +kernel
theorem dX5_copyValues_28 : decode cX5_copyValues 28 = .ok (.aload_n 0, 1) := by decide +kernel
theorem dX5_copyValues_29 : decode cX5_copyValues 29 = .ok (.iload_n 1, 1) := by decide +kernel
theorem dX5_copyValues_30 : decode cX5_copyValues 30 = .ok (.iload 4, 2) := by decide +kernel
theorem dX5_copyValues_32 : decode cX5_copyValues 32 = .ok (.invokevirtual 125, 3) := by decide +kernel
theorem dX5_copyValues_35 : decode cX5_copyValues 35 = .ok (.iastore, 1) := by decide +kernel
theorem dX5_copyValues_36 : decode cX5_copyValues 36 = .ok (.iinc 4 1, 3) := by decide +kernel
theorem dX5_copyValues_39 : decode cX5_copyValues 39 = .ok (.goto (-36), 3) := by decide +kernel
theorem dX5_copyValues_42 : decode cX5_copyValues 42 = .ok (.return_, 1) := by decide +kernel
theorem dJ7_fill_53178_0 : decode cJ7_fill_53178 0 = .ok (.iconst 0, 1) := by decide +kernel
theorem dJ7_fill_53178_1 : decode cJ7_fill_53178 1 = .ok (.istore_n 2, 1) := by decide +kernel
theorem dJ7_fill_53178_2 : decode cJ7_fill_53178 2 = .ok (.aload_n 0, 1) := by decide +kernel
theorem dJ7_fill_53178_3 : decode cJ7_fill_53178 3 = .ok (.arraylength, 1) := by decide +kernel
theorem dJ7_fill_53178_4 : decode cJ7_fill_53178 4 = .ok (.istore_n 3, 1) := by decide +kernel
theorem dJ7_fill_53178_5 : decode cJ7_fill_53178 5 = .ok (.iload_n 2, 1) := by decide +kernel
theorem dJ7_fill_53178_6 : decode cJ7_fill_53178 6 = .ok (.iload_n 3, 1) := by decide +kernel
theorem dJ7_fill_53178_7 : decode cJ7_fill_53178 7 = .ok (.if_icmp .ge 13, 3) := by decide +kernel
theorem dJ7_fill_53178_10 : decode cJ7_fill_53178 10 = .ok (.aload_n 0, 1) := by decide +kernel
theorem dJ7_fill_53178_11 : decode cJ7_fill_53178 11 = .ok (.iload_n 2, 1) := by decide +kernel
theorem dJ7_fill_53178_12 : decode cJ7_fill_53178 12 = .ok (.iload_n 1, 1) := by decide +kernel
theorem dJ7_fill_53178_13 : decode cJ7_fill_53178 13 = .ok (.iastore, 1) := by decide +kernel
theorem dJ7_fill_53178_14 : decode cJ7_fill_53178 14 = .ok (.iinc 2 1, 3) := by decide +kernel
theorem dJ7_fill_53178_17 : decode cJ7_fill_53178 17 = .ok (.goto (-12), 3) := by decide +kernel
theorem dJ7_fill_53178_20 : decode cJ7_fill_53178 20 = .ok (.return_, 1) := by decide +kernel

/-! part 27.fill -/
/-- row j with w in its first n places -/
def fil (A : Nat → Nat → Int32) (j n : Nat) (w : Int32) : Nat → Nat → Int32 := fun a b => if a = j ∧ b < n then w else A a b
theorem fil_0 (A : Nat → Nat → Int32) (j : Nat) (w : Int32) : fil A j 0 w = A := by funext a b; simp [fil]
theorem fil_s (A : Nat → Nat → Int32) (j i : Nat) (w : Int32) : up2 (fil A j i w) j i w = fil A j (i + 1) w := by
  funext a b
  unfold up2 fil
  by_cases h1 : a = j ∧ b = i
  · rw [if_pos h1, if_pos ⟨h1.1, by omega⟩]
  · rw [if_neg h1]
    by_cases h2 : a = j ∧ b < i
    · rw [if_pos h2, if_pos ⟨h2.1, by omega⟩]
    · rw [if_neg h2, if_neg (fun h => by rcases Nat.lt_or_ge b i with q | q; exact h2 ⟨h.1, q⟩; exact h1 ⟨h.1, by omega⟩)]
theorem fil_j {A : Nat → Nat → Int32} {j n a b : Nat} {w : Int32} (h : a ≠ j) : fil A j n w a b = A a b := by simp [fil, h]
/-- row v with the values of a node (its word w) from place f on, dd of them -/
def cpy (A : Nat → Nat → Int32) (v f dd : Nat) (w : Int64) : Nat → Nat → Int32 := fun a b => if a = v ∧ f ≤ b ∧ b < f + dd then vlo w (nI (b - f)) else A a b
theorem cpy_0 (A : Nat → Nat → Int32) (v f : Nat) (w : Int64) : cpy A v f 0 w = A := by
  funext a b
  unfold cpy
  rw [if_neg (fun h => by omega)]
theorem cpy_s (A : Nat → Nat → Int32) (v f i : Nat) (w : Int64) : up2 (cpy A v f i w) v (f + i) (vlo w (nI i)) = cpy A v f (i + 1) w := by
  funext a b
  unfold up2 cpy
  by_cases h1 : a = v ∧ b = f + i
  · rw [if_pos h1, if_pos ⟨h1.1, by omega⟩, show b - f = i by omega]
  · rw [if_neg h1]
    by_cases h2 : a = v ∧ f ≤ b ∧ b < f + i
    · rw [if_pos h2, if_pos ⟨h2.1, by omega⟩]
    · rw [if_neg h2, if_neg (fun h => by rcases Nat.lt_or_ge b (f + i) with q | q; exact h2 ⟨h.1, h.2.1, q⟩; exact h1 ⟨h.1, by omega⟩)]
theorem cpy_j {A : Nat → Nat → Int32} {v f dd a b : Nat} {w : Int64} (h : a ≠ v) : cpy A v f dd w a b = A a b := by simp [cpy, h]

set_option maxHeartbeats 4000000 in
set_option maxRecDepth 100000 in
theorem c_fill (l : Launch) (D : va_G) (K : Nat → ClassId) (ad : Nat → Nat) (hap0 : apart ad (fun _ => True)) (j n : Nat) (w : Int32) (hj : IA j n) (hn : n < 2147483648) (I : Nat → Nat → Int32) (G : Nat → Nat → Nat) (A : Nat → Nat → Int32) (L : Nat → Nat → Int64)  : Cv l D K ad yJ7_fill_53178 wsJ7_fill_53178 0 0 [.ref (ad j), .int w] (I, G, A, L) (fun (u : Mem) => u = (I, G, fil A j n w, L)) := by
  intro sz
  refine Met.ofW (cc := cJ7_fill_53178) (maxL := 4) (ret := none) (by decide) rfl ?_
  intro p e s m args below meth c s₁ Bd hml hv0
  obtain ⟨rfl, hsz, hP, hK⟩ := hv0
  have hx := Bd.exec
  have hb := Bd.bytes
  have hr := Bd.returns
  have hts := atoms_spec (ws := wsJ7_fill_53178) Bd.pre
  have hown : s.vm.findClass RJ7 = some m.cls := findClass_of_methodNamed Bd.named
  have hlocks := Bd.notSynchronized
  subst hsz
  have hap := vF_ap hap0 s.heap.size
  have hS : va_S (vF ad s.heap.size) s.heap s.heap [] := va_S.rf
  have hP : va_P D vwCl (VW K ad I G A L) s.heap := hP
  have hl := lv_entry ([.ref (ad j), .int w]) (n := 4) (Nat.le_of_ble_eq_true rfl)
  rw [lg_entry_eq]
  generalize (lg_sl ([.ref (ad j), .int w]) ++ List.replicate (4 - (lg_sl ([.ref (ad j), .int w])).length) Slot.unset).toArray = ls at hl ⊢
  have hl : lv_has ls 4 [(0, .ref (ad j)), (1, .int w)] := hl
  refine lv_iconst (v := 0) hx hb dJ7_fill_53178_0 (by decide) ?_
  refine lv_istore_n (lv' := [(2, .int 0), (0, .ref (ad j)), (1, .int w)]) hx hb dJ7_fill_53178_1 rfl hl (by decide) rfl (fun ls hl => ?_)
  refine lv_aload_n hx hb dJ7_fill_53178_2 rfl (lv_at hl 1 rfl) ?_
  refine vlen hx hb hK hP (j) hj.1 hj.2.1 dJ7_fill_53178_3 ?_
  rw [hj.2.2]
  refine lv_istore_n (lv' := [(3, .int (nI n)), (2, .int 0), (0, .ref (ad j)), (1, .int w)]) hx hb dJ7_fill_53178_4 rfl hl (by decide) rfl (fun ls hl => ?_)
  have kx1 : ∀ (A1 : Nat → Nat → Int32), True → A1 = fil A j n w → ∀ (H : Heap) (locs : List Loc), va_P D vwCl (VW K ad I G A1 L) H → va_S (vF ad s.heap.size) s.heap H locs → ∀ (ls : Array Slot), lv_has ls 4 [(3, .int (nI n)), (0, .ref (ad j)), (1, .int w)] → W p l e ({ frames := 0, cells := 0, slots := 0, locals := 0 }) s m ([.ref (ad j), .int w] : List Value).toArray below meth c H locs 0 0 (MQ below (va_Qv (fun (u : Mem) => u = (I, G, fil A j n w, L)) (vB D K ad) (vF ad s.heap.size)) ([.ref (ad j), .int w] : List Value).toArray s 0 0 (vF ad s.heap.size)) (F0 m 20 ls []) := by
    intro A1 hinv1 hg1 H locs hP hS ls hl
    exact W.vret hx hb hr (fun t ht hW => ⟨⟨(I, G, A1, L), rfl, by rw [hg1], by rw [ht]; exact hP, va_K.moved hW.alike hK⟩, hS.F ht⟩) hS.2.2 dJ7_fill_53178_20
  have lp1 : ∀ (k1 i : Nat) (A1 : Nat → Nat → Int32), i + k1 = n → True → A1 = fil A j i w → ∀ (H : Heap) (locs : List Loc), va_P D vwCl (VW K ad I G A1 L) H → va_S (vF ad s.heap.size) s.heap H locs → ∀ (ls : Array Slot), lv_has ls 4 [(2, .int (nI i)), (3, .int (nI n)), (0, .ref (ad j)), (1, .int w)] → W p l e ({ frames := 0, cells := 0, slots := 0, locals := 0 }) s m ([.ref (ad j), .int w] : List Value).toArray below meth c H locs 0 0 (MQ below (va_Qv (fun (u : Mem) => u = (I, G, fil A j n w, L)) (vB D K ad) (vF ad s.heap.size)) ([.ref (ad j), .int w] : List Value).toArray s 0 0 (vF ad s.heap.size)) (F0 m 5 ls []) := by
    intro k1
    induction k1 with
    | zero =>
      intro i A1 hk1 hinv1 hg1 H locs hP hS ls hl
      obtain rfl : n = i := by omega
      refine lv_iload_n hx hb dJ7_fill_53178_5 rfl (lv_at hl 0 rfl) ?_
      refine lv_iload_n hx hb dJ7_fill_53178_6 rfl (lv_at hl 1 rfl) ?_
      refine lv_icmp_ge (tgt := 20) hx hb dJ7_fill_53178_7 (by decide) (fun _ => ?_) (fun c_2 => absurd (nI_le (Nat.le_refl _) (by omega)) c_2)
      exact kx1 A1 (trivial) (hg1) H locs hP hS ls (lv_sub hl [1, 2, 3] rfl)
    | succ k1 ih1 =>
      intro i A1 hk1 hinv1 hg1 H locs hP hS ls hl
      have hlt1 : i < n := by omega
      have hij : vp_in (nI i) (ln j) := by rw [hj.2.2]; exact vp_in_nI (by omega) (by omega)
      refine lv_iload_n hx hb dJ7_fill_53178_5 rfl (lv_at hl 0 rfl) ?_
      refine lv_iload_n hx hb dJ7_fill_53178_6 rfl (lv_at hl 1 rfl) ?_
      refine lv_icmp_ge (tgt := 20) hx hb dJ7_fill_53178_7 (by decide) (fun c_3 => absurd c_3 (nI_ge (by omega) (by omega))) (fun _ => ?_)
      refine lv_aload_n hx hb dJ7_fill_53178_10 rfl (lv_at hl 2 rfl) ?_
      refine lv_iload_n hx hb dJ7_fill_53178_11 rfl (lv_at hl 0 rfl) ?_
      refine lv_iload_n hx hb dJ7_fill_53178_12 rfl (lv_at hl 3 rfl) ?_
      refine xiast hx hb hK hP hap hS (j) hj.1 hj.2.1 hij dJ7_fill_53178_13 (fun H locs hP hS => ?_)
      rw [nI_clamp (n := i) (by omega)] at hP
      obtain ⟨A4, eA4⟩ : ∃ z, z = up2 A1 j i w := ⟨_, rfl⟩
      rw [← eA4] at hP
      have hP : va_P D vwCl (VW K ad I G A4 L) H := hP
      refine lv_iinc (v := (nI (i + 1))) (lv' := [(2, .int (nI (i + 1))), (3, .int (nI n)), (0, .ref (ad j)), (1, .int w)]) hx hb dJ7_fill_53178_14 hl (k := 0) rfl (nI_1 i) (by decide) rfl (fun ls hl => ?_)
      refine lv_goto (tgt := 5) hx hb dJ7_fill_53178_17 (by decide) ?_
      exact ih1 (i + 1) A4 (by omega) (trivial) (eA4.trans (by rw [hg1]; exact fil_s A j i w)) H locs hP hS ls (lv_sub hl [0, 1, 2, 3] rfl)
  exact lp1 (n) 0 A (by omega) (trivial) ((fil_0 A j w).symm) _ _ hP hS ls (lv_sub hl [1, 0, 2, 3] rfl)

set_option maxHeartbeats 4000000 in
set_option maxRecDepth 100000 in
theorem c_X5_copyValues (l : Launch) (D : va_G) (K : Nat → ClassId) (ad : Nat → Nat) (hap0 : apart ad (fun _ => True)) (T d : Nat) (hT : TrAt T) (hd : d < lT T) (v f dd nv : Nat) (hv : IA v nv) (hfd : f + dd ≤ nv) (hnv : nv ≤ 12) (hv2 : v ≠ T + 2) (I : Nat → Nat → Int32) (G : Nat → Nat → Nat) (A : Nat → Nat → Int32) (L : Nat → Nat → Int64) (hdd : A (T + 2) d = nI dd) : Cv l D K ad yX5_copyValues wsX5_copyValues 2 80 [.ref (ad T), .int (nI d), .ref (ad v), .int (nI f)] (I, G, A, L) (fun (u : Mem) => u = (I, G, cpy A v f dd (L (T + 1) d), L)) := by
  intro sz
  refine Met.ofW (cc := cX5_copyValues) (maxL := 5) (ret := none) (by decide) rfl ?_
  intro p e s m args below meth c s₁ Bd hml hv0
  obtain ⟨rfl, hsz, hP, hK⟩ := hv0
  have hx := Bd.exec
  have hb := Bd.bytes
  have hr := Bd.returns
  have hts := atoms_spec (ws := wsX5_copyValues) Bd.pre
  have hown : s.vm.findClass RX5 = some m.cls := findClass_of_methodNamed Bd.named
  have hlocks := Bd.notSynchronized
  have hi5 : ∀ w ∈ u_ws RX5 TX5 16, w ∈ wsX5_copyValues := fun w h => List.mem_cons_of_mem _ (List.mem_append_right _ h)
  subst hsz
  have hap := vF_ap hap0 s.heap.size
  have hS : va_S (vF ad s.heap.size) s.heap s.heap [] := va_S.rf
  have hP : va_P D vwCl (VW K ad I G A L) s.heap := hP
  have hl := lv_entry ([.ref (ad T), .int (nI d), .ref (ad v), .int (nI f)]) (n := 5) (Nat.le_of_ble_eq_true rfl)
  rw [lg_entry_eq]
  generalize (lg_sl ([.ref (ad T), .int (nI d), .ref (ad v), .int (nI f)]) ++ List.replicate (5 - (lg_sl ([.ref (ad T), .int (nI d), .ref (ad v), .int (nI f)])).length) Slot.unset).toArray = ls at hl ⊢
  have hl : lv_has ls 5 [(0, .ref (ad T)), (1, .int (nI d)), (2, .ref (ad v)), (3, .int (nI f))] := hl
  have hl1 := (tr_l hT).2.2.2.2.2.2.2.2.2.2
  have hi1d : vp_in (nI d) (ln (T + 1)) := by rw [(tr_l hT).1]; exact vp_in_nI hd (by omega)
  have hi2d : vp_in (nI d) (ln (T + 2)) := by rw [(tr_l hT).2.1]; exact vp_in_nI hd (by omega)
  have hi3d : vp_in (nI d) (ln (T + 3)) := by rw [(tr_l hT).2.2.1]; exact vp_in_nI hd (by omega)
  have hi4d : vp_in (nI d) (ln (T + 4)) := by rw [(tr_l hT).2.2.2.1]; exact vp_in_nI hd (by omega)
  have hi5d : vp_in (nI d) (ln (T + 5)) := by rw [(tr_l hT).2.2.2.2.1]; exact vp_in_nI hd (by omega)
  have hi6d : vp_in (nI d) (ln (T + 6)) := by rw [(tr_l hT).2.2.2.2.2.1]; exact vp_in_nI hd (by omega)
  have hi7d : vp_in (nI d) (ln (T + 7)) := by rw [(tr_l hT).2.2.2.2.2.2.1]; exact vp_in_nI hd (by omega)
  have hi8d : vp_in (nI d) (ln (T + 8)) := by rw [(tr_l hT).2.2.2.2.2.2.2.1]; exact vp_in_nI hd (by omega)
  refine lv_iconst (v := 0) hx hb dX5_copyValues_0 (by decide) ?_
  refine lv_istore (lv' := [(4, .int 0), (0, .ref (ad T)), (1, .int (nI d)), (2, .ref (ad v)), (3, .int (nI f))]) hx hb dX5_copyValues_1 hl (by decide) rfl (fun ls hl => ?_)
  have kx1 : ∀ (A1 : Nat → Nat → Int32), True → A1 = cpy A v f dd (L (T + 1) d) → ∀ (H : Heap) (locs : List Loc), va_P D vwCl (VW K ad I G A1 L) H → va_S (vF ad s.heap.size) s.heap H locs → ∀ (ls : Array Slot), lv_has ls 5 [(0, .ref (ad T)), (1, .int (nI d)), (2, .ref (ad v)), (3, .int (nI f))] → W p l e ({ frames := 2, cells := 0, slots := 0, locals := 80 }) s m ([.ref (ad T), .int (nI d), .ref (ad v), .int (nI f)] : List Value).toArray below meth c H locs 0 0 (MQ below (va_Qv (fun (u : Mem) => u = (I, G, cpy A v f dd (L (T + 1) d), L)) (vB D K ad) (vF ad s.heap.size)) ([.ref (ad T), .int (nI d), .ref (ad v), .int (nI f)] : List Value).toArray s 0 0 (vF ad s.heap.size)) (F0 m 42 ls []) := by
    intro A1 hinv1 hg1 H locs hP hS ls hl
    exact W.vret hx hb hr (fun t ht hW => ⟨⟨(I, G, A1, L), rfl, by rw [hg1], by rw [ht]; exact hP, va_K.moved hW.alike hK⟩, hS.F ht⟩) hS.2.2 dX5_copyValues_42
  have lp1 : ∀ (k1 i : Nat) (A1 : Nat → Nat → Int32), i + k1 = dd → True → A1 = cpy A v f i (L (T + 1) d) → ∀ (H : Heap) (locs : List Loc), va_P D vwCl (VW K ad I G A1 L) H → va_S (vF ad s.heap.size) s.heap H locs → ∀ (ls : Array Slot), lv_has ls 5 [(4, .int (nI i)), (0, .ref (ad T)), (1, .int (nI d)), (2, .ref (ad v)), (3, .int (nI f))] → W p l e ({ frames := 2, cells := 0, slots := 0, locals := 80 }) s m ([.ref (ad T), .int (nI d), .ref (ad v), .int (nI f)] : List Value).toArray below meth c H locs 0 0 (MQ below (va_Qv (fun (u : Mem) => u = (I, G, cpy A v f dd (L (T + 1) d), L)) (vB D K ad) (vF ad s.heap.size)) ([.ref (ad T), .int (nI d), .ref (ad v), .int (nI f)] : List Value).toArray s 0 0 (vF ad s.heap.size)) (F0 m 3 ls []) := by
    intro k1
    induction k1 with
    | zero =>
      intro i A1 hk1 hinv1 hg1 H locs hP hS ls hl
      obtain rfl : dd = i := by omega
      refine lv_iload hx hb dX5_copyValues_3 (lv_at hl 0 rfl) ?_
      refine lv_aload_n hx hb dX5_copyValues_5 rfl (lv_at hl 1 rfl) ?_
      refine vgS hx hb hts hi5 hown hK hP (T) (by have := (tr_o hT).1; show _ < 378; omega) (tr_o hT).2.1 (C := RX5) (T := TX5) (N := 16) rfl 1 (by decide) (by decide) (by decide) (by decide) (T + 2) rfl (hts (.fieldLink RX5 53 "CrateHelpers$Tree" "depth" "[B") (by decide +kernel)) (fun _ h9 => h9) dX5_copyValues_6 ?_
      refine lv_iload_n hx hb dX5_copyValues_9 rfl (lv_at hl 2 rfl) ?_
      refine xbald hx hb hK hP (T + 2) (by have := (tr_o hT).1; show _ < 378; omega) (tr_o hT).2.2.2.1 hi2d dX5_copyValues_10 ?_
      rw [nI_clamp (n := d) (by omega)]
      rw [show A1 (T + 2) d = nI dd by rw [hg1, cpy_j (Ne.symm hv2)]; exact hdd]
      refine lv_icmp_ge (tgt := 42) hx hb dX5_copyValues_11 (by decide) (fun _ => ?_) (fun c_2 => absurd (nI_le (Nat.le_refl _) (by omega)) c_2)
      exact kx1 A1 (trivial) (hg1) H locs hP hS ls (lv_sub hl [1, 2, 3, 4] rfl)
    | succ k1 ih1 =>
      intro i A1 hk1 hinv1 hg1 H locs hP hS ls hl
      have hlt1 : i < dd := by omega
      have hfi : vp_in (nI (f + i)) (ln v) := by rw [hv.2.2]; exact vp_in_nI (by omega) (by omega)
      refine lv_iload hx hb dX5_copyValues_3 (lv_at hl 0 rfl) ?_
      refine lv_aload_n hx hb dX5_copyValues_5 rfl (lv_at hl 1 rfl) ?_
      refine vgS hx hb hts hi5 hown hK hP (T) (by have := (tr_o hT).1; show _ < 378; omega) (tr_o hT).2.1 (C := RX5) (T := TX5) (N := 16) rfl 1 (by decide) (by decide) (by decide) (by decide) (T + 2) rfl (hts (.fieldLink RX5 53 "CrateHelpers$Tree" "depth" "[B") (by decide +kernel)) (fun _ h9 => h9) dX5_copyValues_6 ?_
      refine lv_iload_n hx hb dX5_copyValues_9 rfl (lv_at hl 2 rfl) ?_
      refine xbald hx hb hK hP (T + 2) (by have := (tr_o hT).1; show _ < 378; omega) (tr_o hT).2.2.2.1 hi2d dX5_copyValues_10 ?_
      rw [nI_clamp (n := d) (by omega)]
      rw [show A1 (T + 2) d = nI dd by rw [hg1, cpy_j (Ne.symm hv2)]; exact hdd]
      refine lv_icmp_ge (tgt := 42) hx hb dX5_copyValues_11 (by decide) (fun c_3 => absurd c_3 (nI_ge (by omega) (by omega))) (fun _ => ?_)
      refine lv_iload_n hx hb dX5_copyValues_14 rfl (lv_at hl 4 rfl) ?_
      refine lv_iload hx hb dX5_copyValues_15 (lv_at hl 0 rfl) ?_
      refine lv_iadd hx hb dX5_copyValues_17 ?_
      rw [nI_add]
      refine lv_aload_n hx hb dX5_copyValues_18 rfl (lv_at hl 3 rfl) ?_
      refine vlen hx hb hK hP (v) hv.1 hv.2.1 dX5_copyValues_19 ?_
      rw [hv.2.2]
      refine lv_icmp_ge (tgt := 42) hx hb dX5_copyValues_20 (by decide) (fun c9 => absurd c9 (nI_ge (by omega) (by omega))) (fun _ => ?_)
      refine lv_aload_n hx hb dX5_copyValues_23 rfl (lv_at hl 3 rfl) ?_
      refine lv_iload_n hx hb dX5_copyValues_24 rfl (lv_at hl 4 rfl) ?_
      refine lv_iload hx hb dX5_copyValues_25 (lv_at hl 0 rfl) ?_
      refine lv_iadd hx hb dX5_copyValues_27 ?_
      rw [nI_add]
      refine lv_aload_n hx hb dX5_copyValues_28 rfl (lv_at hl 1 rfl) ?_
      refine lv_iload_n hx hb dX5_copyValues_29 rfl (lv_at hl 2 rfl) ?_
      refine lv_iload hx hb dX5_copyValues_30 (lv_at hl 0 rfl) ?_
      refine vcV (As := [.int (nI d), .int (nI i)]) (rest := [.int (nI (f + i)), .ref (ad v)]) ⟨hx, hb, hml, hown, hts⟩ (c_X5_valueOf l D K ad hap0 T d hT hd (nI i) I G A1 L) (cwV 2 hts gX5_copyValues_X5_valueOf rfl rfl rfl (by decide +kernel) ⟨Nat.le_of_ble_eq_true rfl, Nat.le_of_ble_eq_true rfl⟩) hK hP hS (by have := (tr_o hT).1; show _ < 378; omega) (tr_o hT).2.1 (by decide) rfl rfl rfl hl.1 (Nat.le_of_ble_eq_true rfl) (Nat.le_of_ble_eq_true rfl) (Nat.le_of_ble_eq_true rfl) dX5_copyValues_32 (fun r4 u5 H locs hw hP hS => ?_) rfl
      obtain ⟨hr4, rfl⟩ := hw
      have hP : va_P D vwCl (VW K ad I G A1 L) H := hP
      subst hr4
      refine xiast hx hb hK hP hap hS (v) hv.1 hv.2.1 hfi dX5_copyValues_35 (fun H locs hP hS => ?_)
      rw [nI_clamp (n := (f + i)) (by omega)] at hP
      obtain ⟨A6, eA6⟩ : ∃ z, z = up2 A1 v (f + i) ((vlo (L (T + 1) d) (nI i))) := ⟨_, rfl⟩
      rw [← eA6] at hP
      have hP : va_P D vwCl (VW K ad I G A6 L) H := hP
      refine lv_iinc (v := (nI (i + 1))) (lv' := [(4, .int (nI (i + 1))), (0, .ref (ad T)), (1, .int (nI d)), (2, .ref (ad v)), (3, .int (nI f))]) hx hb dX5_copyValues_36 hl (k := 0) rfl (nI_1 i) (by decide) rfl (fun ls hl => ?_)
      refine lv_goto (tgt := 3) hx hb dX5_copyValues_39 (by decide) ?_
      exact ih1 (i + 1) A6 (by omega) (trivial) (eA6.trans (by rw [hg1]; exact cpy_s A v f i _)) H locs hP hS ls (lv_sub hl [0, 1, 2, 3, 4] rfl)
  exact lp1 (dd) 0 A (by omega) (trivial) ((cpy_0 A v f _).symm) _ _ hP hS ls (lv_sub hl [0, 1, 2, 3, 4] rfl)

/-! part 27.zrows -/
set_option maxRecDepth 20000 in
theorem ggX5_take_X5_widthBelow : GoodIn wsX5_take wsX5_widthBelow := goodIn_g _ [(10, 1), (5, 1), (11, 28)] rfl (by decide +kernel)
set_option maxRecDepth 20000 in
theorem gX5_take_X5_widthBelow : GoodIn wsX5_take (wsV RX5 117 RX5 yX5_widthBelow wsX5_widthBelow) := goodIn_app (goodIn_of _ (by decide +kernel)) ggX5_take_X5_widthBelow
theorem dX5_take_0 : decode cX5_take 0 = .ok (.aload_n 0, 1) := by decide +kernel
theorem dX5_take_1 : decode cX5_take 1 = .ok (.getfield 22, 3) := by decide +kernel
theorem dX5_take_4 : decode cX5_take 4 = .ok (.sipush 250, 3) := by decide +kernel
theorem dX5_take_7 : decode cX5_take 7 = .ok (.if_icmp .lt 4, 3) := by decide +kernel
theorem dX5_take_11 : decode cX5_take 11 = .ok (.aload_n 0, 1) := by decide +kernel
theorem dX5_take_12 : decode cX5_take 12 = .ok (.getfield 63, 3) := by decide +kernel
theorem dX5_take_15 : decode cX5_take 15 = .ok (.iload_n 1, 1) := by decide +kernel
theorem dX5_take_16 : decode cX5_take 16 = .ok (.iconst 3, 1) := by decide +kernel
theorem dX5_take_17 : decode cX5_take 17 = .ok (.bastore, 1) := by decide +kernel
theorem dX5_take_18 : decode cX5_take 18 = .ok (.aload_n 0, 1) := by decide +kernel
theorem dX5_take_19 : decode cX5_take 19 = .ok (.getfield 11, 3) := by decide +kernel
theorem dX5_take_22 : decode cX5_take 22 = .ok (.aload_n 0, 1) := by decide +kernel
theorem dX5_take_23 : decode cX5_take 23 = .ok (.getfield 22, 3) := by decide +kernel
theorem dX5_take_26 : decode cX5_take 26 = .ok (.iload_n 1, 1) := by decide +kernel
theorem dX5_take_27 : decode cX5_take 27 = .ok (.iastore, 1) := by decide +kernel
theorem dX5_take_28 : decode cX5_take 28 = .ok (.aload_n 0, 1) := by decide +kernel
theorem dX5_take_29 : decode cX5_take 29 = .ok (.dup, 1) := by decide +kernel
theorem dX5_take_30 : decode cX5_take 30 = .ok (.getfield 22, 3) := by decide +kernel
theorem dX5_take_33 : decode cX5_take 33 = .ok (.iconst 1, 1) := by decide +kernel
theorem dX5_take_34 : decode cX5_take 34 = .ok (.iadd, 1) := by decide +kernel
theorem dX5_take_35 : decode cX5_take 35 = .ok (.putfield 22, 3) := by decide +kernel
theorem dX5_take_38 : decode cX5_take 38 = .ok (.aload_n 0, 1) := by decide +kernel
theorem dX5_take_39 : decode cX5_take 39 = .ok (.iload_n 1, 1) := by decide +kernel
theorem dX5_take_40 : decode cX5_take 40 = .ok (.invokevirtual 117, 3) := by decide +kernel
theorem dX5_take_43 : decode cX5_take 43 = .ok (.istore_n 2, 1) := by decide +kernel
theorem dX5_take_44 : decode cX5_take 44 = .ok (.iconst 0, 1) := by decide +kernel
theorem dX5_take_45 : decode cX5_take 45 = .ok (.istore_n 3, 1) := by decide +kernel
theorem dX5_take_46 : decode cX5_take 46 = .ok (.iload_n 3, 1) := by decide +kernel
theorem dX5_take_47 : decode cX5_take 47 = .ok (.iload_n 2, 1) := by decide +kernel
theorem dX5_take_48 : decode cX5_take 48 = .ok (.if_icmp .ge 23, 3) := by decide +kernel
theorem dX5_take_51 : decode cX5_take 51 = .ok (.aload_n 0, 1) := by decide +kernel
theorem dX5_take_52 : decode cX5_take 52 = .ok (.getfield 73, 3) := by decide +kernel
theorem dX5_take_55 : decode cX5_take 55 = .ok (.aload_n 0, 1) := by decide +kernel
theorem dX5_take_56 : decode cX5_take 56 = .ok (.getfield 69, 3) := by decide +kernel
theorem dX5_take_59 : decode cX5_take 59 = .ok (.iload_n 1, 1) := by decide +kernel
theorem dX5_take_60 : decode cX5_take 60 = .ok (.saload, 1) := by decide +kernel
theorem dX5_take_61 : decode cX5_take 61 = .ok (.iload_n 3, 1) := by decide +kernel
theorem dX5_take_62 : decode cX5_take 62 = .ok (.iadd, 1) := by decide +kernel
theorem dX5_take_63 : decode cX5_take 63 = .ok (.iconst 1, 1) := by decide +kernel
theorem dX5_take_64 : decode cX5_take 64 = .ok (.bastore, 1) := by decide +kernel
theorem dX5_take_65 : decode cX5_take 65 = .ok (.iinc 3 1, 3) := by decide +kernel
theorem dX5_take_68 : decode cX5_take 68 = .ok (.goto (-22), 3) := by decide +kernel
theorem dX5_take_71 : decode cX5_take 71 = .ok (.return_, 1) := by decide +kernel
set_option maxRecDepth 20000 in
theorem ggX5_openBelow_X5_widthBelow : GoodIn wsX5_openBelow wsX5_widthBelow := goodIn_g _ [(7, 1), (2, 1), (8, 28)] rfl (by decide +kernel)
set_option maxRecDepth 20000 in
theorem gX5_openBelow_X5_widthBelow : GoodIn wsX5_openBelow (wsV RX5 117 RX5 yX5_widthBelow wsX5_widthBelow) := goodIn_app (goodIn_of _ (by decide +kernel)) ggX5_openBelow_X5_widthBelow
theorem dX5_openBelow_0 : decode cX5_openBelow 0 = .ok (.iconst 0, 1) := by decide +kernel
theorem dX5_openBelow_1 : decode cX5_openBelow 1 = .ok (.istore_n 2, 1) := by decide +kernel
theorem dX5_openBelow_2 : decode cX5_openBelow 2 = .ok (.aload_n 0, 1) := by decide +kernel
theorem dX5_openBelow_3 : decode cX5_openBelow 3 = .ok (.iload_n 1, 1) := by decide +kernel
theorem dX5_openBelow_4 : decode cX5_openBelow 4 = .ok (.invokevirtual 117, 3) := by decide +kernel
theorem dX5_openBelow_7 : decode cX5_openBelow 7 = .ok (.istore_n 3, 1) := by decide +kernel
theorem dX5_openBelow_8 : decode cX5_openBelow 8 = .ok (.iconst 0, 1) := by decide +kernel
theorem dX5_openBelow_9 : decode cX5_openBelow 9 = .ok (.istore 4, 2) := by decide +kernel
theorem dX5_openBelow_11 : decode cX5_openBelow 11 = .ok (.iload 4, 2) := by decide +kernel
theorem dX5_openBelow_13 : decode cX5_openBelow 13 = .ok (.iload_n 3, 1) := by decide +kernel
theorem dX5_openBelow_14 : decode cX5_openBelow 14 = .ok (.if_icmp .ge 29, 3) := by decide +kernel
theorem dX5_openBelow_17 : decode cX5_openBelow 17 = .ok (.aload_n 0, 1) := by decide +kernel
theorem dX5_openBelow_18 : decode cX5_openBelow 18 = .ok (.getfield 57, 3) := by decide +kernel
theorem dX5_openBelow_21 : decode cX5_openBelow 21 = .ok (.aload_n 0, 1) := by decide +kernel
theorem dX5_openBelow_22 : decode cX5_openBelow 22 = .ok (.getfield 69, 3) := by decide +kernel
theorem dX5_openBelow_25 : decode cX5_openBelow 25 = .ok (.iload_n 1, 1) := by decide +kernel
theorem dX5_openBelow_26 : decode cX5_openBelow 26 = .ok (.saload, 1) := by decide +kernel
theorem dX5_openBelow_27 : decode cX5_openBelow 27 = .ok (.iload 4, 2) := by decide +kernel
theorem dX5_openBelow_29 : decode cX5_openBelow 29 = .ok (.iadd, 1) := by decide +kernel
theorem dX5_openBelow_30 : decode cX5_openBelow 30 = .ok (.baload, 1) := by decide +kernel
theorem dX5_openBelow_31 : decode cX5_openBelow 31 = .ok (.ifCond .ne 6, 3) := by decide +kernel
theorem dX5_openBelow_34 : decode cX5_openBelow 34 = .ok (.iinc 2 1, 3) := by decide +kernel
theorem dX5_openBelow_37 : decode cX5_openBelow 37 = .ok (.iinc 4 1, 3) := by decide +kernel
theorem dX5_openBelow_40 : decode cX5_openBelow 40 = .ok (.goto (-29), 3) := by decide +kernel
theorem dX5_openBelow_43 : decode cX5_openBelow 43 = .ok (.iload_n 2, 1) := by decide +kernel
theorem dX5_openBelow_44 : decode cX5_openBelow 44 = .ok (.ireturn, 1) := by decide +kernel

/-! part 28.take -/
/-- what is below a node: none, or wd from id fb on -/
def Bel (A : Nat → Nat → Int32) (T B d fb wd : Nat) : Prop := (A (T + 7) d = -1 ∧ wd = 0) ∨ (¬ A (T + 7) d = -1 ∧ A (T + 7) d = nI fb ∧ fb + wd ≤ lT T ∧ vp_in (A (T + 2) d) 6 ∧ A (B + 1) (A (T + 2) d).toNatClampNeg = nI wd)
theorem Bel_w {A : Nat → Nat → Int32} {T B d fb wd : Nat} (h : Bel A T B d fb wd) : (if A (T + 7) d = -1 then 0 else A (B + 1) (A (T + 2) d).toNatClampNeg) = nI wd := by
  rcases h with ⟨h1, rfl⟩ | ⟨h0, h1, h2, h3, h4⟩
  · rw [if_pos h1]; rfl
  · rw [if_neg h0]; exact h4
theorem Bel_p {A : Nat → Nat → Int32} {T B d fb wd : Nat} (h : Bel A T B d fb wd) : ¬ A (T + 7) d = -1 → vp_in (A (T + 2) d) 6 := fun q => by
  rcases h with ⟨h1, _⟩ | ⟨_, _, _, h3, _⟩
  · exact absurd h1 q
  · exact h3
theorem Bel_f {A : Nat → Nat → Int32} {T B d fb wd i : Nat} (h : Bel A T B d fb wd) (hi : i < wd) : A (T + 7) d = nI fb ∧ fb + wd ≤ lT T := by
  rcases h with ⟨_, h1⟩ | ⟨_, h1, h2, _, _⟩
  · omega
  · exact ⟨h1, h2⟩
/-- the nodes from fb on, n of them, are reached -/
def rea (A : Nat → Nat → Int32) (T fb n : Nat) : Nat → Nat → Int32 := fun a b => if a = T + 8 ∧ fb ≤ b ∧ b < fb + n then vp_nar .boolean 1 else A a b
theorem rea_0 (A : Nat → Nat → Int32) (T fb : Nat) : rea A T fb 0 = A := by
  funext a b
  unfold rea
  rw [if_neg (fun h => by omega)]
theorem rea_s (A : Nat → Nat → Int32) (T fb i : Nat) : up2 (rea A T fb i) (T + 8) (fb + i) (vp_nar .boolean 1) = rea A T fb (i + 1) := by
  funext a b
  unfold up2 rea
  by_cases h1 : a = T + 8 ∧ b = fb + i
  · rw [if_pos h1, if_pos ⟨h1.1, by omega⟩]
  · rw [if_neg h1]
    by_cases h2 : a = T + 8 ∧ fb ≤ b ∧ b < fb + i
    · rw [if_pos h2, if_pos ⟨h2.1, by omega⟩]
    · rw [if_neg h2, if_neg (fun h => by rcases Nat.lt_or_ge b (fb + i) with q | q; exact h2 ⟨h.1, h.2.1, q⟩; exact h1 ⟨h.1, by omega⟩)]
theorem rea_j {A : Nat → Nat → Int32} {T fb n a b : Nat} (h : a ≠ T + 8) : rea A T fb n a b = A a b := by simp [rea, h]
/-- the tree with node d taken as the t-th -/
def tkA (A : Nat → Nat → Int32) (T d t : Nat) : Nat → Nat → Int32 := up2 (up2 A (T + 5) d (vp_nar .byte 3)) (T + 9) t (nI d)
theorem tkA_j {A : Nat → Nat → Int32} {T d t a b : Nat} (h : a ≠ T + 5) (h2 : a ≠ T + 9) : tkA A T d t a b = A a b := by unfold tkA; rw [up2_j h2, up2_j h]
theorem Bel_t {A : Nat → Nat → Int32} {T B d t fb wd : Nat} (h : Bel A T B d fb wd) (hb : T + 11 < B) : Bel (tkA A T d t) T B d fb wd := by
  unfold Bel at h ⊢
  rw [tkA_j (by omega) (by omega), tkA_j (by omega) (by omega), tkA_j (by omega) (by omega)]
  exact h

set_option maxHeartbeats 4000000 in
set_option maxRecDepth 100000 in
theorem c_X5_openBelow (l : Launch) (D : va_G) (K : Nat → ClassId) (ad : Nat → Nat) (hap0 : apart ad (fun _ => True)) (T d : Nat) (hT : TrAt T) (hd : d < lT T) (B fb wd : Nat) (hB : PrAt B) (hw6 : wd ≤ 6) (I : Nat → Nat → Int32) (G : Nat → Nat → Nat) (A : Nat → Nat → Int32) (L : Nat → Nat → Int64) (hTB : G T 14 = B) (hbl : Bel A T B d fb wd) : Ci l D K ad yX5_openBelow wsX5_openBelow 1 40 [.ref (ad T), .int (nI d)] (I, G, A, L) (fun (r : Int32) (u : Mem) => r = sm (fun i => if A (T + 3) (fb + i) = 0 then 1 else 0) wd 0 0 ∧ u = (I, G, A, L)) := by
  intro sz
  refine Met.ofW (cc := cX5_openBelow) (maxL := 5) (ret := (some .int)) (by decide) rfl ?_
  intro p e s m args below meth c s₁ Bd hml hv0
  obtain ⟨rfl, hsz, hP, hK⟩ := hv0
  have hx := Bd.exec
  have hb := Bd.bytes
  have hr := Bd.returns
  have hts := atoms_spec (ws := wsX5_openBelow) Bd.pre
  have hown : s.vm.findClass RX5 = some m.cls := findClass_of_methodNamed Bd.named
  have hlocks := Bd.notSynchronized
  have hi5 : ∀ w ∈ u_ws RX5 TX5 16, w ∈ wsX5_openBelow := fun w h => List.mem_cons_of_mem _ (List.mem_append_left _ (List.mem_append_right _ h))
  have hi1 : ∀ w ∈ u_ws RX1 TX1 9, w ∈ wsX5_openBelow := fun w h => List.mem_cons_of_mem _ (List.mem_append_right _ h)
  subst hsz
  have hap := vF_ap hap0 s.heap.size
  have hS : va_S (vF ad s.heap.size) s.heap s.heap [] := va_S.rf
  have hP : va_P D vwCl (VW K ad I G A L) s.heap := hP
  have hl := lv_entry ([.ref (ad T), .int (nI d)]) (n := 5) (Nat.le_of_ble_eq_true rfl)
  rw [lg_entry_eq]
  generalize (lg_sl ([.ref (ad T), .int (nI d)]) ++ List.replicate (5 - (lg_sl ([.ref (ad T), .int (nI d)])).length) Slot.unset).toArray = ls at hl ⊢
  have hl : lv_has ls 5 [(0, .ref (ad T)), (1, .int (nI d))] := hl
  have hl1 := (tr_l hT).2.2.2.2.2.2.2.2.2.2
  have hi1d : vp_in (nI d) (ln (T + 1)) := by rw [(tr_l hT).1]; exact vp_in_nI hd (by omega)
  have hi2d : vp_in (nI d) (ln (T + 2)) := by rw [(tr_l hT).2.1]; exact vp_in_nI hd (by omega)
  have hi3d : vp_in (nI d) (ln (T + 3)) := by rw [(tr_l hT).2.2.1]; exact vp_in_nI hd (by omega)
  have hi4d : vp_in (nI d) (ln (T + 4)) := by rw [(tr_l hT).2.2.2.1]; exact vp_in_nI hd (by omega)
  have hi5d : vp_in (nI d) (ln (T + 5)) := by rw [(tr_l hT).2.2.2.2.1]; exact vp_in_nI hd (by omega)
  have hi6d : vp_in (nI d) (ln (T + 6)) := by rw [(tr_l hT).2.2.2.2.2.1]; exact vp_in_nI hd (by omega)
  have hi7d : vp_in (nI d) (ln (T + 7)) := by rw [(tr_l hT).2.2.2.2.2.2.1]; exact vp_in_nI hd (by omega)
  have hi8d : vp_in (nI d) (ln (T + 8)) := by rw [(tr_l hT).2.2.2.2.2.2.2.1]; exact vp_in_nI hd (by omega)
  refine lv_iconst (v := 0) hx hb dX5_openBelow_0 (by decide) ?_
  refine lv_istore_n (lv' := [(2, .int 0), (0, .ref (ad T)), (1, .int (nI d))]) hx hb dX5_openBelow_1 rfl hl (by decide) rfl (fun ls hl => ?_)
  refine lv_aload_n hx hb dX5_openBelow_2 rfl (lv_at hl 1 rfl) ?_
  refine lv_iload_n hx hb dX5_openBelow_3 rfl (lv_at hl 2 rfl) ?_
  refine vcV (As := [.int (nI d)]) (rest := []) ⟨hx, hb, hml, hown, hts⟩ (c_X5_widthBelow l D K ad hap0 T d hT hd B hB I G A L hTB (Bel_p hbl)) (cwV 1 hts gX5_openBelow_X5_widthBelow rfl rfl rfl (by decide +kernel) ⟨Nat.le_of_ble_eq_true rfl, Nat.le_of_ble_eq_true rfl⟩) hK hP hS (by have := (tr_o hT).1; show _ < 378; omega) (tr_o hT).2.1 (by decide) rfl rfl rfl hl.1 (Nat.le_of_ble_eq_true rfl) (Nat.le_of_ble_eq_true rfl) (Nat.le_of_ble_eq_true rfl) dX5_openBelow_4 (fun r1 u2 H locs hw hP hS => ?_) rfl
  obtain ⟨hr1, rfl⟩ := hw
  have hP : va_P D vwCl (VW K ad I G A L) H := hP
  rw [Bel_w hbl] at hr1
  subst hr1
  refine lv_istore_n (lv' := [(3, .int (nI wd)), (2, .int 0), (0, .ref (ad T)), (1, .int (nI d))]) hx hb dX5_openBelow_7 rfl hl (by decide) rfl (fun ls hl => ?_)
  refine lv_iconst (v := 0) hx hb dX5_openBelow_8 (by decide) ?_
  refine lv_istore (lv' := [(4, .int 0), (3, .int (nI wd)), (2, .int 0), (0, .ref (ad T)), (1, .int (nI d))]) hx hb dX5_openBelow_9 hl (by decide) rfl (fun ls hl => ?_)
  have kx3 : ∀ (a : Int32), sm (fun i => if A (T + 3) (fb + i) = 0 then 1 else 0) 0 wd a = sm (fun i => if A (T + 3) (fb + i) = 0 then 1 else 0) wd 0 0 → ∀ (H : Heap) (locs : List Loc), va_P D vwCl (VW K ad I G A L) H → va_S (vF ad s.heap.size) s.heap H locs → ∀ (ls : Array Slot), lv_has ls 5 [(4, .int (nI wd)), (2, .int a), (3, .int (nI wd)), (0, .ref (ad T)), (1, .int (nI d))] → W p l e ({ frames := 1, cells := 0, slots := 0, locals := 40 }) s m ([.ref (ad T), .int (nI d)] : List Value).toArray below meth c H locs 0 0 (MQ below (va_Qi (fun (r : Int32) (u : Mem) => r = sm (fun i => if A (T + 3) (fb + i) = 0 then 1 else 0) wd 0 0 ∧ u = (I, G, A, L)) (vB D K ad) (vF ad s.heap.size)) ([.ref (ad T), .int (nI d)] : List Value).toArray s 0 0 (vF ad s.heap.size)) (F0 m 43 ls []) := by
    intro a hinv3 H locs hP hS ls hl
    refine lv_iload_n hx hb dX5_openBelow_43 rfl (lv_at hl 1 rfl) ?_
    exact W.iret (v := a) hx hb hr (fun t ht hW => ⟨⟨a, (I, G, A, L), rfl, ⟨hinv3, rfl⟩, by rw [ht]; exact hP, va_K.moved hW.alike hK⟩, hS.F ht⟩) hS.2.2 dX5_openBelow_44
  have lp3 : ∀ (k3 i : Nat) (a : Int32), i + k3 = wd → sm (fun i => if A (T + 3) (fb + i) = 0 then 1 else 0) k3 i a = sm (fun i => if A (T + 3) (fb + i) = 0 then 1 else 0) wd 0 0 → ∀ (H : Heap) (locs : List Loc), va_P D vwCl (VW K ad I G A L) H → va_S (vF ad s.heap.size) s.heap H locs → ∀ (ls : Array Slot), lv_has ls 5 [(4, .int (nI i)), (2, .int a), (3, .int (nI wd)), (0, .ref (ad T)), (1, .int (nI d))] → W p l e ({ frames := 1, cells := 0, slots := 0, locals := 40 }) s m ([.ref (ad T), .int (nI d)] : List Value).toArray below meth c H locs 0 0 (MQ below (va_Qi (fun (r : Int32) (u : Mem) => r = sm (fun i => if A (T + 3) (fb + i) = 0 then 1 else 0) wd 0 0 ∧ u = (I, G, A, L)) (vB D K ad) (vF ad s.heap.size)) ([.ref (ad T), .int (nI d)] : List Value).toArray s 0 0 (vF ad s.heap.size)) (F0 m 11 ls []) := by
    intro k3
    induction k3 with
    | zero =>
      intro i a hk3 hinv3 H locs hP hS ls hl
      obtain rfl : wd = i := by omega
      refine lv_iload hx hb dX5_openBelow_11 (lv_at hl 0 rfl) ?_
      refine lv_iload_n hx hb dX5_openBelow_13 rfl (lv_at hl 2 rfl) ?_
      refine lv_icmp_ge (tgt := 43) hx hb dX5_openBelow_14 (by decide) (fun _ => ?_) (fun c_4 => absurd (nI_le (Nat.le_refl _) (by omega)) c_4)
      exact kx3 a (hinv3) H locs hP hS ls (lv_sub hl [0, 1, 2, 3, 4] rfl)
    | succ k3 ih3 =>
      intro i a hk3 hinv3 H locs hP hS ls hl
      have hlt3 : i < wd := by omega
      have hff := Bel_f hbl hlt3
      have hfi : vp_in (nI (fb + i)) (ln (T + 3)) := by rw [(tr_l hT).2.2.1]; exact vp_in_nI (by omega) (by omega)
      refine lv_iload hx hb dX5_openBelow_11 (lv_at hl 0 rfl) ?_
      refine lv_iload_n hx hb dX5_openBelow_13 rfl (lv_at hl 2 rfl) ?_
      refine lv_icmp_ge (tgt := 43) hx hb dX5_openBelow_14 (by decide) (fun c_5 => absurd c_5 (nI_ge (by omega) (by omega))) (fun _ => ?_)
      refine lv_aload_n hx hb dX5_openBelow_17 rfl (lv_at hl 3 rfl) ?_
      refine vgS hx hb hts hi5 hown hK hP (T) (by have := (tr_o hT).1; show _ < 378; omega) (tr_o hT).2.1 (C := RX5) (T := TX5) (N := 16) rfl 2 (by decide) (by decide) (by decide) (by decide) (T + 3) rfl (hts (.fieldLink RX5 57 "CrateHelpers$Tree" "what" "[B") (by decide +kernel)) (fun _ h9 => h9) dX5_openBelow_18 ?_
      refine lv_aload_n hx hb dX5_openBelow_21 rfl (lv_at hl 3 rfl) ?_
      refine vgS hx hb hts hi5 hown hK hP (T) (by have := (tr_o hT).1; show _ < 378; omega) (tr_o hT).2.1 (C := RX5) (T := TX5) (N := 16) rfl 6 (by decide) (by decide) (by decide) (by decide) (T + 7) rfl (hts (.fieldLink RX5 69 "CrateHelpers$Tree" "firstBelow" "[S") (by decide +kernel)) (fun _ h9 => h9) dX5_openBelow_22 ?_
      refine lv_iload_n hx hb dX5_openBelow_25 rfl (lv_at hl 4 rfl) ?_
      refine xsald hx hb hK hP (T + 7) (by have := (tr_o hT).1; show _ < 378; omega) (tr_o hT).2.2.2.2.2.2.2.2.1 hi7d dX5_openBelow_26 ?_
      rw [nI_clamp (n := d) (by omega)]
      rw [hff.1]
      refine lv_iload hx hb dX5_openBelow_27 (lv_at hl 0 rfl) ?_
      refine lv_iadd hx hb dX5_openBelow_29 ?_
      rw [nI_add]
      refine xbald hx hb hK hP (T + 3) (by have := (tr_o hT).1; show _ < 378; omega) (tr_o hT).2.2.2.2.1 hfi dX5_openBelow_30 ?_
      rw [nI_clamp (n := (fb + i)) (by omega)]
      refine lv_if_ne (tgt := 37) hx hb dX5_openBelow_31 (by decide) (fun c_6 => ?_) (fun c_6 => ?_)
      · refine lv_iinc (v := (nI (i + 1))) (lv' := [(4, .int (nI (i + 1))), (2, .int a), (3, .int (nI wd)), (0, .ref (ad T)), (1, .int (nI d))]) hx hb dX5_openBelow_37 hl (k := 0) rfl (nI_1 i) (by decide) rfl (fun ls hl => ?_)
        refine lv_goto (tgt := 11) hx hb dX5_openBelow_40 (by decide) ?_
        exact ih3 (i + 1) a (by omega) (by rw [← hinv3]; simp [sm, c_6]) H locs hP hS ls (lv_sub hl [0, 1, 2, 3, 4] rfl)
      · refine lv_iinc (v := (a + 1)) (lv' := [(2, .int (a + 1)), (4, .int (nI i)), (3, .int (nI wd)), (0, .ref (ad T)), (1, .int (nI d))]) hx hb dX5_openBelow_34 hl (k := 1) rfl rfl (by decide) rfl (fun ls hl => ?_)
        refine lv_iinc (v := (nI (i + 1))) (lv' := [(4, .int (nI (i + 1))), (2, .int (a + 1)), (3, .int (nI wd)), (0, .ref (ad T)), (1, .int (nI d))]) hx hb dX5_openBelow_37 hl (k := 1) rfl (nI_1 i) (by decide) rfl (fun ls hl => ?_)
        refine lv_goto (tgt := 11) hx hb dX5_openBelow_40 (by decide) ?_
        exact ih3 (i + 1) (a + 1) (by omega) (by rw [← hinv3]; simp [sm, c_6]) H locs hP hS ls (lv_sub hl [0, 1, 2, 3, 4] rfl)
  exact lp3 (wd) 0 0 (by omega) (rfl) _ _ hP hS ls (lv_sub hl [0, 2, 1, 3, 4] rfl)

set_option maxHeartbeats 4000000 in
set_option maxRecDepth 100000 in
theorem c_X5_take (l : Launch) (D : va_G) (K : Nat → ClassId) (ad : Nat → Nat) (hap0 : apart ad (fun _ => True)) (T d : Nat) (hT : TrAt T) (hd : d < lT T) (B fb wd t : Nat) (hB : PrAt B) (hw6 : wd ≤ 6) (ht : t < 250) (I : Nat → Nat → Int32) (G : Nat → Nat → Nat) (A : Nat → Nat → Int32) (L : Nat → Nat → Int64) (hTB : G T 14 = B) (hbl : Bel A T B d fb wd) (hkt : I T 11 = nI t) : Cv l D K ad yX5_take wsX5_take 1 40 [.ref (ad T), .int (nI d)] (I, G, A, L) (fun (u : Mem) => u = (up2 I T 11 (nI t + 1), G, rea (tkA A T d t) T fb wd, L)) := by
  intro sz
  refine Met.ofW (cc := cX5_take) (maxL := 4) (ret := none) (by decide) rfl ?_
  intro p e s m args below meth c s₁ Bd hml hv0
  obtain ⟨rfl, hsz, hP, hK⟩ := hv0
  have hx := Bd.exec
  have hb := Bd.bytes
  have hr := Bd.returns
  have hts := atoms_spec (ws := wsX5_take) Bd.pre
  have hown : s.vm.findClass RX5 = some m.cls := findClass_of_methodNamed Bd.named
  have hlocks := Bd.notSynchronized
  have hi5 : ∀ w ∈ u_ws RX5 TX5 16, w ∈ wsX5_take := fun w h => List.mem_cons_of_mem _ (List.mem_append_left _ (List.mem_append_right _ h))
  have hi1 : ∀ w ∈ u_ws RX1 TX1 9, w ∈ wsX5_take := fun w h => List.mem_cons_of_mem _ (List.mem_append_right _ h)
  subst hsz
  have hap := vF_ap hap0 s.heap.size
  have hS : va_S (vF ad s.heap.size) s.heap s.heap [] := va_S.rf
  have hP : va_P D vwCl (VW K ad I G A L) s.heap := hP
  have hl := lv_entry ([.ref (ad T), .int (nI d)]) (n := 4) (Nat.le_of_ble_eq_true rfl)
  rw [lg_entry_eq]
  generalize (lg_sl ([.ref (ad T), .int (nI d)]) ++ List.replicate (4 - (lg_sl ([.ref (ad T), .int (nI d)])).length) Slot.unset).toArray = ls at hl ⊢
  have hl : lv_has ls 4 [(0, .ref (ad T)), (1, .int (nI d))] := hl
  have hl1 := (tr_l hT).2.2.2.2.2.2.2.2.2.2
  have hi1d : vp_in (nI d) (ln (T + 1)) := by rw [(tr_l hT).1]; exact vp_in_nI hd (by omega)
  have hi2d : vp_in (nI d) (ln (T + 2)) := by rw [(tr_l hT).2.1]; exact vp_in_nI hd (by omega)
  have hi3d : vp_in (nI d) (ln (T + 3)) := by rw [(tr_l hT).2.2.1]; exact vp_in_nI hd (by omega)
  have hi4d : vp_in (nI d) (ln (T + 4)) := by rw [(tr_l hT).2.2.2.1]; exact vp_in_nI hd (by omega)
  have hi5d : vp_in (nI d) (ln (T + 5)) := by rw [(tr_l hT).2.2.2.2.1]; exact vp_in_nI hd (by omega)
  have hi6d : vp_in (nI d) (ln (T + 6)) := by rw [(tr_l hT).2.2.2.2.2.1]; exact vp_in_nI hd (by omega)
  have hi7d : vp_in (nI d) (ln (T + 7)) := by rw [(tr_l hT).2.2.2.2.2.2.1]; exact vp_in_nI hd (by omega)
  have hi8d : vp_in (nI d) (ln (T + 8)) := by rw [(tr_l hT).2.2.2.2.2.2.2.1]; exact vp_in_nI hd (by omega)
  have hB58 := pr_ge hB
  have hT11 := (tr_o hT).1
  have hit : vp_in (nI t) (ln (T + 9)) := by rw [(tr_l hT).2.2.2.2.2.2.2.2.1]; exact vp_in_nI ht (by omega)
  have hbt : Bel (tkA A T d t) T B d fb wd := Bel_t hbl (by omega)
  refine lv_aload_n hx hb dX5_take_0 rfl (lv_at hl 0 rfl) ?_
  refine vgI hx hb hts hi5 hown hK hP (T) (by have := (tr_o hT).1; show _ < 378; omega) (tr_o hT).2.1 (C := RX5) (T := TX5) (N := 16) rfl 11 (by decide) (by decide) (by decide) (by decide) (hts (.fieldLink RX5 22 "CrateHelpers$Tree" "taken" "I") (by decide +kernel)) (fun _ h9 => h9) dX5_take_1 ?_
  rw [hkt]
  refine lv_sipush (v := 250) hx hb dX5_take_4 (by decide) ?_
  refine lv_icmp_lt (tgt := 11) hx hb dX5_take_7 (by decide) (fun _ => ?_) (fun c9 => absurd (show nI t < nI 250 from nI_lt ht (by omega)) c9)
  refine lv_aload_n hx hb dX5_take_11 rfl (lv_at hl 0 rfl) ?_
  refine vgS hx hb hts hi5 hown hK hP (T) (by have := (tr_o hT).1; show _ < 378; omega) (tr_o hT).2.1 (C := RX5) (T := TX5) (N := 16) rfl 4 (by decide) (by decide) (by decide) (by decide) (T + 5) rfl (hts (.fieldLink RX5 63 "CrateHelpers$Tree" "stage" "[B") (by decide +kernel)) (fun _ h9 => h9) dX5_take_12 ?_
  refine lv_iload_n hx hb dX5_take_15 rfl (lv_at hl 1 rfl) ?_
  refine lv_iconst (v := 3) hx hb dX5_take_16 (by decide) ?_
  refine xbast hx hb hK hP hap hS (T + 5) (by have := (tr_o hT).1; show _ < 378; omega) (tr_o hT).2.2.2.2.2.2.1 hi5d dX5_take_17 (fun H locs hP hS => ?_)
  rw [nI_clamp (n := d) (by omega)] at hP
  obtain ⟨A1, eA1⟩ : ∃ z, z = up2 A (T + 5) d (vp_nar .byte 3) := ⟨_, rfl⟩
  rw [← eA1] at hP
  have hP : va_P D vwCl (VW K ad I G A1 L) H := hP
  refine lv_aload_n hx hb dX5_take_18 rfl (lv_at hl 0 rfl) ?_
  refine vgS hx hb hts hi5 hown hK hP (T) (by have := (tr_o hT).1; show _ < 378; omega) (tr_o hT).2.1 (C := RX5) (T := TX5) (N := 16) rfl 8 (by decide) (by decide) (by decide) (by decide) (T + 9) rfl (hts (.fieldLink RX5 11 "CrateHelpers$Tree" "walk" "[I") (by decide +kernel)) (fun _ h9 => h9) dX5_take_19 ?_
  refine lv_aload_n hx hb dX5_take_22 rfl (lv_at hl 0 rfl) ?_
  refine vgI hx hb hts hi5 hown hK hP (T) (by have := (tr_o hT).1; show _ < 378; omega) (tr_o hT).2.1 (C := RX5) (T := TX5) (N := 16) rfl 11 (by decide) (by decide) (by decide) (by decide) (hts (.fieldLink RX5 22 "CrateHelpers$Tree" "taken" "I") (by decide +kernel)) (fun _ h9 => h9) dX5_take_23 ?_
  rw [hkt]
  refine lv_iload_n hx hb dX5_take_26 rfl (lv_at hl 1 rfl) ?_
  refine xiast hx hb hK hP hap hS (T + 9) (by have := (tr_o hT).1; show _ < 378; omega) (tr_o hT).2.2.2.2.2.2.2.2.2.2.1 hit dX5_take_27 (fun H locs hP hS => ?_)
  rw [nI_clamp (n := t) (by omega)] at hP
  obtain ⟨A2, eA2⟩ : ∃ z, z = up2 A1 (T + 9) t ((nI d)) := ⟨_, rfl⟩
  rw [← eA2] at hP
  have hP : va_P D vwCl (VW K ad I G A2 L) H := hP
  rw [show A2 = tkA A T d t from by rw [eA2, eA1]; rfl] at hP
  have hP : va_P D vwCl (VW K ad I G (tkA A T d t) L) H := hP
  refine lv_aload_n hx hb dX5_take_28 rfl (lv_at hl 0 rfl) ?_
  refine lv_dup hx hb dX5_take_29 rfl ?_
  refine vgI hx hb hts hi5 hown hK hP (T) (by have := (tr_o hT).1; show _ < 378; omega) (tr_o hT).2.1 (C := RX5) (T := TX5) (N := 16) rfl 11 (by decide) (by decide) (by decide) (by decide) (hts (.fieldLink RX5 22 "CrateHelpers$Tree" "taken" "I") (by decide +kernel)) (fun _ h9 => h9) dX5_take_30 ?_
  rw [hkt]
  refine lv_iconst (v := 1) hx hb dX5_take_33 (by decide) ?_
  refine lv_iadd hx hb dX5_take_34 ?_
  refine vpI (v := ((nI t) + 1)) (ty := .int) hx hb hts hi5 tyX5 tyX5_ok nmX5 hown hK hP hap hS (T) (by have := (tr_o hT).1; show _ < 378; omega) (tr_o hT).2.1 (C := RX5) (T := TX5) (N := 16) rfl 11 (by decide) (by decide) (by decide) (by decide) (hts (.fieldLink RX5 22 "CrateHelpers$Tree" "taken" "I") (by decide +kernel)) (fun _ h9 => h9) rfl (by decide +kernel) rfl rfl dX5_take_35 (fun H locs hP hS => ?_)
  obtain ⟨I3, eI3⟩ : ∃ z, z = up2 I T 11 ((nI t) + 1) := ⟨_, rfl⟩
  rw [← eI3] at hP
  have hP : va_P D vwCl (VW K ad I3 G (tkA A T d t) L) H := hP
  refine lv_aload_n hx hb dX5_take_38 rfl (lv_at hl 0 rfl) ?_
  refine lv_iload_n hx hb dX5_take_39 rfl (lv_at hl 1 rfl) ?_
  refine vcV (As := [.int (nI d)]) (rest := []) ⟨hx, hb, hml, hown, hts⟩ (c_X5_widthBelow l D K ad hap0 T d hT hd B hB I3 G (tkA A T d t) L hTB (Bel_p hbt)) (cwV 1 hts gX5_take_X5_widthBelow rfl rfl rfl (by decide +kernel) ⟨Nat.le_of_ble_eq_true rfl, Nat.le_of_ble_eq_true rfl⟩) hK hP hS (by have := (tr_o hT).1; show _ < 378; omega) (tr_o hT).2.1 (by decide) rfl rfl rfl hl.1 (Nat.le_of_ble_eq_true rfl) (Nat.le_of_ble_eq_true rfl) (Nat.le_of_ble_eq_true rfl) dX5_take_40 (fun r4 u5 H locs hw hP hS => ?_) rfl
  obtain ⟨hr4, rfl⟩ := hw
  have hP : va_P D vwCl (VW K ad I3 G (tkA A T d t) L) H := hP
  rw [Bel_w hbt] at hr4
  subst hr4
  refine lv_istore_n (lv' := [(2, .int (nI wd)), (0, .ref (ad T)), (1, .int (nI d))]) hx hb dX5_take_43 rfl hl (by decide) rfl (fun ls hl => ?_)
  refine lv_iconst (v := 0) hx hb dX5_take_44 (by decide) ?_
  refine lv_istore_n (lv' := [(3, .int 0), (2, .int (nI wd)), (0, .ref (ad T)), (1, .int (nI d))]) hx hb dX5_take_45 rfl hl (by decide) rfl (fun ls hl => ?_)
  have kx6 : ∀ (A1 : Nat → Nat → Int32), True → A1 = rea (tkA A T d t) T fb wd → ∀ (H : Heap) (locs : List Loc), va_P D vwCl (VW K ad I3 G A1 L) H → va_S (vF ad s.heap.size) s.heap H locs → ∀ (ls : Array Slot), lv_has ls 4 [(2, .int (nI wd)), (0, .ref (ad T)), (1, .int (nI d))] → W p l e ({ frames := 1, cells := 0, slots := 0, locals := 40 }) s m ([.ref (ad T), .int (nI d)] : List Value).toArray below meth c H locs 0 0 (MQ below (va_Qv (fun (u : Mem) => u = (up2 I T 11 (nI t + 1), G, rea (tkA A T d t) T fb wd, L)) (vB D K ad) (vF ad s.heap.size)) ([.ref (ad T), .int (nI d)] : List Value).toArray s 0 0 (vF ad s.heap.size)) (F0 m 71 ls []) := by
    intro A1 hinv6 hg6 H locs hP hS ls hl
    exact W.vret hx hb hr (fun t ht hW => ⟨⟨(I3, G, A1, L), rfl, by rw [hg6, eI3], by rw [ht]; exact hP, va_K.moved hW.alike hK⟩, hS.F ht⟩) hS.2.2 dX5_take_71
  have lp6 : ∀ (k6 i : Nat) (A1 : Nat → Nat → Int32), i + k6 = wd → True → A1 = rea (tkA A T d t) T fb i → ∀ (H : Heap) (locs : List Loc), va_P D vwCl (VW K ad I3 G A1 L) H → va_S (vF ad s.heap.size) s.heap H locs → ∀ (ls : Array Slot), lv_has ls 4 [(3, .int (nI i)), (2, .int (nI wd)), (0, .ref (ad T)), (1, .int (nI d))] → W p l e ({ frames := 1, cells := 0, slots := 0, locals := 40 }) s m ([.ref (ad T), .int (nI d)] : List Value).toArray below meth c H locs 0 0 (MQ below (va_Qv (fun (u : Mem) => u = (up2 I T 11 (nI t + 1), G, rea (tkA A T d t) T fb wd, L)) (vB D K ad) (vF ad s.heap.size)) ([.ref (ad T), .int (nI d)] : List Value).toArray s 0 0 (vF ad s.heap.size)) (F0 m 46 ls []) := by
    intro k6
    induction k6 with
    | zero =>
      intro i A1 hk6 hinv6 hg6 H locs hP hS ls hl
      obtain rfl : wd = i := by omega
      refine lv_iload_n hx hb dX5_take_46 rfl (lv_at hl 0 rfl) ?_
      refine lv_iload_n hx hb dX5_take_47 rfl (lv_at hl 1 rfl) ?_
      refine lv_icmp_ge (tgt := 71) hx hb dX5_take_48 (by decide) (fun _ => ?_) (fun c_7 => absurd (nI_le (Nat.le_refl _) (by omega)) c_7)
      exact kx6 A1 (trivial) (hg6) H locs hP hS ls (lv_sub hl [1, 2, 3] rfl)
    | succ k6 ih6 =>
      intro i A1 hk6 hinv6 hg6 H locs hP hS ls hl
      have hlt6 : i < wd := by omega
      have hff := Bel_f hbt hlt6
      have hfi : vp_in (nI (fb + i)) (ln (T + 8)) := by rw [(tr_l hT).2.2.2.2.2.2.2.1]; exact vp_in_nI (by omega) (by omega)
      have hfb7 : A1 (T + 7) d = nI fb := by rw [hg6, rea_j (by omega)]; exact hff.1
      refine lv_iload_n hx hb dX5_take_46 rfl (lv_at hl 0 rfl) ?_
      refine lv_iload_n hx hb dX5_take_47 rfl (lv_at hl 1 rfl) ?_
      refine lv_icmp_ge (tgt := 71) hx hb dX5_take_48 (by decide) (fun c_8 => absurd c_8 (nI_ge (by omega) (by omega))) (fun _ => ?_)
      refine lv_aload_n hx hb dX5_take_51 rfl (lv_at hl 2 rfl) ?_
      refine vgS hx hb hts hi5 hown hK hP (T) (by have := (tr_o hT).1; show _ < 378; omega) (tr_o hT).2.1 (C := RX5) (T := TX5) (N := 16) rfl 7 (by decide) (by decide) (by decide) (by decide) (T + 8) rfl (hts (.fieldLink RX5 73 "CrateHelpers$Tree" "isReached" "[Z") (by decide +kernel)) (fun _ h9 => h9) dX5_take_52 ?_
      refine lv_aload_n hx hb dX5_take_55 rfl (lv_at hl 2 rfl) ?_
      refine vgS hx hb hts hi5 hown hK hP (T) (by have := (tr_o hT).1; show _ < 378; omega) (tr_o hT).2.1 (C := RX5) (T := TX5) (N := 16) rfl 6 (by decide) (by decide) (by decide) (by decide) (T + 7) rfl (hts (.fieldLink RX5 69 "CrateHelpers$Tree" "firstBelow" "[S") (by decide +kernel)) (fun _ h9 => h9) dX5_take_56 ?_
      refine lv_iload_n hx hb dX5_take_59 rfl (lv_at hl 3 rfl) ?_
      refine xsald hx hb hK hP (T + 7) (by have := (tr_o hT).1; show _ < 378; omega) (tr_o hT).2.2.2.2.2.2.2.2.1 hi7d dX5_take_60 ?_
      rw [nI_clamp (n := d) (by omega)]
      rw [hfb7]
      refine lv_iload_n hx hb dX5_take_61 rfl (lv_at hl 0 rfl) ?_
      refine lv_iadd hx hb dX5_take_62 ?_
      rw [nI_add]
      refine lv_iconst (v := 1) hx hb dX5_take_63 (by decide) ?_
      refine xzast hx hb hK hP hap hS (T + 8) (by have := (tr_o hT).1; show _ < 378; omega) (tr_o hT).2.2.2.2.2.2.2.2.2.1 hfi dX5_take_64 (fun H locs hP hS => ?_)
      rw [nI_clamp (n := (fb + i)) (by omega)] at hP
      obtain ⟨A9, eA9⟩ : ∃ z, z = up2 A1 (T + 8) (fb + i) (vp_nar .boolean 1) := ⟨_, rfl⟩
      rw [← eA9] at hP
      have hP : va_P D vwCl (VW K ad I3 G A9 L) H := hP
      refine lv_iinc (v := (nI (i + 1))) (lv' := [(3, .int (nI (i + 1))), (2, .int (nI wd)), (0, .ref (ad T)), (1, .int (nI d))]) hx hb dX5_take_65 hl (k := 0) rfl (nI_1 i) (by decide) rfl (fun ls hl => ?_)
      refine lv_goto (tgt := 46) hx hb dX5_take_68 (by decide) ?_
      exact ih6 (i + 1) A9 (by omega) (trivial) (eA9.trans (by rw [hg6]; exact rea_s _ T fb i)) H locs hP hS ls (lv_sub hl [0, 1, 2, 3] rfl)
  exact lp6 (wd) 0 (tkA A T d t) (by omega) (trivial) ((rea_0 _ T fb).symm) _ _ hP hS ls (lv_sub hl [0, 1, 2, 3] rfl)

/-! part 28.zrows -/
set_option maxRecDepth 20000 in
theorem ggX5_plant_J7_fill_53178 : GoodIn wsX5_plant wsJ7_fill_53178 := goodIn_g _ [(12, 1)] rfl (by decide +kernel)
set_option maxRecDepth 20000 in
theorem gX5_plant_J7_fill_53178 : GoodIn wsX5_plant (va_wsS RX5 77 yJ7_fill_53178 wsJ7_fill_53178) := goodIn_app (goodIn_of _ (by decide +kernel)) ggX5_plant_J7_fill_53178
set_option maxRecDepth 20000 in
theorem ggX5_plant_X0_look : GoodIn wsX5_plant wsX0_look := goodIn_g _ [(17, 62), (16, 1), (79, 22), (132, 19)] rfl (by decide +kernel)
set_option maxRecDepth 20000 in
theorem gX5_plant_X0_look : GoodIn wsX5_plant (wsV RX5 83 RX0 yX0_look wsX0_look) := goodIn_app (goodIn_of _ (by decide +kernel)) ggX5_plant_X0_look
set_option maxRecDepth 20000 in
theorem ggX5_plant_X5_addJudged : GoodIn wsX5_plant wsX5_addJudged := goodIn_g _ [(105, 2), (3, 1), (7, 1), (107, 9), (8, 1), (116, 16), (141, 3)] rfl (by decide +kernel)
set_option maxRecDepth 20000 in
theorem gX5_plant_X5_addJudged : GoodIn wsX5_plant (wsV RX5 87 RX5 yX5_addJudged wsX5_addJudged) := goodIn_app (goodIn_of _ (by decide +kernel)) ggX5_plant_X5_addJudged
theorem dX5_plant_0 : decode cX5_plant 0 = .ok (.aload_n 0, 1) := by decide +kernel
theorem dX5_plant_1 : decode cX5_plant 1 = .ok (.aload_n 1, 1) := by decide +kernel
theorem dX5_plant_2 : decode cX5_plant 2 = .ok (.putfield 45, 3) := by decide +kernel
theorem dX5_plant_5 : decode cX5_plant 5 = .ok (.aload_n 0, 1) := by decide +kernel
theorem dX5_plant_6 : decode cX5_plant 6 = .ok (.iload_n 2, 1) := by decide +kernel
theorem dX5_plant_7 : decode cX5_plant 7 = .ok (.putfield 35, 3) := by decide +kernel
theorem dX5_plant_10 : decode cX5_plant 10 = .ok (.aload_n 0, 1) := by decide +kernel
theorem dX5_plant_11 : decode cX5_plant 11 = .ok (.iconst 0, 1) := by decide +kernel
theorem dX5_plant_12 : decode cX5_plant 12 = .ok (.putfield 15, 3) := by decide +kernel
theorem dX5_plant_15 : decode cX5_plant 15 = .ok (.aload_n 0, 1) := by decide +kernel
theorem dX5_plant_16 : decode cX5_plant 16 = .ok (.iconst 0, 1) := by decide +kernel
theorem dX5_plant_17 : decode cX5_plant 17 = .ok (.putfield 19, 3) := by decide +kernel
theorem dX5_plant_20 : decode cX5_plant 20 = .ok (.aload_n 0, 1) := by decide +kernel
theorem dX5_plant_21 : decode cX5_plant 21 = .ok (.iconst 0, 1) := by decide +kernel
theorem dX5_plant_22 : decode cX5_plant 22 = .ok (.putfield 22, 3) := by decide +kernel
theorem dX5_plant_25 : decode cX5_plant 25 = .ok (.aload_n 0, 1) := by decide +kernel
theorem dX5_plant_26 : decode cX5_plant 26 = .ok (.getfield 25, 3) := by decide +kernel
theorem dX5_plant_29 : decode cX5_plant 29 = .ok (.iconst (-1), 1) := by decide +kernel
theorem dX5_plant_30 : decode cX5_plant 30 = .ok (.invokestatic 77, 3) := by decide +kernel
theorem dX5_plant_33 : decode cX5_plant 33 = .ok (.aload_n 0, 1) := by decide +kernel
theorem dX5_plant_34 : decode cX5_plant 34 = .ok (.getfield 31, 3) := by decide +kernel
theorem dX5_plant_37 : decode cX5_plant 37 = .ok (.aload_n 0, 1) := by decide +kernel
theorem dX5_plant_38 : decode cX5_plant 38 = .ok (.getfield 45, 3) := by decide +kernel
theorem dX5_plant_41 : decode cX5_plant 41 = .ok (.aload_n 0, 1) := by decide +kernel
theorem dX5_plant_42 : decode cX5_plant 42 = .ok (.getfield 25, 3) := by decide +kernel
theorem dX5_plant_45 : decode cX5_plant 45 = .ok (.iconst 0, 1) := by decide +kernel
theorem dX5_plant_46 : decode cX5_plant 46 = .ok (.aload_n 0, 1) := by decide +kernel
theorem dX5_plant_47 : decode cX5_plant 47 = .ok (.getfield 35, 3) := by decide +kernel
theorem dX5_plant_50 : decode cX5_plant 50 = .ok (.invokevirtual 83, 3) := by decide +kernel
theorem dX5_plant_53 : decode cX5_plant 53 = .ok (.aload_n 0, 1) := by decide +kernel
theorem dX5_plant_54 : decode cX5_plant 54 = .ok (.iconst 0, 1) := by decide +kernel
theorem dX5_plant_55 : decode cX5_plant 55 = .ok (.lconst 0, 1) := by decide +kernel
theorem dX5_plant_56 : decode cX5_plant 56 = .ok (.invokevirtual 87, 3) := by decide +kernel
theorem dX5_plant_59 : decode cX5_plant 59 = .ok (.aload_n 0, 1) := by decide +kernel
theorem dX5_plant_60 : decode cX5_plant 60 = .ok (.getfield 73, 3) := by decide +kernel
theorem dX5_plant_63 : decode cX5_plant 63 = .ok (.iconst 0, 1) := by decide +kernel
theorem dX5_plant_64 : decode cX5_plant 64 = .ok (.iconst 1, 1) := by decide +kernel
theorem dX5_plant_65 : decode cX5_plant 65 = .ok (.bastore, 1) := by decide +kernel
theorem dX5_plant_66 : decode cX5_plant 66 = .ok (.return_, 1) := by decide +kernel

/-! part 29.plant -/
theorem fit01 {x : Int32} (h : x = 0 ∨ x = 1) : fits .boolean (.int x) = true := by rcases h with rfl | rfl <;> rfl
/-- a problem in order stays so where the slots from 58 on stay -/
theorem PrW_of {I I2 A A2 : Nat → Nat → Int32} {B nv nr : Nat} (h : PrW I A B nv nr) (hB : 58 ≤ B) (hI : ∀ j k, 58 ≤ j → I2 j k = I j k) (hA : ∀ j k, 58 ≤ j → A2 j k = A j k) : PrW I2 A2 B nv nr := by
  refine ⟨h.1, h.2.1, by rw [hI _ _ hB]; exact h.2.2.1, by rw [hI _ _ hB]; exact h.2.2.2.1, fun x hx => by rw [hA _ _ (by omega)]; exact h.2.2.2.2.1 x hx, fun r hr => ?_⟩
  have e : nP I2 (B + 12 + 5 * r) = nP I (B + 12 + 5 * r) := by unfold nP; rw [hI _ _ (by omega)]
  rw [e]
  have w := h.2.2.2.2.2 r hr
  exact ⟨w.1, by rw [hI _ _ (by omega)]; exact w.2.1, fun i hi => by rw [hA _ _ (by omega)]; exact w.2.2 i hi⟩
def plI (I : Nat → Nat → Int32) (T : Nat) (mt : Int32) : Nat → Nat → Int32 := up2 (up2 (up2 (up2 I T 15 mt) T 9 0) T 10 0) T 11 0
def jdI (I : Nat → Nat → Int32) (J : Nat) (w : Int32 × Int32 × Int32) : Nat → Nat → Int32 := up2 (up2 (up2 I J 0 w.1) J 1 w.2.1) J 2 w.2.2
def adA (I A : Nat → Nat → Int32) (T n : Nat) (x : Int32) : Nat → Nat → Int32 := up2 (up2 (up2 (up2 (up2 (up2 (up2 A (T + 2) n (vp_nar .byte x.toInt8.toInt32)) (T + 3) n (vp_nar .byte (I (T + 11) 0).toInt8.toInt32)) (T + 4) n (vp_nar .byte (I (T + 11) 1).toInt8.toInt32)) (T + 5) n (vp_nar .byte 0)) (T + 6) n (vp_nar .byte (-9))) (T + 7) n (vp_nar .short (-1))) (T + 8) n (vp_nar .boolean 0)
theorem plI_o {I : Nat → Nat → Int32} {T j k : Nat} {mt : Int32} (h : j ≠ T) : plI I T mt j k = I j k := by unfold plI; rw [up2_j h, up2_j h, up2_j h, up2_j h]
theorem plI_15 (I : Nat → Nat → Int32) (T : Nat) (mt : Int32) : plI I T mt T 15 = mt := by unfold plI; rw [up2_k (by decide), up2_k (by decide), up2_k (by decide), up2_s]
theorem plI_9 (I : Nat → Nat → Int32) (T : Nat) (mt : Int32) : plI I T mt T 9 = 0 := by unfold plI; rw [up2_k (by decide), up2_k (by decide), up2_s]
theorem jdI_o {I : Nat → Nat → Int32} {J j k : Nat} {w : Int32 × Int32 × Int32} (h : j ≠ J) : jdI I J w j k = I j k := by unfold jdI; rw [up2_j h, up2_j h, up2_j h]
theorem ju_at {T : Nat} (h : TrAt T) : JuAt (T + 11) := ⟨(tr_o h).1, by have := (tr_o h).1; show _ < 378; omega, (tr_o h).2.2.2.2.2.2.2.2.2.2.2.2⟩
theorem ia_v {T : Nat} (h : TrAt T) : IA (T + 10) 6 := ⟨by have := (tr_o h).1; show _ < 378; omega, (tr_o h).2.2.2.2.2.2.2.2.2.2.2.1, (tr_l h).2.2.2.2.2.2.2.2.2.1⟩
theorem ro_0 (A : Nat → Nat → Int32) (B v : Nat) : RoW (fil A v 6 (-1)) B v 0 := ⟨fun i h => absurd h (Nat.not_lt_zero i), fun i _ h => by simp [fil, h]⟩

set_option maxHeartbeats 4000000 in
set_option maxRecDepth 100000 in
theorem c_X5_plant (l : Launch) (D : va_G) (K : Nat → ClassId) (ad : Nat → Nat) (hap0 : apart ad (fun _ => True)) (T B nv nr : Nat) (mt : Int32) (hT : TrAt T) (hB : PrAt B) (hmt : mt = 0 ∨ mt = 1) (I : Nat → Nat → Int32) (G : Nat → Nat → Nat) (A : Nat → Nat → Int32) (L : Nat → Nat → Int64) (hw : PrW I A B nv nr) : Cv l D K ad yX5_plant wsX5_plant 5 190 [.ref (ad T), .ref (ad B), .int mt] (I, G, A, L) (fun (u : Mem) => u = (up2 (jdI (plI I T mt) (T + 11) (lk (plI I T mt) (fil A (T + 10) 6 (-1)) B (T + 10) nv nr 0 mt)) T 9 (nI 0 + 1), up2 G T 14 B, up2 (adA (jdI (plI I T mt) (T + 11) (lk (plI I T mt) (fil A (T + 10) 6 (-1)) B (T + 10) nv nr 0 mt)) (fil A (T + 10) 6 (-1)) T 0 0) (T + 8) 0 (vp_nar .boolean 1), up2 L (T + 1) 0 (plc ((jdI (plI I T mt) (T + 11) (lk (plI I T mt) (fil A (T + 10) 6 (-1)) B (T + 10) nv nr 0 mt)) (T + 11) 2) 0))) := by
  intro sz
  refine Met.ofW (cc := cX5_plant) (maxL := 3) (ret := none) (by decide) rfl ?_
  intro p e s m args below meth c s₁ Bd hml hv0
  obtain ⟨rfl, hsz, hP, hK⟩ := hv0
  have hx := Bd.exec
  have hb := Bd.bytes
  have hr := Bd.returns
  have hts := atoms_spec (ws := wsX5_plant) Bd.pre
  have hown : s.vm.findClass RX5 = some m.cls := findClass_of_methodNamed Bd.named
  have hlocks := Bd.notSynchronized
  have hi5 : ∀ w ∈ u_ws RX5 TX5 16, w ∈ wsX5_plant := fun w h => List.mem_cons_of_mem _ (List.mem_append_left _ (List.mem_append_left _ (List.mem_append_left _ (List.mem_append_right _ h))))
  have hi1 : ∀ w ∈ u_ws RX1 TX1 9, w ∈ wsX5_plant := fun w h => List.mem_cons_of_mem _ (List.mem_append_left _ (List.mem_append_left _ (List.mem_append_right _ h)))
  have hi0 : ∀ w ∈ u_ws RX0 TX0 3, w ∈ wsX5_plant := fun w h => List.mem_cons_of_mem _ (List.mem_append_left _ (List.mem_append_right _ h))
  have hi2 : ∀ w ∈ u_ws RX2 TX2 7, w ∈ wsX5_plant := fun w h => List.mem_cons_of_mem _ (List.mem_append_right _ h)
  subst hsz
  have hap := vF_ap hap0 s.heap.size
  have hS : va_S (vF ad s.heap.size) s.heap s.heap [] := va_S.rf
  have hP : va_P D vwCl (VW K ad I G A L) s.heap := hP
  have hl := lv_entry ([.ref (ad T), .ref (ad B), .int mt]) (n := 3) (Nat.le_of_ble_eq_true rfl)
  rw [lg_entry_eq]
  generalize (lg_sl ([.ref (ad T), .ref (ad B), .int mt]) ++ List.replicate (3 - (lg_sl ([.ref (ad T), .ref (ad B), .int mt])).length) Slot.unset).toArray = ls at hl ⊢
  have hl : lv_has ls 3 [(0, .ref (ad T)), (1, .ref (ad B)), (2, .int mt)] := hl
  have hB58 := pr_ge hB
  have hT11 := (tr_o hT).1
  have hl1 := (tr_l hT).2.2.2.2.2.2.2.2.2.2
  have hz8 : vp_in (0 : Int32) (ln (T + 8)) := by rw [(tr_l hT).2.2.2.2.2.2.2.1]; exact vp_in_nI (n := 0) (by omega) (by omega)
  refine lv_aload_n hx hb dX5_plant_0 rfl (lv_at hl 0 rfl) ?_
  refine lv_aload_n hx hb dX5_plant_1 rfl (lv_at hl 1 rfl) ?_
  refine vpG (q := B) (ty := .object "CrateHelpers$Problem") hx hb hts hi5 tyX5 tyX5_ok nmX5 hown hK hP hap hS (T) (by have := (tr_o hT).1; show _ < 378; omega) (tr_o hT).2.1 (C := RX5) (T := TX5) (N := 16) rfl 14 (by decide) (by decide) (by decide) (by decide) (hts (.fieldLink RX5 45 "CrateHelpers$Tree" "problem" "LCrateHelpers$Problem;") (by decide +kernel)) (fun _ h9 => h9) rfl (by decide +kernel) rfl rfl dX5_plant_2 (fun H locs hP hS => ?_)
  obtain ⟨G1, eG1⟩ : ∃ z, z = up2 G T 14 B := ⟨_, rfl⟩
  rw [← eG1] at hP
  have hP : va_P D vwCl (VW K ad I G1 A L) H := hP
  refine lv_aload_n hx hb dX5_plant_5 rfl (lv_at hl 0 rfl) ?_
  refine lv_iload_n hx hb dX5_plant_6 rfl (lv_at hl 2 rfl) ?_
  refine vpI (v := mt) (ty := .boolean) hx hb hts hi5 tyX5 tyX5_ok nmX5 hown hK hP hap hS (T) (by have := (tr_o hT).1; show _ < 378; omega) (tr_o hT).2.1 (C := RX5) (T := TX5) (N := 16) rfl 15 (by decide) (by decide) (by decide) (by decide) (hts (.fieldLink RX5 35 "CrateHelpers$Tree" "mindsTwins" "Z") (by decide +kernel)) (fun _ h9 => h9) rfl (by decide +kernel) (nar01 hmt) (fit01 hmt) dX5_plant_7 (fun H locs hP hS => ?_)
  obtain ⟨I2, eI2⟩ : ∃ z, z = up2 I T 15 mt := ⟨_, rfl⟩
  rw [← eI2] at hP
  have hP : va_P D vwCl (VW K ad I2 G1 A L) H := hP
  refine lv_aload_n hx hb dX5_plant_10 rfl (lv_at hl 0 rfl) ?_
  refine lv_iconst (v := 0) hx hb dX5_plant_11 (by decide) ?_
  refine vpI (v := 0) (ty := .int) hx hb hts hi5 tyX5 tyX5_ok nmX5 hown hK hP hap hS (T) (by have := (tr_o hT).1; show _ < 378; omega) (tr_o hT).2.1 (C := RX5) (T := TX5) (N := 16) rfl 9 (by decide) (by decide) (by decide) (by decide) (hts (.fieldLink RX5 15 "CrateHelpers$Tree" "known" "I") (by decide +kernel)) (fun _ h9 => h9) rfl (by decide +kernel) rfl rfl dX5_plant_12 (fun H locs hP hS => ?_)
  obtain ⟨I3, eI3⟩ : ∃ z, z = up2 I2 T 9 0 := ⟨_, rfl⟩
  rw [← eI3] at hP
  have hP : va_P D vwCl (VW K ad I3 G1 A L) H := hP
  refine lv_aload_n hx hb dX5_plant_15 rfl (lv_at hl 0 rfl) ?_
  refine lv_iconst (v := 0) hx hb dX5_plant_16 (by decide) ?_
  refine vpI (v := 0) (ty := .int) hx hb hts hi5 tyX5 tyX5_ok nmX5 hown hK hP hap hS (T) (by have := (tr_o hT).1; show _ < 378; omega) (tr_o hT).2.1 (C := RX5) (T := TX5) (N := 16) rfl 10 (by decide) (by decide) (by decide) (by decide) (hts (.fieldLink RX5 19 "CrateHelpers$Tree" "done" "I") (by decide +kernel)) (fun _ h9 => h9) rfl (by decide +kernel) rfl rfl dX5_plant_17 (fun H locs hP hS => ?_)
  obtain ⟨I4, eI4⟩ : ∃ z, z = up2 I3 T 10 0 := ⟨_, rfl⟩
  rw [← eI4] at hP
  have hP : va_P D vwCl (VW K ad I4 G1 A L) H := hP
  refine lv_aload_n hx hb dX5_plant_20 rfl (lv_at hl 0 rfl) ?_
  refine lv_iconst (v := 0) hx hb dX5_plant_21 (by decide) ?_
  refine vpI (v := 0) (ty := .int) hx hb hts hi5 tyX5 tyX5_ok nmX5 hown hK hP hap hS (T) (by have := (tr_o hT).1; show _ < 378; omega) (tr_o hT).2.1 (C := RX5) (T := TX5) (N := 16) rfl 11 (by decide) (by decide) (by decide) (by decide) (hts (.fieldLink RX5 22 "CrateHelpers$Tree" "taken" "I") (by decide +kernel)) (fun _ h9 => h9) rfl (by decide +kernel) rfl rfl dX5_plant_22 (fun H locs hP hS => ?_)
  obtain ⟨I5, eI5⟩ : ∃ z, z = up2 I4 T 11 0 := ⟨_, rfl⟩
  rw [← eI5] at hP
  have hP : va_P D vwCl (VW K ad I5 G1 A L) H := hP
  refine lv_aload_n hx hb dX5_plant_25 rfl (lv_at hl 0 rfl) ?_
  refine vgS hx hb hts hi5 hown hK hP (T) (by have := (tr_o hT).1; show _ < 378; omega) (tr_o hT).2.1 (C := RX5) (T := TX5) (N := 16) rfl 12 (by decide) (by decide) (by decide) (by decide) (T + 10) rfl (hts (.fieldLink RX5 25 "CrateHelpers$Tree" "values" "[I") (by decide +kernel)) (fun _ h9 => h9) dX5_plant_26 ?_
  refine lv_iconst (v := (-1)) hx hb dX5_plant_29 (by decide) ?_
  refine vcSv (As := [.ref (ad (T + 10)), .int (-1)]) (rest := []) ⟨hx, hb, hml, hown, hts⟩ (c_fill l D K ad hap0 (T + 10) 6 (-1) (ia_v hT) (by decide) I5 G1 A L) (va_cwS 2 hts gX5_plant_J7_fill_53178 rfl rfl rfl (by decide +kernel) ⟨Nat.le_of_ble_eq_true rfl, Nat.le_of_ble_eq_true rfl⟩) hK hP hS rfl hl.1 (Nat.le_of_ble_eq_true rfl) (Nat.le_of_ble_eq_true rfl) (Nat.le_of_ble_eq_true rfl) dX5_plant_30 (fun u7 H locs hw hP hS => ?_) rfl
  obtain ⟨I8, G9, A10, L11⟩ := u7
  have hP : va_P D vwCl (VW K ad I8 G9 A10 L11) H := hP
  injection hw with h1 h2
  injection h2 with h2 h3
  injection h3 with h3 h4
  rw [h1, h2, h3, h4] at hP
  have e4 : I5 = plI I T mt := by rw [eI5, eI4, eI3, eI2]; rfl
  rw [e4, eG1] at hP
  have hP : va_P D vwCl (VW K ad (plI I T mt) (up2 G T 14 B) (fil A (T + 10) 6 (-1)) L) H := hP
  clear h1 h2 h3 h4
  refine lv_aload_n hx hb dX5_plant_33 rfl (lv_at hl 0 rfl) ?_
  refine vgS hx hb hts hi5 hown hK hP (T) (by have := (tr_o hT).1; show _ < 378; omega) (tr_o hT).2.1 (C := RX5) (T := TX5) (N := 16) rfl 13 (by decide) (by decide) (by decide) (by decide) (T + 11) rfl (hts (.fieldLink RX5 31 "CrateHelpers$Tree" "judge" "LCrateHelpers$Judge;") (by decide +kernel)) (fun _ h9 => h9) dX5_plant_34 ?_
  refine lv_aload_n hx hb dX5_plant_37 rfl (lv_at hl 0 rfl) ?_
  refine vgG hx hb hts hi5 hown hK hP (T) (by have := (tr_o hT).1; show _ < 378; omega) (tr_o hT).2.1 (C := RX5) (T := TX5) (N := 16) rfl 14 (by decide) (by decide) (by decide) (by decide) (hts (.fieldLink RX5 45 "CrateHelpers$Tree" "problem" "LCrateHelpers$Problem;") (by decide +kernel)) (fun _ h9 => h9) dX5_plant_38 ?_
  rw [show up2 G T 14 B T 14 = B from up2_s _ _ _ _]
  refine lv_aload_n hx hb dX5_plant_41 rfl (lv_at hl 0 rfl) ?_
  refine vgS hx hb hts hi5 hown hK hP (T) (by have := (tr_o hT).1; show _ < 378; omega) (tr_o hT).2.1 (C := RX5) (T := TX5) (N := 16) rfl 12 (by decide) (by decide) (by decide) (by decide) (T + 10) rfl (hts (.fieldLink RX5 25 "CrateHelpers$Tree" "values" "[I") (by decide +kernel)) (fun _ h9 => h9) dX5_plant_42 ?_
  refine lv_iconst (v := 0) hx hb dX5_plant_45 (by decide) ?_
  refine lv_aload_n hx hb dX5_plant_46 rfl (lv_at hl 0 rfl) ?_
  refine vgI hx hb hts hi5 hown hK hP (T) (by have := (tr_o hT).1; show _ < 378; omega) (tr_o hT).2.1 (C := RX5) (T := TX5) (N := 16) rfl 15 (by decide) (by decide) (by decide) (by decide) (hts (.fieldLink RX5 35 "CrateHelpers$Tree" "mindsTwins" "Z") (by decide +kernel)) (fun _ h9 => h9) dX5_plant_47 ?_
  rw [plI_15]
  refine vcVv (As := [.ref (ad B), .ref (ad (T + 10)), .int 0, .int mt]) (rest := []) ⟨hx, hb, hml, hown, hts⟩ (c_X0_look l D K ad hap0 (T + 11) B (T + 10) nv nr 0 mt (ju_at hT) hB (ia_v hT) (by omega) (Nat.zero_le _) (plI I T mt) (up2 G T 14 B) (fil A (T + 10) 6 (-1)) L (PrW_of hw hB58 (fun j k h => plI_o (by omega)) (fun j k h => fil_j (by omega))) (ro_0 A B (T + 10))) (cwV 4 hts gX5_plant_X0_look rfl rfl rfl (by decide +kernel) ⟨Nat.le_of_ble_eq_true rfl, Nat.le_of_ble_eq_true rfl⟩) hK hP hS (by have := (tr_o hT).1; show _ < 378; omega) (tr_o hT).2.2.2.2.2.2.2.2.2.2.2.2 (by decide) rfl rfl rfl hl.1 (Nat.le_of_ble_eq_true rfl) (Nat.le_of_ble_eq_true rfl) (Nat.le_of_ble_eq_true rfl) dX5_plant_50 (fun u13 H locs hw hP hS => ?_) rfl
  obtain ⟨I14, G15, A16, L17⟩ := u13
  have hP : va_P D vwCl (VW K ad I14 G15 A16 L17) H := hP
  injection hw with h1 h2
  injection h2 with h2 h3
  injection h3 with h3 h4
  rw [h1, h2, h3, h4] at hP
  have hP : va_P D vwCl (VW K ad (jdI (plI I T mt) (T + 11) (lk (plI I T mt) (fil A (T + 10) 6 (-1)) B (T + 10) nv nr 0 mt)) (up2 G T 14 B) (fil A (T + 10) 6 (-1)) L) H := hP
  clear h1 h2 h3 h4
  refine lv_aload_n hx hb dX5_plant_53 rfl (lv_at hl 0 rfl) ?_
  refine lv_iconst (v := 0) hx hb dX5_plant_54 (by decide) ?_
  refine lv_lconst (v := 0) hx hb dX5_plant_55 rfl ?_
  refine vcVv (As := [.int 0, .long 0]) (rest := []) ⟨hx, hb, hml, hown, hts⟩ (c_X5_addJudged l D K ad hap0 T 0 0 0 hT (by omega) (jdI (plI I T mt) (T + 11) (lk (plI I T mt) (fil A (T + 10) 6 (-1)) B (T + 10) nv nr 0 mt)) (up2 G T 14 B) (fil A (T + 10) 6 (-1)) L (by rw [jdI_o (by omega), plI_9]; rfl)) (cwV 2 hts gX5_plant_X5_addJudged rfl rfl rfl (by decide +kernel) ⟨Nat.le_of_ble_eq_true rfl, Nat.le_of_ble_eq_true rfl⟩) hK hP hS (by have := (tr_o hT).1; show _ < 378; omega) (tr_o hT).2.1 (by decide) rfl rfl rfl hl.1 (Nat.le_of_ble_eq_true rfl) (Nat.le_of_ble_eq_true rfl) (Nat.le_of_ble_eq_true rfl) dX5_plant_56 (fun u19 H locs hw hP hS => ?_) rfl
  obtain ⟨I20, G21, A22, L23⟩ := u19
  have hP : va_P D vwCl (VW K ad I20 G21 A22 L23) H := hP
  injection hw with h1 h2
  injection h2 with h2 h3
  injection h3 with h3 h4
  rw [h1, h2, h3, h4] at hP
  have hP : va_P D vwCl (VW K ad (up2 (jdI (plI I T mt) (T + 11) (lk (plI I T mt) (fil A (T + 10) 6 (-1)) B (T + 10) nv nr 0 mt)) T 9 (nI 0 + 1)) (up2 G T 14 B) (adA (jdI (plI I T mt) (T + 11) (lk (plI I T mt) (fil A (T + 10) 6 (-1)) B (T + 10) nv nr 0 mt)) (fil A (T + 10) 6 (-1)) T 0 0) (up2 L (T + 1) 0 (plc ((jdI (plI I T mt) (T + 11) (lk (plI I T mt) (fil A (T + 10) 6 (-1)) B (T + 10) nv nr 0 mt)) (T + 11) 2) 0))) H := hP
  clear h1 h2 h3 h4
  refine lv_aload_n hx hb dX5_plant_59 rfl (lv_at hl 0 rfl) ?_
  refine vgS hx hb hts hi5 hown hK hP (T) (by have := (tr_o hT).1; show _ < 378; omega) (tr_o hT).2.1 (C := RX5) (T := TX5) (N := 16) rfl 7 (by decide) (by decide) (by decide) (by decide) (T + 8) rfl (hts (.fieldLink RX5 73 "CrateHelpers$Tree" "isReached" "[Z") (by decide +kernel)) (fun _ h9 => h9) dX5_plant_60 ?_
  refine lv_iconst (v := 0) hx hb dX5_plant_63 (by decide) ?_
  refine lv_iconst (v := 1) hx hb dX5_plant_64 (by decide) ?_
  refine xzast hx hb hK hP hap hS (T + 8) (by have := (tr_o hT).1; show _ < 378; omega) (tr_o hT).2.2.2.2.2.2.2.2.2.1 hz8 dX5_plant_65 (fun H locs hP hS => ?_)
  rw [show (0 : Int32).toNatClampNeg = 0 by decide] at hP
  obtain ⟨A24, eA24⟩ : ∃ z, z = up2 (adA (jdI (plI I T mt) (T + 11) (lk (plI I T mt) (fil A (T + 10) 6 (-1)) B (T + 10) nv nr 0 mt)) (fil A (T + 10) 6 (-1)) T 0 0) (T + 8) 0 (vp_nar .boolean 1) := ⟨_, rfl⟩
  rw [← eA24] at hP
  have hP : va_P D vwCl (VW K ad (up2 (jdI (plI I T mt) (T + 11) (lk (plI I T mt) (fil A (T + 10) 6 (-1)) B (T + 10) nv nr 0 mt)) T 9 (nI 0 + 1)) (up2 G T 14 B) A24 (up2 L (T + 1) 0 (plc ((jdI (plI I T mt) (T + 11) (lk (plI I T mt) (fil A (T + 10) 6 (-1)) B (T + 10) nv nr 0 mt)) (T + 11) 2) 0))) H := hP
  exact W.vret hx hb hr (fun t ht hW => ⟨⟨(up2 (jdI (plI I T mt) (T + 11) (lk (plI I T mt) (fil A (T + 10) 6 (-1)) B (T + 10) nv nr 0 mt)) T 9 (nI 0 + 1), up2 G T 14 B, A24, up2 L (T + 1) 0 (plc ((jdI (plI I T mt) (T + 11) (lk (plI I T mt) (fil A (T + 10) 6 (-1)) B (T + 10) nv nr 0 mt)) (T + 11) 2) 0)), rfl, by rw [eA24], by rw [ht]; exact hP, va_K.moved hW.alike hK⟩, hS.F ht⟩) hS.2.2 dX5_plant_66

/-! part 29.zrows -/
set_option maxRecDepth 20000 in
theorem ggX4_become_J7_fill_53178 : GoodIn wsX4_become wsJ7_fill_53178 := goodIn_g _ [(6, 1)] rfl (by decide +kernel)
set_option maxRecDepth 20000 in
theorem gX4_become_J7_fill_53178 : GoodIn wsX4_become (va_wsS RX4 34 yJ7_fill_53178 wsJ7_fill_53178) := goodIn_app (goodIn_of _ (by decide +kernel)) ggX4_become_J7_fill_53178
theorem dX4_become_0 : decode cX4_become 0 = .ok (.aload_n 0, 1) := by decide +kernel
theorem dX4_become_1 : decode cX4_become 1 = .ok (.iload_n 1, 1) := by decide +kernel
theorem dX4_become_2 : decode cX4_become 2 = .ok (.putfield 9, 3) := by decide +kernel
theorem dX4_become_5 : decode cX4_become 5 = .ok (.aload_n 0, 1) := by decide +kernel
theorem dX4_become_6 : decode cX4_become 6 = .ok (.getfield 18, 3) := by decide +kernel
theorem dX4_become_9 : decode cX4_become 9 = .ok (.iconst 0, 1) := by decide +kernel
theorem dX4_become_10 : decode cX4_become 10 = .ok (.invokestatic 34, 3) := by decide +kernel
theorem dX4_become_13 : decode cX4_become 13 = .ok (.return_, 1) := by decide +kernel
set_option maxRecDepth 20000 in
theorem ggX4_whoHasTurn_J9_floorMod_7cf53 : GoodIn wsX4_whoHasTurn wsJ9_floorMod_7cf53 := goodIn_g _ [(7, 1)] rfl (by decide +kernel)
set_option maxRecDepth 20000 in
theorem gX4_whoHasTurn_J9_floorMod_7cf53 : GoodIn wsX4_whoHasTurn (va_wsS RX4 40 yJ9_floorMod_7cf53 wsJ9_floorMod_7cf53) := goodIn_app (goodIn_of _ (by decide +kernel)) ggX4_whoHasTurn_J9_floorMod_7cf53
theorem dX4_whoHasTurn_0 : decode cX4_whoHasTurn 0 = .ok (.iload_n 1, 1) := by decide +kernel
theorem dX4_whoHasTurn_1 : decode cX4_whoHasTurn 1 = .ok (.ifCond .lt 35, 3) := by decide +kernel
theorem dX4_whoHasTurn_4 : decode cX4_whoHasTurn 4 = .ok (.iload_n 1, 1) := by decide +kernel
theorem dX4_whoHasTurn_5 : decode cX4_whoHasTurn 5 = .ok (.aload_n 0, 1) := by decide +kernel
theorem dX4_whoHasTurn_6 : decode cX4_whoHasTurn 6 = .ok (.getfield 15, 3) := by decide +kernel
theorem dX4_whoHasTurn_9 : decode cX4_whoHasTurn 9 = .ok (.if_icmp .ge 27, 3) := by decide +kernel
theorem dX4_whoHasTurn_12 : decode cX4_whoHasTurn 12 = .ok (.aload_n 0, 1) := by decide +kernel
theorem dX4_whoHasTurn_13 : decode cX4_whoHasTurn 13 = .ok (.getfield 22, 3) := by decide +kernel
theorem dX4_whoHasTurn_16 : decode cX4_whoHasTurn 16 = .ok (.iload_n 1, 1) := by decide +kernel
theorem dX4_whoHasTurn_17 : decode cX4_whoHasTurn 17 = .ok (.iaload, 1) := by decide +kernel
theorem dX4_whoHasTurn_18 : decode cX4_whoHasTurn 18 = .ok (.aload_n 0, 1) := by decide +kernel
theorem dX4_whoHasTurn_19 : decode cX4_whoHasTurn 19 = .ok (.getfield 9, 3) := by decide +kernel
theorem dX4_whoHasTurn_22 : decode cX4_whoHasTurn 22 = .ok (.if_icmp .ge 12, 3) := by decide +kernel
theorem dX4_whoHasTurn_25 : decode cX4_whoHasTurn 25 = .ok (.aload_n 0, 1) := by decide +kernel
theorem dX4_whoHasTurn_26 : decode cX4_whoHasTurn 26 = .ok (.getfield 22, 3) := by decide +kernel
theorem dX4_whoHasTurn_29 : decode cX4_whoHasTurn 29 = .ok (.iload_n 1, 1) := by decide +kernel
theorem dX4_whoHasTurn_30 : decode cX4_whoHasTurn 30 = .ok (.iaload, 1) := by decide +kernel
theorem dX4_whoHasTurn_31 : decode cX4_whoHasTurn 31 = .ok (.goto 4, 3) := by decide +kernel
theorem dX4_whoHasTurn_34 : decode cX4_whoHasTurn 34 = .ok (.iconst 0, 1) := by decide +kernel
theorem dX4_whoHasTurn_35 : decode cX4_whoHasTurn 35 = .ok (.ireturn, 1) := by decide +kernel
theorem dX4_whoHasTurn_36 : decode cX4_whoHasTurn 36 = .ok (.aload_n 0, 1) := by decide +kernel
theorem dX4_whoHasTurn_37 : decode cX4_whoHasTurn 37 = .ok (.getfield 9, 3) := by decide +kernel
theorem dX4_whoHasTurn_40 : decode cX4_whoHasTurn 40 = .ok (.iconst 1, 1) := by decide +kernel
theorem dX4_whoHasTurn_41 : decode cX4_whoHasTurn 41 = .ok (.if_icmp .le 19, 3) := by decide +kernel
theorem dX4_whoHasTurn_44 : decode cX4_whoHasTurn 44 = .ok (.iload_n 1, 1) := by decide +kernel
theorem dX4_whoHasTurn_45 : decode cX4_whoHasTurn 45 = .ok (.aload_n 0, 1) := by decide +kernel
theorem dX4_whoHasTurn_46 : decode cX4_whoHasTurn 46 = .ok (.getfield 15, 3) := by decide +kernel
theorem dX4_whoHasTurn_49 : decode cX4_whoHasTurn 49 = .ok (.isub, 1) := by decide +kernel
theorem dX4_whoHasTurn_50 : decode cX4_whoHasTurn 50 = .ok (.aload_n 0, 1) := by decide +kernel
theorem dX4_whoHasTurn_51 : decode cX4_whoHasTurn 51 = .ok (.getfield 9, 3) := by decide +kernel
theorem dX4_whoHasTurn_54 : decode cX4_whoHasTurn 54 = .ok (.invokestatic 40, 3) := by decide +kernel
theorem dX4_whoHasTurn_57 : decode cX4_whoHasTurn 57 = .ok (.goto 4, 3) := by decide +kernel
theorem dX4_whoHasTurn_60 : decode cX4_whoHasTurn 60 = .ok (.iconst 0, 1) := by decide +kernel
theorem dX4_whoHasTurn_61 : decode cX4_whoHasTurn 61 = .ok (.ireturn, 1) := by decide +kernel
theorem dJ9_floorMod_7cf53_0 : decode cJ9_floorMod_7cf53 0 = .ok (.iload_n 0, 1) := by decide +kernel
theorem dJ9_floorMod_7cf53_1 : decode cJ9_floorMod_7cf53 1 = .ok (.iload_n 1, 1) := by decide +kernel
theorem dJ9_floorMod_7cf53_2 : decode cJ9_floorMod_7cf53 2 = .ok (.irem, 1) := by decide +kernel
theorem dJ9_floorMod_7cf53_3 : decode cJ9_floorMod_7cf53 3 = .ok (.istore_n 2, 1) := by decide +kernel
theorem dJ9_floorMod_7cf53_4 : decode cJ9_floorMod_7cf53 4 = .ok (.iload_n 0, 1) := by decide +kernel
theorem dJ9_floorMod_7cf53_5 : decode cJ9_floorMod_7cf53 5 = .ok (.iload_n 1, 1) := by decide +kernel
theorem dJ9_floorMod_7cf53_6 : decode cJ9_floorMod_7cf53 6 = .ok (.ixor, 1) := by decide +kernel
theorem dJ9_floorMod_7cf53_7 : decode cJ9_floorMod_7cf53 7 = .ok (.ifCond .ge 11, 3) := by decide +kernel
theorem dJ9_floorMod_7cf53_18 : decode cJ9_floorMod_7cf53 18 = .ok (.iload_n 2, 1) := by decide +kernel
theorem dJ9_floorMod_7cf53_19 : decode cJ9_floorMod_7cf53 19 = .ok (.ireturn, 1) := by decide +kernel

/-! part 30.team -/
/-! TEAMS. A team lies in 6 slots from E on: object, failAt, schedule, done, idle, replaced -/
def TeAt (E : Nat) : Prop := E = 2 ∨ E = 8
theorem te_o {E : Nat} (h : TeAt E) : E + 5 < 14 ∧ kd E = 4 ∧ kd (E + 1) = 8 ∧ kd (E + 2) = 8 ∧ kd (E + 3) = 8 ∧ kd (E + 4) = 8 ∧ kd (E + 5) = 8 ∧ ln (E + 1) = 5 ∧ ln (E + 2) = 200 ∧ ln (E + 3) = 5 ∧ ln (E + 4) = 5 ∧ ln (E + 5) = 5 := by
  rcases h with rfl | rfl <;> decide +kernel
theorem ia_f {E : Nat} (h : TeAt E) : IA (E + 1) 5 := ⟨by have := (te_o h).1; show _ < 378; omega, (te_o h).2.2.1, (te_o h).2.2.2.2.2.2.2.1⟩
theorem xor_pos {a b : Nat} (ha : a < 2 ^ 31) (hb : b < 2 ^ 31) : 0 ≤ nI a ^^^ nI b := by
  have e : nI a ^^^ nI b = nI (a ^^^ b) := by
    apply Int32.toBitVec_inj.mp
    apply BitVec.eq_of_toNat_eq
    simp [nI, Int32.toBitVec_ofNat']
  rw [e]
  exact nI_pos' (Nat.xor_lt_two_pow ha hb)

set_option maxHeartbeats 4000000 in
set_option maxRecDepth 100000 in
theorem c_floorMod (l : Launch) (D : va_G) (K : Nat → ClassId) (ad : Nat → Nat) (hap0 : apart ad (fun _ => True)) (a b : Nat) (ha : a < 2 ^ 31) (hb0 : 0 < b) (hb2 : b < 2 ^ 31) (I : Nat → Nat → Int32) (G : Nat → Nat → Nat) (A : Nat → Nat → Int32) (L : Nat → Nat → Int64)  : Ci l D K ad yJ9_floorMod_7cf53 wsJ9_floorMod_7cf53 0 0 [.int (nI a), .int (nI b)] (I, G, A, L) (fun (r : Int32) (u : Mem) => r = nI (a % b) ∧ u = (I, G, A, L)) := by
  intro sz
  refine va_MetF (cc := cJ9_floorMod_7cf53) (maxL := 3) (ret := (some .int)) (by decide +kernel) rfl ?_
  intro p e s m args below meth c s₁ Bd hml hv0
  obtain ⟨rfl, hsz, hP, hK⟩ := hv0
  have hx := Bd.exec
  have hb := Bd.bytes
  have hr := Bd.returns
  have hts := atoms_spec (ws := wsJ9_floorMod_7cf53) Bd.pre
  have hown : s.vm.findClass RJ9 = some m.cls := findClass_of_methodNamed Bd.named
  have hlocks := Bd.notSynchronized
  subst hsz
  have hap := vF_ap hap0 s.heap.size
  have hS : va_S (vF ad s.heap.size) s.heap s.heap [] := va_S.rf
  have hP : va_P D vwCl (VW K ad I G A L) s.heap := hP
  have hl := lv_entry ([.int (nI a), .int (nI b)]) (n := 3) (Nat.le_of_ble_eq_true rfl)
  rw [lg_entry_eq]
  generalize (lg_sl ([.int (nI a), .int (nI b)]) ++ List.replicate (3 - (lg_sl ([.int (nI a), .int (nI b)])).length) Slot.unset).toArray = ls at hl ⊢
  have hl : lv_has ls 3 [(0, .int (nI a)), (1, .int (nI b))] := hl
  refine lv_iload_n hx hb dJ9_floorMod_7cf53_0 rfl (lv_at hl 0 rfl) ?_
  refine lv_iload_n hx hb dJ9_floorMod_7cf53_1 rfl (lv_at hl 1 rfl) ?_
  refine lv_irem hx hb dJ9_floorMod_7cf53_2 (nI_ne0 hb0 hb2) ?_
  rw [pk_rem ha hb0 hb2]
  refine lv_istore_n (lv' := [(2, .int (nI (a % b))), (0, .int (nI a)), (1, .int (nI b))]) hx hb dJ9_floorMod_7cf53_3 rfl hl (by decide) rfl (fun ls hl => ?_)
  refine lv_iload_n hx hb dJ9_floorMod_7cf53_4 rfl (lv_at hl 1 rfl) ?_
  refine lv_iload_n hx hb dJ9_floorMod_7cf53_5 rfl (lv_at hl 2 rfl) ?_
  refine lv_ixor hx hb dJ9_floorMod_7cf53_6 ?_
  refine lv_if_ge (tgt := 18) hx hb dJ9_floorMod_7cf53_7 (by decide) (fun _ => ?_) (fun c9 => absurd (xor_pos ha hb2) c9)
  refine lv_iload_n hx hb dJ9_floorMod_7cf53_18 rfl (lv_at hl 0 rfl) ?_
  exact W.iret (v := (nI (a % b))) hx hb hr (fun t9 ht9 hW9 => ⟨⟨(nI (a % b)), (I, G, A, L), rfl, ⟨rfl, rfl⟩, by rw [ht9]; exact hP, va_K.moved hW9.alike hK⟩, hS.F ht9⟩) hS.2.2 dJ9_floorMod_7cf53_19

set_option maxHeartbeats 4000000 in
set_option maxRecDepth 100000 in
theorem c_X4_become (l : Launch) (D : va_G) (K : Nat → ClassId) (ad : Nat → Nat) (hap0 : apart ad (fun _ => True)) (E : Nat) (hE : TeAt E) (w : Int32) (I : Nat → Nat → Int32) (G : Nat → Nat → Nat) (A : Nat → Nat → Int32) (L : Nat → Nat → Int64)  : Cv l D K ad yX4_become wsX4_become 1 40 [.ref (ad E), .int w] (I, G, A, L) (fun (u : Mem) => u = (up2 I E 0 w, G, fil A (E + 1) 5 0, L)) := by
  intro sz
  refine Met.ofW (cc := cX4_become) (maxL := 2) (ret := none) (by decide) rfl ?_
  intro p e s m args below meth c s₁ Bd hml hv0
  obtain ⟨rfl, hsz, hP, hK⟩ := hv0
  have hx := Bd.exec
  have hb := Bd.bytes
  have hr := Bd.returns
  have hts := atoms_spec (ws := wsX4_become) Bd.pre
  have hown : s.vm.findClass RX4 = some m.cls := findClass_of_methodNamed Bd.named
  have hlocks := Bd.notSynchronized
  have hi4 : ∀ w ∈ u_ws RX4 TX4 7, w ∈ wsX4_become := fun w h => List.mem_cons_of_mem _ (List.mem_append_right _ h)
  subst hsz
  have hap := vF_ap hap0 s.heap.size
  have hS : va_S (vF ad s.heap.size) s.heap s.heap [] := va_S.rf
  have hP : va_P D vwCl (VW K ad I G A L) s.heap := hP
  have hl := lv_entry ([.ref (ad E), .int w]) (n := 2) (Nat.le_of_ble_eq_true rfl)
  rw [lg_entry_eq]
  generalize (lg_sl ([.ref (ad E), .int w]) ++ List.replicate (2 - (lg_sl ([.ref (ad E), .int w])).length) Slot.unset).toArray = ls at hl ⊢
  have hl : lv_has ls 2 [(0, .ref (ad E)), (1, .int w)] := hl
  refine lv_aload_n hx hb dX4_become_0 rfl (lv_at hl 0 rfl) ?_
  refine lv_iload_n hx hb dX4_become_1 rfl (lv_at hl 1 rfl) ?_
  refine vpI (v := w) (ty := .int) hx hb hts hi4 tyX4 tyX4_ok nmX4 hown hK hP hap hS (E) (by have := (te_o hE).1; show _ < 378; omega) (te_o hE).2.1 (C := RX4) (T := TX4) (N := 7) rfl 0 (by decide) (by decide) (by decide) (by decide) (hts (.fieldLink RX4 9 "CrateHelpers$Team" "size" "I") (by decide +kernel)) (fun _ h9 => h9) rfl (by decide +kernel) rfl rfl dX4_become_2 (fun H locs hP hS => ?_)
  obtain ⟨I1, eI1⟩ : ∃ z, z = up2 I E 0 w := ⟨_, rfl⟩
  rw [← eI1] at hP
  have hP : va_P D vwCl (VW K ad I1 G A L) H := hP
  refine lv_aload_n hx hb dX4_become_5 rfl (lv_at hl 0 rfl) ?_
  refine vgS hx hb hts hi4 hown hK hP (E) (by have := (te_o hE).1; show _ < 378; omega) (te_o hE).2.1 (C := RX4) (T := TX4) (N := 7) rfl 2 (by decide) (by decide) (by decide) (by decide) (E + 1) rfl (hts (.fieldLink RX4 18 "CrateHelpers$Team" "failAt" "[I") (by decide +kernel)) (fun _ h9 => h9) dX4_become_6 ?_
  refine lv_iconst (v := 0) hx hb dX4_become_9 (by decide) ?_
  refine vcSv (As := [.ref (ad (E + 1)), .int 0]) (rest := []) ⟨hx, hb, hml, hown, hts⟩ (c_fill l D K ad hap0 (E + 1) 5 0 (ia_f hE) (by decide) I1 G A L) (va_cwS 2 hts gX4_become_J7_fill_53178 rfl rfl rfl (by decide +kernel) ⟨Nat.le_of_ble_eq_true rfl, Nat.le_of_ble_eq_true rfl⟩) hK hP hS rfl hl.1 (Nat.le_of_ble_eq_true rfl) (Nat.le_of_ble_eq_true rfl) (Nat.le_of_ble_eq_true rfl) dX4_become_10 (fun u3 H locs hw hP hS => ?_) rfl
  obtain ⟨I4, G5, A6, L7⟩ := u3
  have hP : va_P D vwCl (VW K ad I4 G5 A6 L7) H := hP
  exact W.vret hx hb hr (fun t9 ht9 hW9 => ⟨⟨(I4, G5, A6, L7), rfl, by rw [hw, eI1], by rw [ht9]; exact hP, va_K.moved hW9.alike hK⟩, hS.F ht9⟩) hS.2.2 dX4_become_13

set_option maxHeartbeats 4000000 in
set_option maxRecDepth 100000 in
theorem c_X4_whoHasTurn (l : Launch) (D : va_G) (K : Nat → ClassId) (ad : Nat → Nat) (hap0 : apart ad (fun _ => True)) (E : Nat) (hE : TeAt E) (t k z : Nat) (ht : t < 2 ^ 30) (hk : k ≤ 200) (hz1 : 1 ≤ z) (hz5 : z ≤ 5) (I : Nat → Nat → Int32) (G : Nat → Nat → Nat) (A : Nat → Nat → Int32) (L : Nat → Nat → Int64) (hz0 : I E 0 = nI z) (hk0 : I E 1 = nI k) : Ci l D K ad yX4_whoHasTurn wsX4_whoHasTurn 1 40 [.ref (ad E), .int (nI t)] (I, G, A, L) (fun (r : Int32) (u : Mem) => r = (if t < k then (if A (E + 2) t < nI z then A (E + 2) t else 0) else nI ((t - k) % z)) ∧ u = (I, G, A, L)) := by
  intro sz
  refine Met.ofW (cc := cX4_whoHasTurn) (maxL := 2) (ret := (some .int)) (by decide) rfl ?_
  intro p e s m args below meth c s₁ Bd hml hv0
  obtain ⟨rfl, hsz, hP, hK⟩ := hv0
  have hx := Bd.exec
  have hb := Bd.bytes
  have hr := Bd.returns
  have hts := atoms_spec (ws := wsX4_whoHasTurn) Bd.pre
  have hown : s.vm.findClass RX4 = some m.cls := findClass_of_methodNamed Bd.named
  have hlocks := Bd.notSynchronized
  have hi4 : ∀ w ∈ u_ws RX4 TX4 7, w ∈ wsX4_whoHasTurn := fun w h => List.mem_cons_of_mem _ (List.mem_append_right _ h)
  subst hsz
  have hap := vF_ap hap0 s.heap.size
  have hS : va_S (vF ad s.heap.size) s.heap s.heap [] := va_S.rf
  have hP : va_P D vwCl (VW K ad I G A L) s.heap := hP
  have hl := lv_entry ([.ref (ad E), .int (nI t)]) (n := 2) (Nat.le_of_ble_eq_true rfl)
  rw [lg_entry_eq]
  generalize (lg_sl ([.ref (ad E), .int (nI t)]) ++ List.replicate (2 - (lg_sl ([.ref (ad E), .int (nI t)])).length) Slot.unset).toArray = ls at hl ⊢
  have hl : lv_has ls 2 [(0, .ref (ad E)), (1, .int (nI t))] := hl
  refine lv_iload_n hx hb dX4_whoHasTurn_0 rfl (lv_at hl 1 rfl) ?_
  refine lv_if_lt (tgt := 36) hx hb dX4_whoHasTurn_1 (by decide) (fun c9 => absurd c9 (nI_pos (by omega))) (fun _ => ?_)
  refine lv_iload_n hx hb dX4_whoHasTurn_4 rfl (lv_at hl 1 rfl) ?_
  refine lv_aload_n hx hb dX4_whoHasTurn_5 rfl (lv_at hl 0 rfl) ?_
  refine vgI hx hb hts hi4 hown hK hP (E) (by have := (te_o hE).1; show _ < 378; omega) (te_o hE).2.1 (C := RX4) (T := TX4) (N := 7) rfl 1 (by decide) (by decide) (by decide) (by decide) (hts (.fieldLink RX4 15 "CrateHelpers$Team" "scheduled" "I") (by decide +kernel)) (fun _ h9 => h9) dX4_whoHasTurn_6 ?_
  rw [hk0]
  refine lv_icmp_ge (tgt := 36) hx hb dX4_whoHasTurn_9 (by decide) (fun c_1 => ?_) (fun c_1 => ?_)
  · have hkt : k ≤ t := (nI_leI (by omega) (by omega)).mp c_1
    refine lv_aload_n hx hb dX4_whoHasTurn_36 rfl (lv_at hl 0 rfl) ?_
    refine vgI hx hb hts hi4 hown hK hP (E) (by have := (te_o hE).1; show _ < 378; omega) (te_o hE).2.1 (C := RX4) (T := TX4) (N := 7) rfl 0 (by decide) (by decide) (by decide) (by decide) (hts (.fieldLink RX4 9 "CrateHelpers$Team" "size" "I") (by decide +kernel)) (fun _ h9 => h9) dX4_whoHasTurn_37 ?_
    rw [hz0]
    refine lv_iconst (v := 1) hx hb dX4_whoHasTurn_40 (by decide) ?_
    refine lv_icmp_le (tgt := 60) hx hb dX4_whoHasTurn_41 (by decide) (fun c_2 => ?_) (fun c_2 => ?_)
    · have hz9 : z ≤ 1 := (nI_leI (b := 1) (by omega) (by omega)).mp c_2
      refine lv_iconst (v := 0) hx hb dX4_whoHasTurn_60 (by decide) ?_
      exact W.iret (v := 0) hx hb hr (fun t9 ht9 hW9 => ⟨⟨0, (I, G, A, L), rfl, ⟨by rw [if_neg (by omega), show z = 1 by omega, Nat.mod_one]; rfl, rfl⟩, by rw [ht9]; exact hP, va_K.moved hW9.alike hK⟩, hS.F ht9⟩) hS.2.2 dX4_whoHasTurn_61
    · refine lv_iload_n hx hb dX4_whoHasTurn_44 rfl (lv_at hl 1 rfl) ?_
      refine lv_aload_n hx hb dX4_whoHasTurn_45 rfl (lv_at hl 0 rfl) ?_
      refine vgI hx hb hts hi4 hown hK hP (E) (by have := (te_o hE).1; show _ < 378; omega) (te_o hE).2.1 (C := RX4) (T := TX4) (N := 7) rfl 1 (by decide) (by decide) (by decide) (by decide) (hts (.fieldLink RX4 15 "CrateHelpers$Team" "scheduled" "I") (by decide +kernel)) (fun _ h9 => h9) dX4_whoHasTurn_46 ?_
      rw [hk0]
      refine lv_isub hx hb dX4_whoHasTurn_49 ?_
      rw [pk_sub hkt]
      refine lv_aload_n hx hb dX4_whoHasTurn_50 rfl (lv_at hl 0 rfl) ?_
      refine vgI hx hb hts hi4 hown hK hP (E) (by have := (te_o hE).1; show _ < 378; omega) (te_o hE).2.1 (C := RX4) (T := TX4) (N := 7) rfl 0 (by decide) (by decide) (by decide) (by decide) (hts (.fieldLink RX4 9 "CrateHelpers$Team" "size" "I") (by decide +kernel)) (fun _ h9 => h9) dX4_whoHasTurn_51 ?_
      rw [hz0]
      refine vcS (As := [.int (nI (t - k)), .int (nI z)]) (rest := []) ⟨hx, hb, hml, hown, hts⟩ (c_floorMod l D K ad hap0 (t - k) z (by omega) (by omega) (by omega) I G A L) (va_cwS 2 hts gX4_whoHasTurn_J9_floorMod_7cf53 rfl rfl rfl (by decide +kernel) ⟨Nat.le_of_ble_eq_true rfl, Nat.le_of_ble_eq_true rfl⟩) hK hP hS rfl hl.1 (Nat.le_of_ble_eq_true rfl) (Nat.le_of_ble_eq_true rfl) (Nat.le_of_ble_eq_true rfl) dX4_whoHasTurn_54 (fun r3 u4 H locs hw hP hS => ?_) rfl
      obtain ⟨hr3, rfl⟩ := hw
      have hP : va_P D vwCl (VW K ad I G A L) H := hP
      subst hr3
      refine lv_goto (tgt := 61) hx hb dX4_whoHasTurn_57 (by decide) ?_
      exact W.iret (v := (nI ((t - k) % z))) hx hb hr (fun t9 ht9 hW9 => ⟨⟨(nI ((t - k) % z)), (I, G, A, L), rfl, ⟨by rw [if_neg (by omega)], rfl⟩, by rw [ht9]; exact hP, va_K.moved hW9.alike hK⟩, hS.F ht9⟩) hS.2.2 dX4_whoHasTurn_61
  · have hkt : t < k := by { rcases Nat.lt_or_ge t k with h | h; exact h; exact absurd (nI_le h (by omega)) c_1 }
    have hit : vp_in (nI t) (ln (E + 2)) := by rw [(te_o hE).2.2.2.2.2.2.2.2.1]; exact vp_in_nI (by omega) (by omega)
    refine lv_aload_n hx hb dX4_whoHasTurn_12 rfl (lv_at hl 0 rfl) ?_
    refine vgS hx hb hts hi4 hown hK hP (E) (by have := (te_o hE).1; show _ < 378; omega) (te_o hE).2.1 (C := RX4) (T := TX4) (N := 7) rfl 3 (by decide) (by decide) (by decide) (by decide) (E + 2) rfl (hts (.fieldLink RX4 22 "CrateHelpers$Team" "schedule" "[I") (by decide +kernel)) (fun _ h9 => h9) dX4_whoHasTurn_13 ?_
    refine lv_iload_n hx hb dX4_whoHasTurn_16 rfl (lv_at hl 1 rfl) ?_
    refine xiald hx hb hK hP (E + 2) (by have := (te_o hE).1; show _ < 378; omega) (te_o hE).2.2.2.1 hit dX4_whoHasTurn_17 ?_
    rw [nI_clamp (n := t) (by omega)]
    refine lv_aload_n hx hb dX4_whoHasTurn_18 rfl (lv_at hl 0 rfl) ?_
    refine vgI hx hb hts hi4 hown hK hP (E) (by have := (te_o hE).1; show _ < 378; omega) (te_o hE).2.1 (C := RX4) (T := TX4) (N := 7) rfl 0 (by decide) (by decide) (by decide) (by decide) (hts (.fieldLink RX4 9 "CrateHelpers$Team" "size" "I") (by decide +kernel)) (fun _ h9 => h9) dX4_whoHasTurn_19 ?_
    rw [hz0]
    refine lv_icmp_ge (tgt := 34) hx hb dX4_whoHasTurn_22 (by decide) (fun c_5 => ?_) (fun c_5 => ?_)
    · refine lv_iconst (v := 0) hx hb dX4_whoHasTurn_34 (by decide) ?_
      exact W.iret (v := 0) hx hb hr (fun t9 ht9 hW9 => ⟨⟨0, (I, G, A, L), rfl, ⟨by rw [if_pos hkt, if_neg (Int32.not_lt.mpr c_5)], rfl⟩, by rw [ht9]; exact hP, va_K.moved hW9.alike hK⟩, hS.F ht9⟩) hS.2.2 dX4_whoHasTurn_35
    · refine lv_aload_n hx hb dX4_whoHasTurn_25 rfl (lv_at hl 0 rfl) ?_
      refine vgS hx hb hts hi4 hown hK hP (E) (by have := (te_o hE).1; show _ < 378; omega) (te_o hE).2.1 (C := RX4) (T := TX4) (N := 7) rfl 3 (by decide) (by decide) (by decide) (by decide) (E + 2) rfl (hts (.fieldLink RX4 22 "CrateHelpers$Team" "schedule" "[I") (by decide +kernel)) (fun _ h9 => h9) dX4_whoHasTurn_26 ?_
      refine lv_iload_n hx hb dX4_whoHasTurn_29 rfl (lv_at hl 1 rfl) ?_
      refine xiald hx hb hK hP (E + 2) (by have := (te_o hE).1; show _ < 378; omega) (te_o hE).2.2.2.1 hit dX4_whoHasTurn_30 ?_
      rw [nI_clamp (n := t) (by omega)]
      refine lv_goto (tgt := 35) hx hb dX4_whoHasTurn_31 (by decide) ?_
      exact W.iret (v := (A (E + 2) t)) hx hb hr (fun t9 ht9 hW9 => ⟨⟨(A (E + 2) t), (I, G, A, L), rfl, ⟨by rw [if_pos hkt, if_pos (Int32.not_le.mp c_5)], rfl⟩, by rw [ht9]; exact hP, va_K.moved hW9.alike hK⟩, hS.F ht9⟩) hS.2.2 dX4_whoHasTurn_35

/-! part 30.zrows -/
set_option maxRecDepth 20000 in
theorem ggX3_pick_X5_nextFree : GoodIn wsX3_pick wsX5_nextFree := goodIn_g _ [(13, 5), (24, 16)] rfl (by decide +kernel)
set_option maxRecDepth 20000 in
theorem gX3_pick_X5_nextFree : GoodIn wsX3_pick (wsV RX3 84 RX5 yX5_nextFree wsX5_nextFree) := goodIn_app (goodIn_of _ (by decide +kernel)) ggX3_pick_X5_nextFree
theorem dX3_pick_0 : decode cX3_pick 0 = .ok (.aload_n 0, 1) := by decide +kernel
theorem dX3_pick_1 : decode cX3_pick 1 = .ok (.getfield 30, 3) := by decide +kernel
theorem dX3_pick_4 : decode cX3_pick 4 = .ok (.getfield 79, 3) := by decide +kernel
theorem dX3_pick_7 : decode cX3_pick 7 = .ok (.aload_n 0, 1) := by decide +kernel
theorem dX3_pick_8 : decode cX3_pick 8 = .ok (.getfield 30, 3) := by decide +kernel
theorem dX3_pick_11 : decode cX3_pick 11 = .ok (.getfield 81, 3) := by decide +kernel
theorem dX3_pick_14 : decode cX3_pick 14 = .ok (.isub, 1) := by decide +kernel
theorem dX3_pick_15 : decode cX3_pick 15 = .ok (.bipush 30, 2) := by decide +kernel
theorem dX3_pick_17 : decode cX3_pick 17 = .ok (.if_icmp .lt 7, 3) := by decide +kernel
theorem dX3_pick_20 : decode cX3_pick 20 = .ok (.iconst 1, 1) := by decide +kernel
theorem dX3_pick_21 : decode cX3_pick 21 = .ok (.goto 4, 3) := by decide +kernel
theorem dX3_pick_24 : decode cX3_pick 24 = .ok (.iconst 0, 1) := by decide +kernel
theorem dX3_pick_25 : decode cX3_pick 25 = .ok (.istore_n 2, 1) := by decide +kernel
theorem dX3_pick_26 : decode cX3_pick 26 = .ok (.iload_n 2, 1) := by decide +kernel
theorem dX3_pick_27 : decode cX3_pick 27 = .ok (.ifCond .eq 7, 3) := by decide +kernel
theorem dX3_pick_30 : decode cX3_pick 30 = .ok (.iconst (-1), 1) := by decide +kernel
theorem dX3_pick_31 : decode cX3_pick 31 = .ok (.goto 10, 3) := by decide +kernel
theorem dX3_pick_34 : decode cX3_pick 34 = .ok (.aload_n 0, 1) := by decide +kernel
theorem dX3_pick_35 : decode cX3_pick 35 = .ok (.getfield 30, 3) := by decide +kernel
theorem dX3_pick_38 : decode cX3_pick 38 = .ok (.invokevirtual 84, 3) := by decide +kernel
theorem dX3_pick_41 : decode cX3_pick 41 = .ok (.istore_n 3, 1) := by decide +kernel
theorem dX3_pick_42 : decode cX3_pick 42 = .ok (.iload_n 3, 1) := by decide +kernel
theorem dX3_pick_43 : decode cX3_pick 43 = .ok (.iconst (-1), 1) := by decide +kernel
theorem dX3_pick_44 : decode cX3_pick 44 = .ok (.if_icmp .ne 17, 3) := by decide +kernel
theorem dX3_pick_47 : decode cX3_pick 47 = .ok (.aload_n 0, 1) := by decide +kernel
theorem dX3_pick_48 : decode cX3_pick 48 = .ok (.getfield 34, 3) := by decide +kernel
theorem dX3_pick_51 : decode cX3_pick 51 = .ok (.getfield 87, 3) := by decide +kernel
theorem dX3_pick_54 : decode cX3_pick 54 = .ok (.iload_n 1, 1) := by decide +kernel
theorem dX3_pick_55 : decode cX3_pick 55 = .ok (.dup2, 1) := by decide +kernel
theorem dX3_pick_56 : decode cX3_pick 56 = .ok (.iaload, 1) := by decide +kernel
theorem dX3_pick_57 : decode cX3_pick 57 = .ok (.iconst 1, 1) := by decide +kernel
theorem dX3_pick_58 : decode cX3_pick 58 = .ok (.iadd, 1) := by decide +kernel
theorem dX3_pick_59 : decode cX3_pick 59 = .ok (.iastore, 1) := by decide +kernel
theorem dX3_pick_60 : decode cX3_pick 60 = .ok (.return_, 1) := by decide +kernel
theorem dX3_pick_61 : decode cX3_pick 61 = .ok (.aload_n 0, 1) := by decide +kernel
theorem dX3_pick_62 : decode cX3_pick 62 = .ok (.getfield 30, 3) := by decide +kernel
theorem dX3_pick_65 : decode cX3_pick 65 = .ok (.getfield 90, 3) := by decide +kernel
theorem dX3_pick_68 : decode cX3_pick 68 = .ok (.iload_n 3, 1) := by decide +kernel
theorem dX3_pick_69 : decode cX3_pick 69 = .ok (.iconst 1, 1) := by decide +kernel
theorem dX3_pick_70 : decode cX3_pick 70 = .ok (.bastore, 1) := by decide +kernel
theorem dX3_pick_71 : decode cX3_pick 71 = .ok (.aload_n 0, 1) := by decide +kernel
theorem dX3_pick_72 : decode cX3_pick 72 = .ok (.getfield 18, 3) := by decide +kernel
theorem dX3_pick_75 : decode cX3_pick 75 = .ok (.iload_n 1, 1) := by decide +kernel
theorem dX3_pick_76 : decode cX3_pick 76 = .ok (.iload_n 3, 1) := by decide +kernel
theorem dX3_pick_77 : decode cX3_pick 77 = .ok (.iastore, 1) := by decide +kernel
theorem dX3_pick_78 : decode cX3_pick 78 = .ok (.aload_n 0, 1) := by decide +kernel
theorem dX3_pick_79 : decode cX3_pick 79 = .ok (.getfield 22, 3) := by decide +kernel
theorem dX3_pick_82 : decode cX3_pick 82 = .ok (.iload_n 1, 1) := by decide +kernel
theorem dX3_pick_83 : decode cX3_pick 83 = .ok (.dup2, 1) := by decide +kernel
theorem dX3_pick_84 : decode cX3_pick 84 = .ok (.iaload, 1) := by decide +kernel
theorem dX3_pick_85 : decode cX3_pick 85 = .ok (.iconst 1, 1) := by decide +kernel
theorem dX3_pick_86 : decode cX3_pick 86 = .ok (.iadd, 1) := by decide +kernel
theorem dX3_pick_87 : decode cX3_pick 87 = .ok (.iastore, 1) := by decide +kernel
theorem dX3_pick_88 : decode cX3_pick 88 = .ok (.return_, 1) := by decide +kernel
theorem dX3_replace_0 : decode cX3_replace 0 = .ok (.aload_n 0, 1) := by decide +kernel
theorem dX3_replace_1 : decode cX3_replace 1 = .ok (.getfield 30, 3) := by decide +kernel
theorem dX3_replace_4 : decode cX3_replace 4 = .ok (.getfield 90, 3) := by decide +kernel
theorem dX3_replace_7 : decode cX3_replace 7 = .ok (.aload_n 0, 1) := by decide +kernel
theorem dX3_replace_8 : decode cX3_replace 8 = .ok (.getfield 18, 3) := by decide +kernel
theorem dX3_replace_11 : decode cX3_replace 11 = .ok (.iload_n 1, 1) := by decide +kernel
theorem dX3_replace_12 : decode cX3_replace 12 = .ok (.iaload, 1) := by decide +kernel
theorem dX3_replace_13 : decode cX3_replace 13 = .ok (.iconst 0, 1) := by decide +kernel
theorem dX3_replace_14 : decode cX3_replace 14 = .ok (.bastore, 1) := by decide +kernel
theorem dX3_replace_15 : decode cX3_replace 15 = .ok (.aload_n 0, 1) := by decide +kernel
theorem dX3_replace_16 : decode cX3_replace 16 = .ok (.getfield 18, 3) := by decide +kernel
theorem dX3_replace_19 : decode cX3_replace 19 = .ok (.iload_n 1, 1) := by decide +kernel
theorem dX3_replace_20 : decode cX3_replace 20 = .ok (.iconst (-1), 1) := by decide +kernel
theorem dX3_replace_21 : decode cX3_replace 21 = .ok (.iastore, 1) := by decide +kernel
theorem dX3_replace_22 : decode cX3_replace 22 = .ok (.aload_n 0, 1) := by decide +kernel
theorem dX3_replace_23 : decode cX3_replace 23 = .ok (.getfield 34, 3) := by decide +kernel
theorem dX3_replace_26 : decode cX3_replace 26 = .ok (.getfield 93, 3) := by decide +kernel
theorem dX3_replace_29 : decode cX3_replace 29 = .ok (.iload_n 1, 1) := by decide +kernel
theorem dX3_replace_30 : decode cX3_replace 30 = .ok (.dup2, 1) := by decide +kernel
theorem dX3_replace_31 : decode cX3_replace 31 = .ok (.iaload, 1) := by decide +kernel
theorem dX3_replace_32 : decode cX3_replace 32 = .ok (.iconst 1, 1) := by decide +kernel
theorem dX3_replace_33 : decode cX3_replace 33 = .ok (.iadd, 1) := by decide +kernel
theorem dX3_replace_34 : decode cX3_replace 34 = .ok (.iastore, 1) := by decide +kernel
theorem dX3_replace_35 : decode cX3_replace 35 = .ok (.return_, 1) := by decide +kernel

/-! part 31.solv -/
set_option maxHeartbeats 4000000 in
set_option maxRecDepth 100000 in
theorem c_X3_replace (l : Launch) (D : va_G) (K : Nat → ClassId) (ad : Nat → Nat) (hap0 : apart ad (fun _ => True)) (T E x : Nat) (hT : TrAt T) (hE : TeAt E) (hx5 : x < 5) (d : Nat) (hd : d < lT T) (I : Nat → Nat → Int32) (G : Nat → Nat → Nat) (A : Nat → Nat → Int32) (L : Nat → Nat → Int64) (hgT : G 14 0 = T) (hgE : G 14 1 = E) (hho : A 15 x = nI d) : Cv l D K ad yX3_replace wsX3_replace 0 0 [.ref (ad 14), .int (nI x)] (I, G, A, L) (fun (u : Mem) => u = (I, G, up2 (up2 (up2 A (T + 5) d (vp_nar .byte 0)) 15 x (-1)) (E + 5) x (A (E + 5) x + 1), L)) := by
  intro sz
  refine Met.ofW (cc := cX3_replace) (maxL := 2) (ret := none) (by decide) rfl ?_
  intro p e s m args below meth c s₁ Bd hml hv0
  obtain ⟨rfl, hsz, hP, hK⟩ := hv0
  have hx := Bd.exec
  have hb := Bd.bytes
  have hr := Bd.returns
  have hts := atoms_spec (ws := wsX3_replace) Bd.pre
  have hown : s.vm.findClass RX3 = some m.cls := findClass_of_methodNamed Bd.named
  have hlocks := Bd.notSynchronized
  have hi3 : ∀ w ∈ u_ws RX3 TX3 6, w ∈ wsX3_replace := fun w h => List.mem_cons_of_mem _ (List.mem_append_left _ (List.mem_append_left _ (List.mem_append_right _ h)))
  have hi5 : ∀ w ∈ u_ws RX5 TX5 16, w ∈ wsX3_replace := fun w h => List.mem_cons_of_mem _ (List.mem_append_left _ (List.mem_append_right _ h))
  have hi4 : ∀ w ∈ u_ws RX4 TX4 7, w ∈ wsX3_replace := fun w h => List.mem_cons_of_mem _ (List.mem_append_right _ h)
  subst hsz
  have hap := vF_ap hap0 s.heap.size
  have hS : va_S (vF ad s.heap.size) s.heap s.heap [] := va_S.rf
  have hP : va_P D vwCl (VW K ad I G A L) s.heap := hP
  have hl := lv_entry ([.ref (ad 14), .int (nI x)]) (n := 2) (Nat.le_of_ble_eq_true rfl)
  rw [lg_entry_eq]
  generalize (lg_sl ([.ref (ad 14), .int (nI x)]) ++ List.replicate (2 - (lg_sl ([.ref (ad 14), .int (nI x)])).length) Slot.unset).toArray = ls at hl ⊢
  have hl : lv_has ls 2 [(0, .ref (ad 14)), (1, .int (nI x))] := hl
  have hl1 := (tr_l hT).2.2.2.2.2.2.2.2.2.2
  have hT11 := (tr_o hT).1
  have hT22 : 22 ≤ T := by rcases hT with h | h | h <;> omega
  have hE14 := (te_o hE).1
  have hx15 : vp_in (nI x) (ln 15) := by rw [show ln 15 = 5 by decide]; exact vp_in_nI hx5 (by decide)
  have hx16 : vp_in (nI x) (ln 16) := by rw [show ln 16 = 5 by decide]; exact vp_in_nI hx5 (by decide)
  have hxe1 : vp_in (nI x) (ln (E + 1)) := by rw [(te_o hE).2.2.2.2.2.2.2.1]; exact vp_in_nI hx5 (by decide)
  have hxe3 : vp_in (nI x) (ln (E + 3)) := by rw [(te_o hE).2.2.2.2.2.2.2.2.2.1]; exact vp_in_nI hx5 (by decide)
  have hxe4 : vp_in (nI x) (ln (E + 4)) := by rw [(te_o hE).2.2.2.2.2.2.2.2.2.2.1]; exact vp_in_nI hx5 (by decide)
  have hxe5 : vp_in (nI x) (ln (E + 5)) := by rw [(te_o hE).2.2.2.2.2.2.2.2.2.2.2]; exact vp_in_nI hx5 (by decide)
  have hi1d : vp_in (nI d) (ln (T + 1)) := by rw [(tr_l hT).1]; exact vp_in_nI hd (by omega)
  have hi2d : vp_in (nI d) (ln (T + 2)) := by rw [(tr_l hT).2.1]; exact vp_in_nI hd (by omega)
  have hi3d : vp_in (nI d) (ln (T + 3)) := by rw [(tr_l hT).2.2.1]; exact vp_in_nI hd (by omega)
  have hi4d : vp_in (nI d) (ln (T + 4)) := by rw [(tr_l hT).2.2.2.1]; exact vp_in_nI hd (by omega)
  have hi5d : vp_in (nI d) (ln (T + 5)) := by rw [(tr_l hT).2.2.2.2.1]; exact vp_in_nI hd (by omega)
  have hi6d : vp_in (nI d) (ln (T + 6)) := by rw [(tr_l hT).2.2.2.2.2.1]; exact vp_in_nI hd (by omega)
  have hi7d : vp_in (nI d) (ln (T + 7)) := by rw [(tr_l hT).2.2.2.2.2.2.1]; exact vp_in_nI hd (by omega)
  have hi8d : vp_in (nI d) (ln (T + 8)) := by rw [(tr_l hT).2.2.2.2.2.2.2.1]; exact vp_in_nI hd (by omega)
  refine lv_aload_n hx hb dX3_replace_0 rfl (lv_at hl 0 rfl) ?_
  refine vgG hx hb hts hi3 hown hK hP (14) (by decide) (show kd 14 = 3 by decide) (C := RX3) (T := TX3) (N := 6) rfl 0 (by decide) (by decide) (by decide) (by decide) (hts (.fieldLink RX3 30 "CrateHelpers$Solving" "tree" "LCrateHelpers$Tree;") (by decide +kernel)) (fun _ h9 => h9) dX3_replace_1 ?_
  rw [hgT]
  refine vgS hx hb hts hi5 hown hK hP (T) (by have := (tr_o hT).1; show _ < 378; omega) (tr_o hT).2.1 (C := RX5) (T := TX5) (N := 16) rfl 4 (by decide) (by decide) (by decide) (by decide) (T + 5) rfl (hts (.fieldLink RX3 90 "CrateHelpers$Tree" "stage" "[B") (by decide +kernel)) (fun _ h9 => h9) dX3_replace_4 ?_
  refine lv_aload_n hx hb dX3_replace_7 rfl (lv_at hl 0 rfl) ?_
  refine vgS hx hb hts hi3 hown hK hP (14) (by decide) (show kd 14 = 3 by decide) (C := RX3) (T := TX3) (N := 6) rfl 4 (by decide) (by decide) (by decide) (by decide) (15) rfl (hts (.fieldLink RX3 18 "CrateHelpers$Solving" "holds" "[I") (by decide +kernel)) (fun _ h9 => h9) dX3_replace_8 ?_
  refine lv_iload_n hx hb dX3_replace_11 rfl (lv_at hl 1 rfl) ?_
  refine xiald hx hb hK hP (15) (by decide) (show kd 15 = 8 by decide) hx15 dX3_replace_12 ?_
  rw [nI_clamp (n := x) (by omega)]
  rw [hho]
  refine lv_iconst (v := 0) hx hb dX3_replace_13 (by decide) ?_
  refine xbast hx hb hK hP hap hS (T + 5) (by have := (tr_o hT).1; show _ < 378; omega) (tr_o hT).2.2.2.2.2.2.1 hi5d dX3_replace_14 (fun H locs hP hS => ?_)
  rw [nI_clamp (n := d) (by omega)] at hP
  obtain ⟨A1, eA1⟩ : ∃ z, z = up2 A (T + 5) d (vp_nar .byte 0) := ⟨_, rfl⟩
  rw [← eA1] at hP
  have hP : va_P D vwCl (VW K ad I G A1 L) H := hP
  refine lv_aload_n hx hb dX3_replace_15 rfl (lv_at hl 0 rfl) ?_
  refine vgS hx hb hts hi3 hown hK hP (14) (by decide) (show kd 14 = 3 by decide) (C := RX3) (T := TX3) (N := 6) rfl 4 (by decide) (by decide) (by decide) (by decide) (15) rfl (hts (.fieldLink RX3 18 "CrateHelpers$Solving" "holds" "[I") (by decide +kernel)) (fun _ h9 => h9) dX3_replace_16 ?_
  refine lv_iload_n hx hb dX3_replace_19 rfl (lv_at hl 1 rfl) ?_
  refine lv_iconst (v := (-1)) hx hb dX3_replace_20 (by decide) ?_
  refine xiast hx hb hK hP hap hS (15) (by decide) (show kd 15 = 8 by decide) hx15 dX3_replace_21 (fun H locs hP hS => ?_)
  rw [nI_clamp (n := x) (by omega)] at hP
  obtain ⟨A2, eA2⟩ : ∃ z, z = up2 A1 15 x ((-1)) := ⟨_, rfl⟩
  rw [← eA2] at hP
  have hP : va_P D vwCl (VW K ad I G A2 L) H := hP
  refine lv_aload_n hx hb dX3_replace_22 rfl (lv_at hl 0 rfl) ?_
  refine vgG hx hb hts hi3 hown hK hP (14) (by decide) (show kd 14 = 3 by decide) (C := RX3) (T := TX3) (N := 6) rfl 1 (by decide) (by decide) (by decide) (by decide) (hts (.fieldLink RX3 34 "CrateHelpers$Solving" "team" "LCrateHelpers$Team;") (by decide +kernel)) (fun _ h9 => h9) dX3_replace_23 ?_
  rw [hgE]
  refine vgS hx hb hts hi4 hown hK hP (E) (by have := (te_o hE).1; show _ < 378; omega) (te_o hE).2.1 (C := RX4) (T := TX4) (N := 7) rfl 6 (by decide) (by decide) (by decide) (by decide) (E + 5) rfl (hts (.fieldLink RX3 93 "CrateHelpers$Team" "replaced" "[I") (by decide +kernel)) (fun _ h9 => h9) dX3_replace_26 ?_
  refine lv_iload_n hx hb dX3_replace_29 rfl (lv_at hl 1 rfl) ?_
  refine lv_dup2_11 hx hb dX3_replace_30 rfl rfl ?_
  refine xiald hx hb hK hP (E + 5) (by have := (te_o hE).1; show _ < 378; omega) (te_o hE).2.2.2.2.2.2.1 hxe5 dX3_replace_31 ?_
  rw [nI_clamp (n := x) (by omega)]
  refine lv_iconst (v := 1) hx hb dX3_replace_32 (by decide) ?_
  refine lv_iadd hx hb dX3_replace_33 ?_
  refine xiast hx hb hK hP hap hS (E + 5) (by have := (te_o hE).1; show _ < 378; omega) (te_o hE).2.2.2.2.2.2.1 hxe5 dX3_replace_34 (fun H locs hP hS => ?_)
  rw [nI_clamp (n := x) (by omega)] at hP
  obtain ⟨A3, eA3⟩ : ∃ z, z = up2 A2 (E + 5) x (((A2 (E + 5) x) + 1)) := ⟨_, rfl⟩
  rw [← eA3] at hP
  have hP : va_P D vwCl (VW K ad I G A3 L) H := hP
  exact W.vret hx hb hr (fun t9 ht9 hW9 => ⟨⟨(I, G, A3, L), rfl, by rw [eA3, show A2 (E + 5) x = A (E + 5) x from by rw [eA2, up2_j (by omega), eA1, up2_j (by omega)], eA2, eA1], by rw [ht9]; exact hP, va_K.moved hW9.alike hK⟩, hS.F ht9⟩) hS.2.2 dX3_replace_35

theorem nfr_in (A : Nat → Nat → Int32) (L : Nat → Nat → Int64) (T : Nat) {N : Nat} (hN : N < 2 ^ 31) : ∀ k i b, (b = -1 ∨ vp_in b N) → i + k ≤ N → (nfr A L T k i b = -1 ∨ vp_in (nfr A L T k i b) N)
  | 0, _, _, h, _ => h
  | k + 1, i, b, h, hk => by
    unfold nfr
    refine nfr_in A L T hN k (i + 1) _ ?_ (by omega)
    split
    · exact Or.inr (vp_in_nI (by omega) hN)
    · exact h
/-- a helper picks: the least free node, or it is idle -/
def pkA (I A : Nat → Nat → Int32) (L : Nat → Nat → Int64) (T E x n : Nat) : Nat → Nat → Int32 := if I T 10 - I T 11 < 30 then (if nfr A L T n 0 (-1) = -1 then up2 A (E + 4) x (A (E + 4) x + 1) else up2 (up2 (up2 A (T + 5) (nfr A L T n 0 (-1)).toNatClampNeg (vp_nar .byte 1)) 15 x (nfr A L T n 0 (-1))) 16 x (A 16 x + 1)) else up2 A (E + 4) x (A (E + 4) x + 1)

set_option maxHeartbeats 4000000 in
set_option maxRecDepth 100000 in
theorem c_X3_pick (l : Launch) (D : va_G) (K : Nat → ClassId) (ad : Nat → Nat) (hap0 : apart ad (fun _ => True)) (T E x : Nat) (hT : TrAt T) (hE : TeAt E) (hx5 : x < 5) (n : Nat) (hn : n ≤ lT T) (I : Nat → Nat → Int32) (G : Nat → Nat → Nat) (A : Nat → Nat → Int32) (L : Nat → Nat → Int64) (hgT : G 14 0 = T) (hgE : G 14 1 = E) (hkn : I T 9 = nI n) : Cv l D K ad yX3_pick wsX3_pick 1 60 [.ref (ad 14), .int (nI x)] (I, G, A, L) (fun (u : Mem) => u = (I, G, pkA I A L T E x n, L)) := by
  intro sz
  refine Met.ofW (cc := cX3_pick) (maxL := 4) (ret := none) (by decide) rfl ?_
  intro p e s m args below meth c s₁ Bd hml hv0
  obtain ⟨rfl, hsz, hP, hK⟩ := hv0
  have hx := Bd.exec
  have hb := Bd.bytes
  have hr := Bd.returns
  have hts := atoms_spec (ws := wsX3_pick) Bd.pre
  have hown : s.vm.findClass RX3 = some m.cls := findClass_of_methodNamed Bd.named
  have hlocks := Bd.notSynchronized
  have hi3 : ∀ w ∈ u_ws RX3 TX3 6, w ∈ wsX3_pick := fun w h => List.mem_cons_of_mem _ (List.mem_append_left _ (List.mem_append_left _ (List.mem_append_right _ h)))
  have hi5 : ∀ w ∈ u_ws RX5 TX5 16, w ∈ wsX3_pick := fun w h => List.mem_cons_of_mem _ (List.mem_append_left _ (List.mem_append_right _ h))
  have hi4 : ∀ w ∈ u_ws RX4 TX4 7, w ∈ wsX3_pick := fun w h => List.mem_cons_of_mem _ (List.mem_append_right _ h)
  subst hsz
  have hap := vF_ap hap0 s.heap.size
  have hS : va_S (vF ad s.heap.size) s.heap s.heap [] := va_S.rf
  have hP : va_P D vwCl (VW K ad I G A L) s.heap := hP
  have hl := lv_entry ([.ref (ad 14), .int (nI x)]) (n := 4) (Nat.le_of_ble_eq_true rfl)
  rw [lg_entry_eq]
  generalize (lg_sl ([.ref (ad 14), .int (nI x)]) ++ List.replicate (4 - (lg_sl ([.ref (ad 14), .int (nI x)])).length) Slot.unset).toArray = ls at hl ⊢
  have hl : lv_has ls 4 [(0, .ref (ad 14)), (1, .int (nI x))] := hl
  have hl1 := (tr_l hT).2.2.2.2.2.2.2.2.2.2
  have hT11 := (tr_o hT).1
  have hT22 : 22 ≤ T := by rcases hT with h | h | h <;> omega
  have hE14 := (te_o hE).1
  have hx15 : vp_in (nI x) (ln 15) := by rw [show ln 15 = 5 by decide]; exact vp_in_nI hx5 (by decide)
  have hx16 : vp_in (nI x) (ln 16) := by rw [show ln 16 = 5 by decide]; exact vp_in_nI hx5 (by decide)
  have hxe1 : vp_in (nI x) (ln (E + 1)) := by rw [(te_o hE).2.2.2.2.2.2.2.1]; exact vp_in_nI hx5 (by decide)
  have hxe3 : vp_in (nI x) (ln (E + 3)) := by rw [(te_o hE).2.2.2.2.2.2.2.2.2.1]; exact vp_in_nI hx5 (by decide)
  have hxe4 : vp_in (nI x) (ln (E + 4)) := by rw [(te_o hE).2.2.2.2.2.2.2.2.2.2.1]; exact vp_in_nI hx5 (by decide)
  have hxe5 : vp_in (nI x) (ln (E + 5)) := by rw [(te_o hE).2.2.2.2.2.2.2.2.2.2.2]; exact vp_in_nI hx5 (by decide)
  refine lv_aload_n hx hb dX3_pick_0 rfl (lv_at hl 0 rfl) ?_
  refine vgG hx hb hts hi3 hown hK hP (14) (by decide) (show kd 14 = 3 by decide) (C := RX3) (T := TX3) (N := 6) rfl 0 (by decide) (by decide) (by decide) (by decide) (hts (.fieldLink RX3 30 "CrateHelpers$Solving" "tree" "LCrateHelpers$Tree;") (by decide +kernel)) (fun _ h9 => h9) dX3_pick_1 ?_
  rw [hgT]
  refine vgI hx hb hts hi5 hown hK hP (T) (by have := (tr_o hT).1; show _ < 378; omega) (tr_o hT).2.1 (C := RX5) (T := TX5) (N := 16) rfl 10 (by decide) (by decide) (by decide) (by decide) (hts (.fieldLink RX3 79 "CrateHelpers$Tree" "done" "I") (by decide +kernel)) (fun _ h9 => h9) dX3_pick_4 ?_
  refine lv_aload_n hx hb dX3_pick_7 rfl (lv_at hl 0 rfl) ?_
  refine vgG hx hb hts hi3 hown hK hP (14) (by decide) (show kd 14 = 3 by decide) (C := RX3) (T := TX3) (N := 6) rfl 0 (by decide) (by decide) (by decide) (by decide) (hts (.fieldLink RX3 30 "CrateHelpers$Solving" "tree" "LCrateHelpers$Tree;") (by decide +kernel)) (fun _ h9 => h9) dX3_pick_8 ?_
  rw [hgT]
  refine vgI hx hb hts hi5 hown hK hP (T) (by have := (tr_o hT).1; show _ < 378; omega) (tr_o hT).2.1 (C := RX5) (T := TX5) (N := 16) rfl 11 (by decide) (by decide) (by decide) (by decide) (hts (.fieldLink RX3 81 "CrateHelpers$Tree" "taken" "I") (by decide +kernel)) (fun _ h9 => h9) dX3_pick_11 ?_
  refine lv_isub hx hb dX3_pick_14 ?_
  refine lv_bipush (v := 30) hx hb dX3_pick_15 (by decide) ?_
  refine lv_icmp_lt (tgt := 24) hx hb dX3_pick_17 (by decide) (fun c_1 => ?_) (fun c_1 => ?_)
  · refine lv_iconst (v := 0) hx hb dX3_pick_24 (by decide) ?_
    refine lv_istore_n (lv' := [(2, .int 0), (0, .ref (ad 14)), (1, .int (nI x))]) hx hb dX3_pick_25 rfl hl (by decide) rfl (fun ls hl => ?_)
    refine lv_iload_n hx hb dX3_pick_26 rfl (lv_at hl 0 rfl) ?_
    refine lv_if_eq (tgt := 34) hx hb dX3_pick_27 (by decide) (fun _ => ?_) (fun c_2 => absurd c_2 (by decide))
    refine lv_aload_n hx hb dX3_pick_34 rfl (lv_at hl 1 rfl) ?_
    refine vgG hx hb hts hi3 hown hK hP (14) (by decide) (show kd 14 = 3 by decide) (C := RX3) (T := TX3) (N := 6) rfl 0 (by decide) (by decide) (by decide) (by decide) (hts (.fieldLink RX3 30 "CrateHelpers$Solving" "tree" "LCrateHelpers$Tree;") (by decide +kernel)) (fun _ h9 => h9) dX3_pick_35 ?_
    rw [hgT]
    refine vcV (As := []) (rest := []) ⟨hx, hb, hml, hown, hts⟩ (c_X5_nextFree l D K ad hap0 T n hT hn I G A L hkn) (cwV 0 hts gX3_pick_X5_nextFree rfl rfl rfl (by decide +kernel) ⟨Nat.le_of_ble_eq_true rfl, Nat.le_of_ble_eq_true rfl⟩) hK hP hS (by have := (tr_o hT).1; show _ < 378; omega) (tr_o hT).2.1 (by decide) rfl rfl rfl hl.1 (Nat.le_of_ble_eq_true rfl) (Nat.le_of_ble_eq_true rfl) (Nat.le_of_ble_eq_true rfl) dX3_pick_38 (fun r3 u4 H locs hw hP hS => ?_) rfl
    obtain ⟨hr3, rfl⟩ := hw
    have hP : va_P D vwCl (VW K ad I G A L) H := hP
    subst hr3
    refine lv_istore_n (lv' := [(3, .int (nfr A L T n 0 (-1))), (2, .int 0), (0, .ref (ad 14)), (1, .int (nI x))]) hx hb dX3_pick_41 rfl hl (by decide) rfl (fun ls hl => ?_)
    refine lv_iload_n hx hb dX3_pick_42 rfl (lv_at hl 0 rfl) ?_
    refine lv_iconst (v := (-1)) hx hb dX3_pick_43 (by decide) ?_
    refine lv_icmp_ne (tgt := 61) hx hb dX3_pick_44 (by decide) (fun c_5 => ?_) (fun c_5 => ?_)
    · have hin5 : vp_in (nfr A L T n 0 (-1)) (ln (T + 5)) := by rw [(tr_l hT).2.2.2.2.1]; exact (nfr_in A L T (by omega) n 0 (-1) (Or.inl rfl) (by omega)).resolve_left c_5
      refine lv_aload_n hx hb dX3_pick_61 rfl (lv_at hl 2 rfl) ?_
      refine vgG hx hb hts hi3 hown hK hP (14) (by decide) (show kd 14 = 3 by decide) (C := RX3) (T := TX3) (N := 6) rfl 0 (by decide) (by decide) (by decide) (by decide) (hts (.fieldLink RX3 30 "CrateHelpers$Solving" "tree" "LCrateHelpers$Tree;") (by decide +kernel)) (fun _ h9 => h9) dX3_pick_62 ?_
      rw [hgT]
      refine vgS hx hb hts hi5 hown hK hP (T) (by have := (tr_o hT).1; show _ < 378; omega) (tr_o hT).2.1 (C := RX5) (T := TX5) (N := 16) rfl 4 (by decide) (by decide) (by decide) (by decide) (T + 5) rfl (hts (.fieldLink RX3 90 "CrateHelpers$Tree" "stage" "[B") (by decide +kernel)) (fun _ h9 => h9) dX3_pick_65 ?_
      refine lv_iload_n hx hb dX3_pick_68 rfl (lv_at hl 0 rfl) ?_
      refine lv_iconst (v := 1) hx hb dX3_pick_69 (by decide) ?_
      refine xbast hx hb hK hP hap hS (T + 5) (by have := (tr_o hT).1; show _ < 378; omega) (tr_o hT).2.2.2.2.2.2.1 hin5 dX3_pick_70 (fun H locs hP hS => ?_)
      obtain ⟨A6, eA6⟩ : ∃ z, z = up2 A (T + 5) ((nfr A L T n 0 (-1)).toNatClampNeg) (vp_nar .byte 1) := ⟨_, rfl⟩
      rw [← eA6] at hP
      have hP : va_P D vwCl (VW K ad I G A6 L) H := hP
      refine lv_aload_n hx hb dX3_pick_71 rfl (lv_at hl 2 rfl) ?_
      refine vgS hx hb hts hi3 hown hK hP (14) (by decide) (show kd 14 = 3 by decide) (C := RX3) (T := TX3) (N := 6) rfl 4 (by decide) (by decide) (by decide) (by decide) (15) rfl (hts (.fieldLink RX3 18 "CrateHelpers$Solving" "holds" "[I") (by decide +kernel)) (fun _ h9 => h9) dX3_pick_72 ?_
      refine lv_iload_n hx hb dX3_pick_75 rfl (lv_at hl 3 rfl) ?_
      refine lv_iload_n hx hb dX3_pick_76 rfl (lv_at hl 0 rfl) ?_
      refine xiast hx hb hK hP hap hS (15) (by decide) (show kd 15 = 8 by decide) hx15 dX3_pick_77 (fun H locs hP hS => ?_)
      rw [nI_clamp (n := x) (by omega)] at hP
      obtain ⟨A7, eA7⟩ : ∃ z, z = up2 A6 15 x ((nfr A L T n 0 (-1))) := ⟨_, rfl⟩
      rw [← eA7] at hP
      have hP : va_P D vwCl (VW K ad I G A7 L) H := hP
      refine lv_aload_n hx hb dX3_pick_78 rfl (lv_at hl 2 rfl) ?_
      refine vgS hx hb hts hi3 hown hK hP (14) (by decide) (show kd 14 = 3 by decide) (C := RX3) (T := TX3) (N := 6) rfl 5 (by decide) (by decide) (by decide) (by decide) (16) rfl (hts (.fieldLink RX3 22 "CrateHelpers$Solving" "had" "[I") (by decide +kernel)) (fun _ h9 => h9) dX3_pick_79 ?_
      refine lv_iload_n hx hb dX3_pick_82 rfl (lv_at hl 3 rfl) ?_
      refine lv_dup2_11 hx hb dX3_pick_83 rfl rfl ?_
      refine xiald hx hb hK hP (16) (by decide) (show kd 16 = 8 by decide) hx16 dX3_pick_84 ?_
      rw [nI_clamp (n := x) (by omega)]
      refine lv_iconst (v := 1) hx hb dX3_pick_85 (by decide) ?_
      refine lv_iadd hx hb dX3_pick_86 ?_
      refine xiast hx hb hK hP hap hS (16) (by decide) (show kd 16 = 8 by decide) hx16 dX3_pick_87 (fun H locs hP hS => ?_)
      rw [nI_clamp (n := x) (by omega)] at hP
      obtain ⟨A8, eA8⟩ : ∃ z, z = up2 A7 16 x (((A7 16 x) + 1)) := ⟨_, rfl⟩
      rw [← eA8] at hP
      have hP : va_P D vwCl (VW K ad I G A8 L) H := hP
      exact W.vret hx hb hr (fun t9 ht9 hW9 => ⟨⟨(I, G, A8, L), rfl, by rw [eA8, show A7 16 x = A 16 x from by rw [eA7, up2_j (by decide), eA6, up2_j (by omega)], eA7, eA6]; unfold pkA; rw [if_pos c_1, if_neg c_5], by rw [ht9]; exact hP, va_K.moved hW9.alike hK⟩, hS.F ht9⟩) hS.2.2 dX3_pick_88
    · refine lv_aload_n hx hb dX3_pick_47 rfl (lv_at hl 2 rfl) ?_
      refine vgG hx hb hts hi3 hown hK hP (14) (by decide) (show kd 14 = 3 by decide) (C := RX3) (T := TX3) (N := 6) rfl 1 (by decide) (by decide) (by decide) (by decide) (hts (.fieldLink RX3 34 "CrateHelpers$Solving" "team" "LCrateHelpers$Team;") (by decide +kernel)) (fun _ h9 => h9) dX3_pick_48 ?_
      rw [hgE]
      refine vgS hx hb hts hi4 hown hK hP (E) (by have := (te_o hE).1; show _ < 378; omega) (te_o hE).2.1 (C := RX4) (T := TX4) (N := 7) rfl 5 (by decide) (by decide) (by decide) (by decide) (E + 4) rfl (hts (.fieldLink RX3 87 "CrateHelpers$Team" "idle" "[I") (by decide +kernel)) (fun _ h9 => h9) dX3_pick_51 ?_
      refine lv_iload_n hx hb dX3_pick_54 rfl (lv_at hl 3 rfl) ?_
      refine lv_dup2_11 hx hb dX3_pick_55 rfl rfl ?_
      refine xiald hx hb hK hP (E + 4) (by have := (te_o hE).1; show _ < 378; omega) (te_o hE).2.2.2.2.2.1 hxe4 dX3_pick_56 ?_
      rw [nI_clamp (n := x) (by omega)]
      refine lv_iconst (v := 1) hx hb dX3_pick_57 (by decide) ?_
      refine lv_iadd hx hb dX3_pick_58 ?_
      refine xiast hx hb hK hP hap hS (E + 4) (by have := (te_o hE).1; show _ < 378; omega) (te_o hE).2.2.2.2.2.1 hxe4 dX3_pick_59 (fun H locs hP hS => ?_)
      rw [nI_clamp (n := x) (by omega)] at hP
      obtain ⟨A9, eA9⟩ : ∃ z, z = up2 A (E + 4) x (((A (E + 4) x) + 1)) := ⟨_, rfl⟩
      rw [← eA9] at hP
      have hP : va_P D vwCl (VW K ad I G A9 L) H := hP
      exact W.vret hx hb hr (fun t9 ht9 hW9 => ⟨⟨(I, G, A9, L), rfl, by rw [eA9]; unfold pkA; rw [if_pos c_1, if_pos c_5], by rw [ht9]; exact hP, va_K.moved hW9.alike hK⟩, hS.F ht9⟩) hS.2.2 dX3_pick_60
  · refine lv_iconst (v := 1) hx hb dX3_pick_20 (by decide) ?_
    refine lv_goto (tgt := 25) hx hb dX3_pick_21 (by decide) ?_
    refine lv_istore_n (lv' := [(2, .int 1), (0, .ref (ad 14)), (1, .int (nI x))]) hx hb dX3_pick_25 rfl hl (by decide) rfl (fun ls hl => ?_)
    refine lv_iload_n hx hb dX3_pick_26 rfl (lv_at hl 0 rfl) ?_
    refine lv_if_eq (tgt := 34) hx hb dX3_pick_27 (by decide) (fun c_10 => absurd c_10 (by decide)) (fun _ => ?_)
    refine lv_iconst (v := (-1)) hx hb dX3_pick_30 (by decide) ?_
    refine lv_goto (tgt := 41) hx hb dX3_pick_31 (by decide) ?_
    refine lv_istore_n (lv' := [(3, .int (-1)), (2, .int 1), (0, .ref (ad 14)), (1, .int (nI x))]) hx hb dX3_pick_41 rfl hl (by decide) rfl (fun ls hl => ?_)
    refine lv_iload_n hx hb dX3_pick_42 rfl (lv_at hl 0 rfl) ?_
    refine lv_iconst (v := (-1)) hx hb dX3_pick_43 (by decide) ?_
    refine lv_icmp_ne (tgt := 61) hx hb dX3_pick_44 (by decide) (fun c_11 => absurd c_11 (by decide)) (fun _ => ?_)
    refine lv_aload_n hx hb dX3_pick_47 rfl (lv_at hl 2 rfl) ?_
    refine vgG hx hb hts hi3 hown hK hP (14) (by decide) (show kd 14 = 3 by decide) (C := RX3) (T := TX3) (N := 6) rfl 1 (by decide) (by decide) (by decide) (by decide) (hts (.fieldLink RX3 34 "CrateHelpers$Solving" "team" "LCrateHelpers$Team;") (by decide +kernel)) (fun _ h9 => h9) dX3_pick_48 ?_
    rw [hgE]
    refine vgS hx hb hts hi4 hown hK hP (E) (by have := (te_o hE).1; show _ < 378; omega) (te_o hE).2.1 (C := RX4) (T := TX4) (N := 7) rfl 5 (by decide) (by decide) (by decide) (by decide) (E + 4) rfl (hts (.fieldLink RX3 87 "CrateHelpers$Team" "idle" "[I") (by decide +kernel)) (fun _ h9 => h9) dX3_pick_51 ?_
    refine lv_iload_n hx hb dX3_pick_54 rfl (lv_at hl 3 rfl) ?_
    refine lv_dup2_11 hx hb dX3_pick_55 rfl rfl ?_
    refine xiald hx hb hK hP (E + 4) (by have := (te_o hE).1; show _ < 378; omega) (te_o hE).2.2.2.2.2.1 hxe4 dX3_pick_56 ?_
    rw [nI_clamp (n := x) (by omega)]
    refine lv_iconst (v := 1) hx hb dX3_pick_57 (by decide) ?_
    refine lv_iadd hx hb dX3_pick_58 ?_
    refine xiast hx hb hK hP hap hS (E + 4) (by have := (te_o hE).1; show _ < 378; omega) (te_o hE).2.2.2.2.2.1 hxe4 dX3_pick_59 (fun H locs hP hS => ?_)
    rw [nI_clamp (n := x) (by omega)] at hP
    obtain ⟨A12, eA12⟩ : ∃ z, z = up2 A (E + 4) x (((A (E + 4) x) + 1)) := ⟨_, rfl⟩
    rw [← eA12] at hP
    have hP : va_P D vwCl (VW K ad I G A12 L) H := hP
    exact W.vret hx hb hr (fun t9 ht9 hW9 => ⟨⟨(I, G, A12, L), rfl, by rw [eA12]; unfold pkA; rw [if_neg c_1], by rw [ht9]; exact hP, va_K.moved hW9.alike hK⟩, hS.F ht9⟩) hS.2.2 dX3_pick_60

/-! part 31.zrows -/
set_option maxRecDepth 20000 in
theorem ggX3_begin_J7_fill_53178 : GoodIn wsX3_begin wsJ7_fill_53178 := goodIn_g _ [(12, 1)] rfl (by decide +kernel)
set_option maxRecDepth 20000 in
theorem gX3_begin_J7_fill_53178 : GoodIn wsX3_begin (va_wsS RX3 43 yJ7_fill_53178 wsJ7_fill_53178) := goodIn_app (goodIn_of _ (by decide +kernel)) ggX3_begin_J7_fill_53178
set_option maxRecDepth 20000 in
theorem ggX3_begin_X5_plant : GoodIn wsX3_begin wsX5_plant := goodIn_g _ [(17, 10), (10, 3), (27, 91), (16, 1), (118, 11), (142, 35)] rfl (by decide +kernel)
set_option maxRecDepth 20000 in
theorem gX3_begin_X5_plant : GoodIn wsX3_begin (wsV RX3 49 RX5 yX5_plant wsX5_plant) := goodIn_app (goodIn_of _ (by decide +kernel)) ggX3_begin_X5_plant
theorem dX3_begin_0 : decode cX3_begin 0 = .ok (.aload_n 0, 1) := by decide +kernel
theorem dX3_begin_1 : decode cX3_begin 1 = .ok (.aload_n 2, 1) := by decide +kernel
theorem dX3_begin_2 : decode cX3_begin 2 = .ok (.putfield 34, 3) := by decide +kernel
theorem dX3_begin_5 : decode cX3_begin 5 = .ok (.aload_n 0, 1) := by decide +kernel
theorem dX3_begin_6 : decode cX3_begin 6 = .ok (.iload_n 3, 1) := by decide +kernel
theorem dX3_begin_7 : decode cX3_begin 7 = .ok (.putfield 9, 3) := by decide +kernel
theorem dX3_begin_10 : decode cX3_begin 10 = .ok (.aload_n 0, 1) := by decide +kernel
theorem dX3_begin_11 : decode cX3_begin 11 = .ok (.iconst 0, 1) := by decide +kernel
theorem dX3_begin_12 : decode cX3_begin 12 = .ok (.putfield 15, 3) := by decide +kernel
theorem dX3_begin_15 : decode cX3_begin 15 = .ok (.aload_n 0, 1) := by decide +kernel
theorem dX3_begin_16 : decode cX3_begin 16 = .ok (.getfield 34, 3) := by decide +kernel
theorem dX3_begin_19 : decode cX3_begin 19 = .ok (.getfield 38, 3) := by decide +kernel
theorem dX3_begin_22 : decode cX3_begin 22 = .ok (.iconst 0, 1) := by decide +kernel
theorem dX3_begin_23 : decode cX3_begin 23 = .ok (.invokestatic 43, 3) := by decide +kernel
theorem dX3_begin_26 : decode cX3_begin 26 = .ok (.aload_n 0, 1) := by decide +kernel
theorem dX3_begin_27 : decode cX3_begin 27 = .ok (.getfield 18, 3) := by decide +kernel
theorem dX3_begin_30 : decode cX3_begin 30 = .ok (.iconst (-1), 1) := by decide +kernel
theorem dX3_begin_31 : decode cX3_begin 31 = .ok (.invokestatic 43, 3) := by decide +kernel
theorem dX3_begin_34 : decode cX3_begin 34 = .ok (.aload_n 0, 1) := by decide +kernel
theorem dX3_begin_35 : decode cX3_begin 35 = .ok (.getfield 22, 3) := by decide +kernel
theorem dX3_begin_38 : decode cX3_begin 38 = .ok (.iconst 0, 1) := by decide +kernel
theorem dX3_begin_39 : decode cX3_begin 39 = .ok (.invokestatic 43, 3) := by decide +kernel
theorem dX3_begin_42 : decode cX3_begin 42 = .ok (.aload_n 0, 1) := by decide +kernel
theorem dX3_begin_43 : decode cX3_begin 43 = .ok (.getfield 30, 3) := by decide +kernel
theorem dX3_begin_46 : decode cX3_begin 46 = .ok (.aload_n 1, 1) := by decide +kernel
theorem dX3_begin_47 : decode cX3_begin 47 = .ok (.iconst 1, 1) := by decide +kernel
theorem dX3_begin_48 : decode cX3_begin 48 = .ok (.invokevirtual 49, 3) := by decide +kernel
theorem dX3_begin_51 : decode cX3_begin 51 = .ok (.aload_n 0, 1) := by decide +kernel
theorem dX3_begin_52 : decode cX3_begin 52 = .ok (.getfield 30, 3) := by decide +kernel
theorem dX3_begin_55 : decode cX3_begin 55 = .ok (.getfield 53, 3) := by decide +kernel
theorem dX3_begin_58 : decode cX3_begin 58 = .ok (.iconst 0, 1) := by decide +kernel
theorem dX3_begin_59 : decode cX3_begin 59 = .ok (.baload, 1) := by decide +kernel
theorem dX3_begin_60 : decode cX3_begin 60 = .ok (.ifCond .ne 7, 3) := by decide +kernel
theorem dX3_begin_63 : decode cX3_begin 63 = .ok (.iconst 0, 1) := by decide +kernel
theorem dX3_begin_64 : decode cX3_begin 64 = .ok (.goto 4, 3) := by decide +kernel
theorem dX3_begin_67 : decode cX3_begin 67 = .ok (.iconst 2, 1) := by decide +kernel
theorem dX3_begin_68 : decode cX3_begin 68 = .ok (.ireturn, 1) := by decide +kernel

/-! part 32.begin -/
/-- the memory with a tree planted -/
def plM (I : Nat → Nat → Int32) (G : Nat → Nat → Nat) (A : Nat → Nat → Int32) (L : Nat → Nat → Int64) (T B nv nr : Nat) (mt : Int32) : Mem := (up2 (jdI (plI I T mt) (T + 11) (lk (plI I T mt) (fil A (T + 10) 6 (-1)) B (T + 10) nv nr 0 mt)) T 9 (nI 0 + 1), up2 G T 14 B, up2 (adA (jdI (plI I T mt) (T + 11) (lk (plI I T mt) (fil A (T + 10) 6 (-1)) B (T + 10) nv nr 0 mt)) (fil A (T + 10) 6 (-1)) T 0 0) (T + 8) 0 (vp_nar .boolean 1), up2 L (T + 1) 0 (plc ((jdI (plI I T mt) (T + 11) (lk (plI I T mt) (fil A (T + 10) 6 (-1)) B (T + 10) nv nr 0 mt)) (T + 11) 2) 0))
def bgI (I : Nat → Nat → Int32) (w : Int32) : Nat → Nat → Int32 := up2 (up2 I 14 2 w) 14 3 0
def bgA (A : Nat → Nat → Int32) (E : Nat) : Nat → Nat → Int32 := fil (fil (fil A (E + 3) 5 0) 15 5 (-1)) 16 5 0
theorem ia_d {E : Nat} (h : TeAt E) : IA (E + 3) 5 := ⟨by have := (te_o h).1; show _ < 378; omega, (te_o h).2.2.2.2.1, (te_o h).2.2.2.2.2.2.2.2.2.1⟩

set_option maxHeartbeats 4000000 in
set_option maxRecDepth 100000 in
theorem c_X3_begin (l : Launch) (D : va_G) (K : Nat → ClassId) (ad : Nat → Nat) (hap0 : apart ad (fun _ => True)) (T E B nv nr : Nat) (w : Int32) (hT : TrAt T) (hE : TeAt E) (hB : PrAt B) (I : Nat → Nat → Int32) (G : Nat → Nat → Nat) (A : Nat → Nat → Int32) (L : Nat → Nat → Int64) (hgT : G 14 0 = T) (hw : PrW I A B nv nr) : Ci l D K ad yX3_begin wsX3_begin 6 230 [.ref (ad 14), .ref (ad B), .ref (ad E), .int w] (I, G, A, L) (fun (r : Int32) (u : Mem) => r = (if (plM (bgI I w) (up2 G 14 1 E) (bgA A E) L T B nv nr 1).2.2.1 (T + 3) 0 = 0 then 0 else 2) ∧ u = plM (bgI I w) (up2 G 14 1 E) (bgA A E) L T B nv nr 1) := by
  intro sz
  refine Met.ofW (cc := cX3_begin) (maxL := 4) (ret := (some .int)) (by decide) rfl ?_
  intro p e s m args below meth c s₁ Bd hml hv0
  obtain ⟨rfl, hsz, hP, hK⟩ := hv0
  have hx := Bd.exec
  have hb := Bd.bytes
  have hr := Bd.returns
  have hts := atoms_spec (ws := wsX3_begin) Bd.pre
  have hown : s.vm.findClass RX3 = some m.cls := findClass_of_methodNamed Bd.named
  have hlocks := Bd.notSynchronized
  have hi3 : ∀ w ∈ u_ws RX3 TX3 6, w ∈ wsX3_begin := fun w h => List.mem_cons_of_mem _ (List.mem_append_left _ (List.mem_append_left _ (List.mem_append_left _ (List.mem_append_left _ (List.mem_append_left _ (List.mem_append_right _ h))))))
  have hi4 : ∀ w ∈ u_ws RX4 TX4 7, w ∈ wsX3_begin := fun w h => List.mem_cons_of_mem _ (List.mem_append_left _ (List.mem_append_left _ (List.mem_append_left _ (List.mem_append_left _ (List.mem_append_right _ h)))))
  have hi5 : ∀ w ∈ u_ws RX5 TX5 16, w ∈ wsX3_begin := fun w h => List.mem_cons_of_mem _ (List.mem_append_left _ (List.mem_append_left _ (List.mem_append_left _ (List.mem_append_right _ h))))
  have hi1 : ∀ w ∈ u_ws RX1 TX1 9, w ∈ wsX3_begin := fun w h => List.mem_cons_of_mem _ (List.mem_append_left _ (List.mem_append_left _ (List.mem_append_right _ h)))
  have hi0 : ∀ w ∈ u_ws RX0 TX0 3, w ∈ wsX3_begin := fun w h => List.mem_cons_of_mem _ (List.mem_append_left _ (List.mem_append_right _ h))
  have hi2 : ∀ w ∈ u_ws RX2 TX2 7, w ∈ wsX3_begin := fun w h => List.mem_cons_of_mem _ (List.mem_append_right _ h)
  subst hsz
  have hap := vF_ap hap0 s.heap.size
  have hS : va_S (vF ad s.heap.size) s.heap s.heap [] := va_S.rf
  have hP : va_P D vwCl (VW K ad I G A L) s.heap := hP
  have hl := lv_entry ([.ref (ad 14), .ref (ad B), .ref (ad E), .int w]) (n := 4) (Nat.le_of_ble_eq_true rfl)
  rw [lg_entry_eq]
  generalize (lg_sl ([.ref (ad 14), .ref (ad B), .ref (ad E), .int w]) ++ List.replicate (4 - (lg_sl ([.ref (ad 14), .ref (ad B), .ref (ad E), .int w])).length) Slot.unset).toArray = ls at hl ⊢
  have hl : lv_has ls 4 [(0, .ref (ad 14)), (1, .ref (ad B)), (2, .ref (ad E)), (3, .int w)] := hl
  have hl1 := (tr_l hT).2.2.2.2.2.2.2.2.2.2
  have hT11 := (tr_o hT).1
  have hT22 : 22 ≤ T := by rcases hT with h | h | h <;> omega
  have hE14 := (te_o hE).1
  have hB58 := pr_ge hB
  have hz3 : vp_in (0 : Int32) (ln (T + 3)) := by rw [(tr_l hT).2.2.1]; exact vp_in_nI (n := 0) (by omega) (by omega)
  refine lv_aload_n hx hb dX3_begin_0 rfl (lv_at hl 0 rfl) ?_
  refine lv_aload_n hx hb dX3_begin_1 rfl (lv_at hl 2 rfl) ?_
  refine vpG (q := E) (ty := .object "CrateHelpers$Team") hx hb hts hi3 tyX3 tyX3_ok nmX3 hown hK hP hap hS (14) (by decide) (show kd 14 = 3 by decide) (C := RX3) (T := TX3) (N := 6) rfl 1 (by decide) (by decide) (by decide) (by decide) (hts (.fieldLink RX3 34 "CrateHelpers$Solving" "team" "LCrateHelpers$Team;") (by decide +kernel)) (fun _ h9 => h9) rfl (by decide +kernel) rfl rfl dX3_begin_2 (fun H locs hP hS => ?_)
  obtain ⟨G1, eG1⟩ : ∃ z, z = up2 G 14 1 E := ⟨_, rfl⟩
  rw [← eG1] at hP
  have hP : va_P D vwCl (VW K ad I G1 A L) H := hP
  refine lv_aload_n hx hb dX3_begin_5 rfl (lv_at hl 0 rfl) ?_
  refine lv_iload_n hx hb dX3_begin_6 rfl (lv_at hl 3 rfl) ?_
  refine vpI (v := w) (ty := .int) hx hb hts hi3 tyX3 tyX3_ok nmX3 hown hK hP hap hS (14) (by decide) (show kd 14 = 3 by decide) (C := RX3) (T := TX3) (N := 6) rfl 2 (by decide) (by decide) (by decide) (by decide) (hts (.fieldLink RX3 9 "CrateHelpers$Solving" "limit" "I") (by decide +kernel)) (fun _ h9 => h9) rfl (by decide +kernel) rfl rfl dX3_begin_7 (fun H locs hP hS => ?_)
  obtain ⟨I2, eI2⟩ : ∃ z, z = up2 I 14 2 w := ⟨_, rfl⟩
  rw [← eI2] at hP
  have hP : va_P D vwCl (VW K ad I2 G1 A L) H := hP
  refine lv_aload_n hx hb dX3_begin_10 rfl (lv_at hl 0 rfl) ?_
  refine lv_iconst (v := 0) hx hb dX3_begin_11 (by decide) ?_
  refine vpI (v := 0) (ty := .int) hx hb hts hi3 tyX3 tyX3_ok nmX3 hown hK hP hap hS (14) (by decide) (show kd 14 = 3 by decide) (C := RX3) (T := TX3) (N := 6) rfl 3 (by decide) (by decide) (by decide) (by decide) (hts (.fieldLink RX3 15 "CrateHelpers$Solving" "turns" "I") (by decide +kernel)) (fun _ h9 => h9) rfl (by decide +kernel) rfl rfl dX3_begin_12 (fun H locs hP hS => ?_)
  obtain ⟨I3, eI3⟩ : ∃ z, z = up2 I2 14 3 0 := ⟨_, rfl⟩
  rw [← eI3] at hP
  have hP : va_P D vwCl (VW K ad I3 G1 A L) H := hP
  refine lv_aload_n hx hb dX3_begin_15 rfl (lv_at hl 0 rfl) ?_
  refine vgG hx hb hts hi3 hown hK hP (14) (by decide) (show kd 14 = 3 by decide) (C := RX3) (T := TX3) (N := 6) rfl 1 (by decide) (by decide) (by decide) (by decide) (hts (.fieldLink RX3 34 "CrateHelpers$Solving" "team" "LCrateHelpers$Team;") (by decide +kernel)) (fun _ h9 => h9) dX3_begin_16 ?_
  rw [eG1, up2_s]
  refine vgS hx hb hts hi4 hown hK hP (E) (by have := (te_o hE).1; show _ < 378; omega) (te_o hE).2.1 (C := RX4) (T := TX4) (N := 7) rfl 4 (by decide) (by decide) (by decide) (by decide) (E + 3) rfl (hts (.fieldLink RX3 38 "CrateHelpers$Team" "done" "[I") (by decide +kernel)) (fun _ h9 => h9) dX3_begin_19 ?_
  refine lv_iconst (v := 0) hx hb dX3_begin_22 (by decide) ?_
  refine vcSv (As := [.ref (ad (E + 3)), .int 0]) (rest := []) ⟨hx, hb, hml, hown, hts⟩ (c_fill l D K ad hap0 (E + 3) 5 0 (ia_d hE) (by decide) I3 G1 A L) (va_cwS 2 hts gX3_begin_J7_fill_53178 rfl rfl rfl (by decide +kernel) ⟨Nat.le_of_ble_eq_true rfl, Nat.le_of_ble_eq_true rfl⟩) hK hP hS rfl hl.1 (Nat.le_of_ble_eq_true rfl) (Nat.le_of_ble_eq_true rfl) (Nat.le_of_ble_eq_true rfl) dX3_begin_23 (fun u5 H locs hw9 hP hS => ?_) rfl
  obtain ⟨I6, G7, A8, L9⟩ := u5
  have hP : va_P D vwCl (VW K ad I6 G7 A8 L9) H := hP
  have hq := hw9
  injection hq with h1 h2
  injection h2 with h2 h3
  injection h3 with h3 h4
  rw [h1, h2, h3, h4, eI3, eI2, eG1] at hP
  clear h1 h2 h3 h4
  have hP : va_P D vwCl (VW K ad (bgI I w) (up2 G 14 1 E) (fil A (E + 3) 5 0) L) H := hP
  refine lv_aload_n hx hb dX3_begin_26 rfl (lv_at hl 0 rfl) ?_
  refine vgS hx hb hts hi3 hown hK hP (14) (by decide) (show kd 14 = 3 by decide) (C := RX3) (T := TX3) (N := 6) rfl 4 (by decide) (by decide) (by decide) (by decide) (15) rfl (hts (.fieldLink RX3 18 "CrateHelpers$Solving" "holds" "[I") (by decide +kernel)) (fun _ h9 => h9) dX3_begin_27 ?_
  refine lv_iconst (v := (-1)) hx hb dX3_begin_30 (by decide) ?_
  refine vcSv (As := [.ref (ad 15), .int (-1)]) (rest := []) ⟨hx, hb, hml, hown, hts⟩ (c_fill l D K ad hap0 15 5 (-1) ⟨by decide, by decide, by decide⟩ (by decide) (bgI I w) (up2 G 14 1 E) (fil A (E + 3) 5 0) L) (va_cwS 2 hts gX3_begin_J7_fill_53178 rfl rfl rfl (by decide +kernel) ⟨Nat.le_of_ble_eq_true rfl, Nat.le_of_ble_eq_true rfl⟩) hK hP hS rfl hl.1 (Nat.le_of_ble_eq_true rfl) (Nat.le_of_ble_eq_true rfl) (Nat.le_of_ble_eq_true rfl) dX3_begin_31 (fun u11 H locs hw9 hP hS => ?_) rfl
  obtain ⟨I12, G13, A14, L15⟩ := u11
  have hP : va_P D vwCl (VW K ad I12 G13 A14 L15) H := hP
  have hq := hw9
  injection hq with h1 h2
  injection h2 with h2 h3
  injection h3 with h3 h4
  rw [h1, h2, h3, h4] at hP
  clear h1 h2 h3 h4
  have hP : va_P D vwCl (VW K ad (bgI I w) (up2 G 14 1 E) (fil (fil A (E + 3) 5 0) 15 5 (-1)) L) H := hP
  refine lv_aload_n hx hb dX3_begin_34 rfl (lv_at hl 0 rfl) ?_
  refine vgS hx hb hts hi3 hown hK hP (14) (by decide) (show kd 14 = 3 by decide) (C := RX3) (T := TX3) (N := 6) rfl 5 (by decide) (by decide) (by decide) (by decide) (16) rfl (hts (.fieldLink RX3 22 "CrateHelpers$Solving" "had" "[I") (by decide +kernel)) (fun _ h9 => h9) dX3_begin_35 ?_
  refine lv_iconst (v := 0) hx hb dX3_begin_38 (by decide) ?_
  refine vcSv (As := [.ref (ad 16), .int 0]) (rest := []) ⟨hx, hb, hml, hown, hts⟩ (c_fill l D K ad hap0 16 5 0 ⟨by decide, by decide, by decide⟩ (by decide) (bgI I w) (up2 G 14 1 E) (fil (fil A (E + 3) 5 0) 15 5 (-1)) L) (va_cwS 2 hts gX3_begin_J7_fill_53178 rfl rfl rfl (by decide +kernel) ⟨Nat.le_of_ble_eq_true rfl, Nat.le_of_ble_eq_true rfl⟩) hK hP hS rfl hl.1 (Nat.le_of_ble_eq_true rfl) (Nat.le_of_ble_eq_true rfl) (Nat.le_of_ble_eq_true rfl) dX3_begin_39 (fun u17 H locs hw9 hP hS => ?_) rfl
  obtain ⟨I18, G19, A20, L21⟩ := u17
  have hP : va_P D vwCl (VW K ad I18 G19 A20 L21) H := hP
  have hq := hw9
  injection hq with h1 h2
  injection h2 with h2 h3
  injection h3 with h3 h4
  rw [h1, h2, h3, h4] at hP
  clear h1 h2 h3 h4
  have hP : va_P D vwCl (VW K ad (bgI I w) (up2 G 14 1 E) (bgA A E) L) H := hP
  refine lv_aload_n hx hb dX3_begin_42 rfl (lv_at hl 0 rfl) ?_
  refine vgG hx hb hts hi3 hown hK hP (14) (by decide) (show kd 14 = 3 by decide) (C := RX3) (T := TX3) (N := 6) rfl 0 (by decide) (by decide) (by decide) (by decide) (hts (.fieldLink RX3 30 "CrateHelpers$Solving" "tree" "LCrateHelpers$Tree;") (by decide +kernel)) (fun _ h9 => h9) dX3_begin_43 ?_
  rw [show up2 G 14 1 E 14 0 = T from by rw [up2_k (by decide)]; exact hgT]
  refine lv_aload_n hx hb dX3_begin_46 rfl (lv_at hl 1 rfl) ?_
  refine lv_iconst (v := 1) hx hb dX3_begin_47 (by decide) ?_
  refine vcVv (As := [.ref (ad B), .int 1]) (rest := []) ⟨hx, hb, hml, hown, hts⟩ (c_X5_plant l D K ad hap0 T B nv nr 1 hT hB (Or.inr rfl) (bgI I w) (up2 G 14 1 E) (bgA A E) L (PrW_of hw hB58 (fun j k h => by unfold bgI; rw [up2_j (by omega), up2_j (by omega)]) (fun j k h => by unfold bgA; rw [fil_j (by omega), fil_j (by omega), fil_j (by omega)]))) (cwV 2 hts gX3_begin_X5_plant rfl rfl rfl (by decide +kernel) ⟨Nat.le_of_ble_eq_true rfl, Nat.le_of_ble_eq_true rfl⟩) hK hP hS (by have := (tr_o hT).1; show _ < 378; omega) (tr_o hT).2.1 (by decide) rfl rfl rfl hl.1 (Nat.le_of_ble_eq_true rfl) (Nat.le_of_ble_eq_true rfl) (Nat.le_of_ble_eq_true rfl) dX3_begin_48 (fun u23 H locs hw9 hP hS => ?_) rfl
  obtain ⟨I24, G25, A26, L27⟩ := u23
  have hP : va_P D vwCl (VW K ad I24 G25 A26 L27) H := hP
  have hq : (I24, G25, A26, L27) = plM (bgI I w) (up2 G 14 1 E) (bgA A E) L T B nv nr 1 := hw9
  have hg9 : G25 14 0 = T := by { have h9 : G25 = up2 (up2 G 14 1 E) T 14 B := congrArg (fun q : Mem => q.2.1) hq; rw [h9, up2_j (by omega), up2_k (by decide)]; exact hgT }
  refine lv_aload_n hx hb dX3_begin_51 rfl (lv_at hl 0 rfl) ?_
  refine vgG hx hb hts hi3 hown hK hP (14) (by decide) (show kd 14 = 3 by decide) (C := RX3) (T := TX3) (N := 6) rfl 0 (by decide) (by decide) (by decide) (by decide) (hts (.fieldLink RX3 30 "CrateHelpers$Solving" "tree" "LCrateHelpers$Tree;") (by decide +kernel)) (fun _ h9 => h9) dX3_begin_52 ?_
  rw [hg9]
  refine vgS hx hb hts hi5 hown hK hP (T) (by have := (tr_o hT).1; show _ < 378; omega) (tr_o hT).2.1 (C := RX5) (T := TX5) (N := 16) rfl 2 (by decide) (by decide) (by decide) (by decide) (T + 3) rfl (hts (.fieldLink RX3 53 "CrateHelpers$Tree" "what" "[B") (by decide +kernel)) (fun _ h9 => h9) dX3_begin_55 ?_
  refine lv_iconst (v := 0) hx hb dX3_begin_58 (by decide) ?_
  refine xbald hx hb hK hP (T + 3) (by have := (tr_o hT).1; show _ < 378; omega) (tr_o hT).2.2.2.2.1 hz3 dX3_begin_59 ?_
  rw [show (0 : Int32).toNatClampNeg = 0 by decide]
  refine lv_if_ne (tgt := 67) hx hb dX3_begin_60 (by decide) (fun c_28 => ?_) (fun c_28 => ?_)
  · refine lv_iconst (v := 2) hx hb dX3_begin_67 (by decide) ?_
    exact W.iret (v := 2) hx hb hr (fun t9 ht9 hW9 => ⟨⟨2, (I24, G25, A26, L27), rfl, ⟨by { rw [← hq]; exact (if_neg c_28).symm }, hq⟩, by rw [ht9]; exact hP, va_K.moved hW9.alike hK⟩, hS.F ht9⟩) hS.2.2 dX3_begin_68
  · refine lv_iconst (v := 0) hx hb dX3_begin_63 (by decide) ?_
    refine lv_goto (tgt := 68) hx hb dX3_begin_64 (by decide) ?_
    exact W.iret (v := 0) hx hb hr (fun t9 ht9 hW9 => ⟨⟨0, (I24, G25, A26, L27), rfl, ⟨by { rw [← hq]; exact (if_pos c_28).symm }, hq⟩, by rw [ht9]; exact hP, va_K.moved hW9.alike hK⟩, hS.F ht9⟩) hS.2.2 dX3_begin_68
