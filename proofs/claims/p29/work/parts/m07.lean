/-! part 43.zrows -/
set_option maxRecDepth 20000 in
theorem ggX3_takeTurn_X4_whoHasTurn : GoodIn wsX3_takeTurn wsX4_whoHasTurn := goodIn_g _ [(12, 8), (201, 7)] rfl (by decide +kernel)
set_option maxRecDepth 20000 in
theorem gX3_takeTurn_X4_whoHasTurn : GoodIn wsX3_takeTurn (wsV RX3 57 RX4 yX4_whoHasTurn wsX4_whoHasTurn) := goodIn_app (goodIn_of _ (by decide +kernel)) ggX3_takeTurn_X4_whoHasTurn
set_option maxRecDepth 20000 in
theorem ggX3_takeTurn_X3_pick : GoodIn wsX3_takeTurn wsX3_pick := goodIn_g _ [(24, 1), (6, 1), (25, 2), (1, 1), (27, 2), (3, 2), (29, 9), (195, 6), (208, 16), (201, 7)] rfl (by decide +kernel)
set_option maxRecDepth 20000 in
theorem gX3_takeTurn_X3_pick : GoodIn wsX3_takeTurn (wsV RX3 61 RX3 yX3_pick wsX3_pick) := goodIn_app (goodIn_of _ (by decide +kernel)) ggX3_takeTurn_X3_pick
set_option maxRecDepth 20000 in
theorem ggX3_takeTurn_X3_replace : GoodIn wsX3_takeTurn wsX3_replace := goodIn_g _ [(41, 1), (6, 1), (28, 1), (3, 1), (1, 1), (42, 1), (195, 6), (208, 16), (201, 7)] rfl (by decide +kernel)
set_option maxRecDepth 20000 in
theorem gX3_takeTurn_X3_replace : GoodIn wsX3_takeTurn (wsV RX3 68 RX3 yX3_replace wsX3_replace) := goodIn_app (goodIn_of _ (by decide +kernel)) ggX3_takeTurn_X3_replace
set_option maxRecDepth 20000 in
theorem ggX3_takeTurn_X5_finish : GoodIn wsX3_takeTurn wsX5_finish := goodIn_g _ [(46, 1), (36, 1), (47, 3), (37, 1), (50, 3), (34, 1), (53, 7), (32, 1), (60, 111), (35, 1), (171, 4), (208, 35)] rfl (by decide +kernel)
set_option maxRecDepth 20000 in
theorem gX3_takeTurn_X5_finish : GoodIn wsX3_takeTurn (wsV RX3 71 RX5 yX5_finish wsX5_finish) := goodIn_app (goodIn_of _ (by decide +kernel)) ggX3_takeTurn_X5_finish
set_option maxRecDepth 20000 in
theorem ggX3_takeTurn_X3_walkOn : GoodIn wsX3_takeTurn wsX3_walkOn := goodIn_g _ [(178, 1), (6, 1), (28, 1), (26, 1), (179, 4), (32, 1), (183, 1), (34, 1), (174, 1), (35, 3), (184, 6), (52, 1), (190, 4), (53, 2), (49, 1), (194, 1), (58, 4), (195, 6), (208, 25)] rfl (by decide +kernel)
set_option maxRecDepth 20000 in
theorem gX3_takeTurn_X3_walkOn : GoodIn wsX3_takeTurn (wsV RX3 75 RX3 yX3_walkOn wsX3_walkOn) := goodIn_app (goodIn_of _ (by decide +kernel)) ggX3_takeTurn_X3_walkOn
theorem dX3_takeTurn_0 : decode cX3_takeTurn 0 = .ok (.aload_n 0, 1) := by decide +kernel
theorem dX3_takeTurn_1 : decode cX3_takeTurn 1 = .ok (.getfield 34, 3) := by decide +kernel
theorem dX3_takeTurn_4 : decode cX3_takeTurn 4 = .ok (.aload_n 0, 1) := by decide +kernel
theorem dX3_takeTurn_5 : decode cX3_takeTurn 5 = .ok (.getfield 15, 3) := by decide +kernel
theorem dX3_takeTurn_8 : decode cX3_takeTurn 8 = .ok (.invokevirtual 57, 3) := by decide +kernel
theorem dX3_takeTurn_11 : decode cX3_takeTurn 11 = .ok (.istore_n 1, 1) := by decide +kernel
theorem dX3_takeTurn_12 : decode cX3_takeTurn 12 = .ok (.aload_n 0, 1) := by decide +kernel
theorem dX3_takeTurn_13 : decode cX3_takeTurn 13 = .ok (.dup, 1) := by decide +kernel
theorem dX3_takeTurn_14 : decode cX3_takeTurn 14 = .ok (.getfield 15, 3) := by decide +kernel
theorem dX3_takeTurn_17 : decode cX3_takeTurn 17 = .ok (.iconst 1, 1) := by decide +kernel
theorem dX3_takeTurn_18 : decode cX3_takeTurn 18 = .ok (.iadd, 1) := by decide +kernel
theorem dX3_takeTurn_19 : decode cX3_takeTurn 19 = .ok (.putfield 15, 3) := by decide +kernel
theorem dX3_takeTurn_22 : decode cX3_takeTurn 22 = .ok (.aload_n 0, 1) := by decide +kernel
theorem dX3_takeTurn_23 : decode cX3_takeTurn 23 = .ok (.getfield 18, 3) := by decide +kernel
theorem dX3_takeTurn_26 : decode cX3_takeTurn 26 = .ok (.iload_n 1, 1) := by decide +kernel
theorem dX3_takeTurn_27 : decode cX3_takeTurn 27 = .ok (.iaload, 1) := by decide +kernel
theorem dX3_takeTurn_28 : decode cX3_takeTurn 28 = .ok (.iconst (-1), 1) := by decide +kernel
theorem dX3_takeTurn_29 : decode cX3_takeTurn 29 = .ok (.if_icmp .ne 11, 3) := by decide +kernel
theorem dX3_takeTurn_32 : decode cX3_takeTurn 32 = .ok (.aload_n 0, 1) := by decide +kernel
theorem dX3_takeTurn_33 : decode cX3_takeTurn 33 = .ok (.iload_n 1, 1) := by decide +kernel
theorem dX3_takeTurn_34 : decode cX3_takeTurn 34 = .ok (.invokevirtual 61, 3) := by decide +kernel
theorem dX3_takeTurn_37 : decode cX3_takeTurn 37 = .ok (.goto 63, 3) := by decide +kernel
theorem dX3_takeTurn_40 : decode cX3_takeTurn 40 = .ok (.aload_n 0, 1) := by decide +kernel
theorem dX3_takeTurn_41 : decode cX3_takeTurn 41 = .ok (.getfield 22, 3) := by decide +kernel
theorem dX3_takeTurn_44 : decode cX3_takeTurn 44 = .ok (.iload_n 1, 1) := by decide +kernel
theorem dX3_takeTurn_45 : decode cX3_takeTurn 45 = .ok (.iaload, 1) := by decide +kernel
theorem dX3_takeTurn_46 : decode cX3_takeTurn 46 = .ok (.aload_n 0, 1) := by decide +kernel
theorem dX3_takeTurn_47 : decode cX3_takeTurn 47 = .ok (.getfield 34, 3) := by decide +kernel
theorem dX3_takeTurn_50 : decode cX3_takeTurn 50 = .ok (.getfield 65, 3) := by decide +kernel
theorem dX3_takeTurn_53 : decode cX3_takeTurn 53 = .ok (.iload_n 1, 1) := by decide +kernel
theorem dX3_takeTurn_54 : decode cX3_takeTurn 54 = .ok (.iaload, 1) := by decide +kernel
theorem dX3_takeTurn_55 : decode cX3_takeTurn 55 = .ok (.if_icmp .ne 11, 3) := by decide +kernel
theorem dX3_takeTurn_58 : decode cX3_takeTurn 58 = .ok (.aload_n 0, 1) := by decide +kernel
theorem dX3_takeTurn_59 : decode cX3_takeTurn 59 = .ok (.iload_n 1, 1) := by decide +kernel
theorem dX3_takeTurn_60 : decode cX3_takeTurn 60 = .ok (.invokevirtual 68, 3) := by decide +kernel
theorem dX3_takeTurn_63 : decode cX3_takeTurn 63 = .ok (.goto 37, 3) := by decide +kernel
theorem dX3_takeTurn_66 : decode cX3_takeTurn 66 = .ok (.aload_n 0, 1) := by decide +kernel
theorem dX3_takeTurn_67 : decode cX3_takeTurn 67 = .ok (.getfield 30, 3) := by decide +kernel
theorem dX3_takeTurn_70 : decode cX3_takeTurn 70 = .ok (.aload_n 0, 1) := by decide +kernel
theorem dX3_takeTurn_71 : decode cX3_takeTurn 71 = .ok (.getfield 18, 3) := by decide +kernel
theorem dX3_takeTurn_74 : decode cX3_takeTurn 74 = .ok (.iload_n 1, 1) := by decide +kernel
theorem dX3_takeTurn_75 : decode cX3_takeTurn 75 = .ok (.iaload, 1) := by decide +kernel
theorem dX3_takeTurn_76 : decode cX3_takeTurn 76 = .ok (.iload_n 1, 1) := by decide +kernel
theorem dX3_takeTurn_77 : decode cX3_takeTurn 77 = .ok (.invokevirtual 71, 3) := by decide +kernel
theorem dX3_takeTurn_80 : decode cX3_takeTurn 80 = .ok (.aload_n 0, 1) := by decide +kernel
theorem dX3_takeTurn_81 : decode cX3_takeTurn 81 = .ok (.getfield 34, 3) := by decide +kernel
theorem dX3_takeTurn_84 : decode cX3_takeTurn 84 = .ok (.getfield 38, 3) := by decide +kernel
theorem dX3_takeTurn_87 : decode cX3_takeTurn 87 = .ok (.iload_n 1, 1) := by decide +kernel
theorem dX3_takeTurn_88 : decode cX3_takeTurn 88 = .ok (.dup2, 1) := by decide +kernel
theorem dX3_takeTurn_89 : decode cX3_takeTurn 89 = .ok (.iaload, 1) := by decide +kernel
theorem dX3_takeTurn_90 : decode cX3_takeTurn 90 = .ok (.iconst 1, 1) := by decide +kernel
theorem dX3_takeTurn_91 : decode cX3_takeTurn 91 = .ok (.iadd, 1) := by decide +kernel
theorem dX3_takeTurn_92 : decode cX3_takeTurn 92 = .ok (.iastore, 1) := by decide +kernel
theorem dX3_takeTurn_93 : decode cX3_takeTurn 93 = .ok (.aload_n 0, 1) := by decide +kernel
theorem dX3_takeTurn_94 : decode cX3_takeTurn 94 = .ok (.getfield 18, 3) := by decide +kernel
theorem dX3_takeTurn_97 : decode cX3_takeTurn 97 = .ok (.iload_n 1, 1) := by decide +kernel
theorem dX3_takeTurn_98 : decode cX3_takeTurn 98 = .ok (.iconst (-1), 1) := by decide +kernel
theorem dX3_takeTurn_99 : decode cX3_takeTurn 99 = .ok (.iastore, 1) := by decide +kernel
theorem dX3_takeTurn_100 : decode cX3_takeTurn 100 = .ok (.aload_n 0, 1) := by decide +kernel
theorem dX3_takeTurn_101 : decode cX3_takeTurn 101 = .ok (.invokevirtual 75, 3) := by decide +kernel
theorem dX3_takeTurn_104 : decode cX3_takeTurn 104 = .ok (.ireturn, 1) := by decide +kernel
set_option maxRecDepth 20000 in
theorem ggX3_walkOn_X5_nextOfWalk : GoodIn wsX3_walkOn wsX5_nextOfWalk := goodIn_g _ [(9, 6), (40, 16)] rfl (by decide +kernel)
set_option maxRecDepth 20000 in
theorem gX3_walkOn_X5_nextOfWalk : GoodIn wsX3_walkOn (wsV RX3 96 RX5 yX5_nextOfWalk wsX5_nextOfWalk) := goodIn_app (goodIn_of _ (by decide +kernel)) ggX3_walkOn_X5_nextOfWalk
set_option maxRecDepth 20000 in
theorem ggX3_walkOn_X5_take : GoodIn wsX3_walkOn wsX5_take := goodIn_g _ [(18, 2), (13, 1), (20, 1), (11, 1), (21, 4), (8, 1), (25, 4), (40, 25)] rfl (by decide +kernel)
set_option maxRecDepth 20000 in
theorem gX3_walkOn_X5_take : GoodIn wsX3_walkOn (wsV RX3 99 RX5 yX5_take wsX5_take) := goodIn_app (goodIn_of _ (by decide +kernel)) ggX3_walkOn_X5_take
set_option maxRecDepth 20000 in
theorem ggX3_walkOn_X5_isFull : GoodIn wsX3_walkOn wsX5_isFull := goodIn_g _ [(32, 1), (28, 1), (26, 1), (33, 1), (40, 25)] rfl (by decide +kernel)
set_option maxRecDepth 20000 in
theorem gX3_walkOn_X5_isFull : GoodIn wsX3_walkOn (wsV RX3 102 RX5 yX5_isFull wsX5_isFull) := goodIn_app (goodIn_of _ (by decide +kernel)) ggX3_walkOn_X5_isFull
theorem dX3_walkOn_0 : decode cX3_walkOn 0 = .ok (.iconst 0, 1) := by decide +kernel
theorem dX3_walkOn_1 : decode cX3_walkOn 1 = .ok (.istore_n 1, 1) := by decide +kernel
theorem dX3_walkOn_2 : decode cX3_walkOn 2 = .ok (.iload_n 1, 1) := by decide +kernel
theorem dX3_walkOn_3 : decode cX3_walkOn 3 = .ok (.sipush 250, 3) := by decide +kernel
theorem dX3_walkOn_6 : decode cX3_walkOn 6 = .ok (.if_icmp .ge 91, 3) := by decide +kernel
theorem dX3_walkOn_9 : decode cX3_walkOn 9 = .ok (.aload_n 0, 1) := by decide +kernel
theorem dX3_walkOn_10 : decode cX3_walkOn 10 = .ok (.getfield 30, 3) := by decide +kernel
theorem dX3_walkOn_13 : decode cX3_walkOn 13 = .ok (.invokevirtual 96, 3) := by decide +kernel
theorem dX3_walkOn_16 : decode cX3_walkOn 16 = .ok (.istore_n 2, 1) := by decide +kernel
theorem dX3_walkOn_17 : decode cX3_walkOn 17 = .ok (.iload_n 2, 1) := by decide +kernel
theorem dX3_walkOn_18 : decode cX3_walkOn 18 = .ok (.iconst (-1), 1) := by decide +kernel
theorem dX3_walkOn_19 : decode cX3_walkOn 19 = .ok (.if_icmp .ne 5, 3) := by decide +kernel
theorem dX3_walkOn_22 : decode cX3_walkOn 22 = .ok (.iconst 2, 1) := by decide +kernel
theorem dX3_walkOn_23 : decode cX3_walkOn 23 = .ok (.ireturn, 1) := by decide +kernel
theorem dX3_walkOn_24 : decode cX3_walkOn 24 = .ok (.aload_n 0, 1) := by decide +kernel
theorem dX3_walkOn_25 : decode cX3_walkOn 25 = .ok (.getfield 30, 3) := by decide +kernel
theorem dX3_walkOn_28 : decode cX3_walkOn 28 = .ok (.getfield 90, 3) := by decide +kernel
theorem dX3_walkOn_31 : decode cX3_walkOn 31 = .ok (.iload_n 2, 1) := by decide +kernel
theorem dX3_walkOn_32 : decode cX3_walkOn 32 = .ok (.baload, 1) := by decide +kernel
theorem dX3_walkOn_33 : decode cX3_walkOn 33 = .ok (.iconst 2, 1) := by decide +kernel
theorem dX3_walkOn_34 : decode cX3_walkOn 34 = .ok (.if_icmp .eq 5, 3) := by decide +kernel
theorem dX3_walkOn_37 : decode cX3_walkOn 37 = .ok (.iconst 0, 1) := by decide +kernel
theorem dX3_walkOn_38 : decode cX3_walkOn 38 = .ok (.ireturn, 1) := by decide +kernel
theorem dX3_walkOn_39 : decode cX3_walkOn 39 = .ok (.aload_n 0, 1) := by decide +kernel
theorem dX3_walkOn_40 : decode cX3_walkOn 40 = .ok (.getfield 30, 3) := by decide +kernel
theorem dX3_walkOn_43 : decode cX3_walkOn 43 = .ok (.iload_n 2, 1) := by decide +kernel
theorem dX3_walkOn_44 : decode cX3_walkOn 44 = .ok (.invokevirtual 99, 3) := by decide +kernel
theorem dX3_walkOn_47 : decode cX3_walkOn 47 = .ok (.aload_n 0, 1) := by decide +kernel
theorem dX3_walkOn_48 : decode cX3_walkOn 48 = .ok (.getfield 30, 3) := by decide +kernel
theorem dX3_walkOn_51 : decode cX3_walkOn 51 = .ok (.iload_n 2, 1) := by decide +kernel
theorem dX3_walkOn_52 : decode cX3_walkOn 52 = .ok (.invokevirtual 102, 3) := by decide +kernel
theorem dX3_walkOn_55 : decode cX3_walkOn 55 = .ok (.ifCond .eq 5, 3) := by decide +kernel
theorem dX3_walkOn_58 : decode cX3_walkOn 58 = .ok (.iconst 1, 1) := by decide +kernel
theorem dX3_walkOn_59 : decode cX3_walkOn 59 = .ok (.ireturn, 1) := by decide +kernel
theorem dX3_walkOn_60 : decode cX3_walkOn 60 = .ok (.aload_n 0, 1) := by decide +kernel
theorem dX3_walkOn_61 : decode cX3_walkOn 61 = .ok (.getfield 30, 3) := by decide +kernel
theorem dX3_walkOn_64 : decode cX3_walkOn 64 = .ok (.getfield 81, 3) := by decide +kernel
theorem dX3_walkOn_67 : decode cX3_walkOn 67 = .ok (.sipush 250, 3) := by decide +kernel
theorem dX3_walkOn_70 : decode cX3_walkOn 70 = .ok (.if_icmp .lt 5, 3) := by decide +kernel
theorem dX3_walkOn_73 : decode cX3_walkOn 73 = .ok (.iconst 4, 1) := by decide +kernel
theorem dX3_walkOn_74 : decode cX3_walkOn 74 = .ok (.ireturn, 1) := by decide +kernel
theorem dX3_walkOn_75 : decode cX3_walkOn 75 = .ok (.aload_n 0, 1) := by decide +kernel
theorem dX3_walkOn_76 : decode cX3_walkOn 76 = .ok (.getfield 30, 3) := by decide +kernel
theorem dX3_walkOn_79 : decode cX3_walkOn 79 = .ok (.getfield 81, 3) := by decide +kernel
theorem dX3_walkOn_82 : decode cX3_walkOn 82 = .ok (.aload_n 0, 1) := by decide +kernel
theorem dX3_walkOn_83 : decode cX3_walkOn 83 = .ok (.getfield 9, 3) := by decide +kernel
theorem dX3_walkOn_86 : decode cX3_walkOn 86 = .ok (.if_icmp .ne 5, 3) := by decide +kernel
theorem dX3_walkOn_89 : decode cX3_walkOn 89 = .ok (.iconst 3, 1) := by decide +kernel
theorem dX3_walkOn_90 : decode cX3_walkOn 90 = .ok (.ireturn, 1) := by decide +kernel
theorem dX3_walkOn_91 : decode cX3_walkOn 91 = .ok (.iinc 1 1, 3) := by decide +kernel
theorem dX3_walkOn_94 : decode cX3_walkOn 94 = .ok (.goto (-92), 3) := by decide +kernel
theorem dX3_walkOn_97 : decode cX3_walkOn 97 = .ok (.iconst 0, 1) := by decide +kernel
theorem dX3_walkOn_98 : decode cX3_walkOn 98 = .ok (.ireturn, 1) := by decide +kernel
set_option maxRecDepth 20000 in
theorem ggX3_sumUp_X5_nextOfWalk : GoodIn wsX3_sumUp wsX5_nextOfWalk := goodIn_g _ [(11, 6), (44, 16)] rfl (by decide +kernel)
set_option maxRecDepth 20000 in
theorem gX3_sumUp_X5_nextOfWalk : GoodIn wsX3_sumUp (wsV RX3 96 RX5 yX5_nextOfWalk wsX5_nextOfWalk) := goodIn_app (goodIn_of _ (by decide +kernel)) ggX3_sumUp_X5_nextOfWalk
set_option maxRecDepth 20000 in
theorem ggX3_sumUp_X5_boundOf : GoodIn wsX3_sumUp wsX5_boundOf := goodIn_g _ [(20, 1), (16, 1), (44, 16)] rfl (by decide +kernel)
set_option maxRecDepth 20000 in
theorem gX3_sumUp_X5_boundOf : GoodIn wsX3_sumUp (wsV RX3 110 RX5 yX5_boundOf wsX5_boundOf) := goodIn_app (goodIn_of _ (by decide +kernel)) ggX3_sumUp_X5_boundOf
set_option maxRecDepth 20000 in
theorem ggX3_sumUp_J7_fill_53178 : GoodIn wsX3_sumUp wsJ7_fill_53178 := goodIn_g _ [(24, 1)] rfl (by decide +kernel)
set_option maxRecDepth 20000 in
theorem gX3_sumUp_J7_fill_53178 : GoodIn wsX3_sumUp (va_wsS RX3 43 yJ7_fill_53178 wsJ7_fill_53178) := goodIn_app (goodIn_of _ (by decide +kernel)) ggX3_sumUp_J7_fill_53178
set_option maxRecDepth 20000 in
theorem ggX3_sumUp_X5_copyValues : GoodIn wsX3_sumUp wsX5_copyValues := goodIn_g _ [(28, 5), (10, 1), (33, 1), (16, 1), (34, 4), (44, 16)] rfl (by decide +kernel)
set_option maxRecDepth 20000 in
theorem gX3_sumUp_X5_copyValues : GoodIn wsX3_sumUp (wsV RX3 113 RX5 yX5_copyValues wsX5_copyValues) := goodIn_app (goodIn_of _ (by decide +kernel)) ggX3_sumUp_X5_copyValues
theorem dX3_sumUp_0 : decode cX3_sumUp 0 = .ok (.iload_n 1, 1) := by decide +kernel
theorem dX3_sumUp_1 : decode cX3_sumUp 1 = .ok (.iconst 1, 1) := by decide +kernel
theorem dX3_sumUp_2 : decode cX3_sumUp 2 = .ok (.if_icmp .ne 17, 3) := by decide +kernel
theorem dX3_sumUp_5 : decode cX3_sumUp 5 = .ok (.aload_n 0, 1) := by decide +kernel
theorem dX3_sumUp_6 : decode cX3_sumUp 6 = .ok (.getfield 30, 3) := by decide +kernel
theorem dX3_sumUp_9 : decode cX3_sumUp 9 = .ok (.getfield 81, 3) := by decide +kernel
theorem dX3_sumUp_12 : decode cX3_sumUp 12 = .ok (.ifCond .le 7, 3) := by decide +kernel
theorem dX3_sumUp_15 : decode cX3_sumUp 15 = .ok (.iconst 1, 1) := by decide +kernel
theorem dX3_sumUp_16 : decode cX3_sumUp 16 = .ok (.goto 4, 3) := by decide +kernel
theorem dX3_sumUp_19 : decode cX3_sumUp 19 = .ok (.iconst 0, 1) := by decide +kernel
theorem dX3_sumUp_20 : decode cX3_sumUp 20 = .ok (.istore_n 3, 1) := by decide +kernel
theorem dX3_sumUp_21 : decode cX3_sumUp 21 = .ok (.iload_n 3, 1) := by decide +kernel
theorem dX3_sumUp_22 : decode cX3_sumUp 22 = .ok (.ifCond .eq 23, 3) := by decide +kernel
theorem dX3_sumUp_25 : decode cX3_sumUp 25 = .ok (.aload_n 0, 1) := by decide +kernel
theorem dX3_sumUp_26 : decode cX3_sumUp 26 = .ok (.getfield 30, 3) := by decide +kernel
theorem dX3_sumUp_29 : decode cX3_sumUp 29 = .ok (.getfield 106, 3) := by decide +kernel
theorem dX3_sumUp_32 : decode cX3_sumUp 32 = .ok (.aload_n 0, 1) := by decide +kernel
theorem dX3_sumUp_33 : decode cX3_sumUp 33 = .ok (.getfield 30, 3) := by decide +kernel
theorem dX3_sumUp_36 : decode cX3_sumUp 36 = .ok (.getfield 81, 3) := by decide +kernel
theorem dX3_sumUp_39 : decode cX3_sumUp 39 = .ok (.iconst 1, 1) := by decide +kernel
theorem dX3_sumUp_40 : decode cX3_sumUp 40 = .ok (.isub, 1) := by decide +kernel
theorem dX3_sumUp_41 : decode cX3_sumUp 41 = .ok (.iaload, 1) := by decide +kernel
theorem dX3_sumUp_42 : decode cX3_sumUp 42 = .ok (.goto 10, 3) := by decide +kernel
theorem dX3_sumUp_45 : decode cX3_sumUp 45 = .ok (.aload_n 0, 1) := by decide +kernel
theorem dX3_sumUp_46 : decode cX3_sumUp 46 = .ok (.getfield 30, 3) := by decide +kernel
theorem dX3_sumUp_49 : decode cX3_sumUp 49 = .ok (.invokevirtual 96, 3) := by decide +kernel
theorem dX3_sumUp_52 : decode cX3_sumUp 52 = .ok (.istore 4, 2) := by decide +kernel
theorem dX3_sumUp_54 : decode cX3_sumUp 54 = .ok (.iload 4, 2) := by decide +kernel
theorem dX3_sumUp_56 : decode cX3_sumUp 56 = .ok (.iconst (-1), 1) := by decide +kernel
theorem dX3_sumUp_57 : decode cX3_sumUp 57 = .ok (.if_icmp .ne 8, 3) := by decide +kernel
theorem dX3_sumUp_60 : decode cX3_sumUp 60 = .ok (.ldc 109, 2) := by decide +kernel
theorem dX3_sumUp_62 : decode cX3_sumUp 62 = .ok (.goto 12, 3) := by decide +kernel
theorem dX3_sumUp_65 : decode cX3_sumUp 65 = .ok (.aload_n 0, 1) := by decide +kernel
theorem dX3_sumUp_66 : decode cX3_sumUp 66 = .ok (.getfield 30, 3) := by decide +kernel
theorem dX3_sumUp_69 : decode cX3_sumUp 69 = .ok (.iload 4, 2) := by decide +kernel
theorem dX3_sumUp_71 : decode cX3_sumUp 71 = .ok (.invokevirtual 110, 3) := by decide +kernel
theorem dX3_sumUp_74 : decode cX3_sumUp 74 = .ok (.istore 5, 2) := by decide +kernel
theorem dX3_sumUp_76 : decode cX3_sumUp 76 = .ok (.aload_n 2, 1) := by decide +kernel
theorem dX3_sumUp_77 : decode cX3_sumUp 77 = .ok (.bipush (-9), 2) := by decide +kernel
theorem dX3_sumUp_79 : decode cX3_sumUp 79 = .ok (.invokestatic 43, 3) := by decide +kernel
theorem dX3_sumUp_82 : decode cX3_sumUp 82 = .ok (.aload_n 2, 1) := by decide +kernel
theorem dX3_sumUp_83 : decode cX3_sumUp 83 = .ok (.iconst 0, 1) := by decide +kernel
theorem dX3_sumUp_84 : decode cX3_sumUp 84 = .ok (.iload_n 1, 1) := by decide +kernel
theorem dX3_sumUp_85 : decode cX3_sumUp 85 = .ok (.iastore, 1) := by decide +kernel
theorem dX3_sumUp_86 : decode cX3_sumUp 86 = .ok (.aload_n 2, 1) := by decide +kernel
theorem dX3_sumUp_87 : decode cX3_sumUp 87 = .ok (.iconst 1, 1) := by decide +kernel
theorem dX3_sumUp_88 : decode cX3_sumUp 88 = .ok (.aload_n 0, 1) := by decide +kernel
theorem dX3_sumUp_89 : decode cX3_sumUp 89 = .ok (.getfield 30, 3) := by decide +kernel
theorem dX3_sumUp_92 : decode cX3_sumUp 92 = .ok (.getfield 81, 3) := by decide +kernel
theorem dX3_sumUp_95 : decode cX3_sumUp 95 = .ok (.iastore, 1) := by decide +kernel
theorem dX3_sumUp_96 : decode cX3_sumUp 96 = .ok (.aload_n 2, 1) := by decide +kernel
theorem dX3_sumUp_97 : decode cX3_sumUp 97 = .ok (.iconst 2, 1) := by decide +kernel
theorem dX3_sumUp_98 : decode cX3_sumUp 98 = .ok (.aload_n 0, 1) := by decide +kernel
theorem dX3_sumUp_99 : decode cX3_sumUp 99 = .ok (.getfield 30, 3) := by decide +kernel
theorem dX3_sumUp_102 : decode cX3_sumUp 102 = .ok (.getfield 79, 3) := by decide +kernel
theorem dX3_sumUp_105 : decode cX3_sumUp 105 = .ok (.iastore, 1) := by decide +kernel
theorem dX3_sumUp_106 : decode cX3_sumUp 106 = .ok (.aload_n 2, 1) := by decide +kernel
theorem dX3_sumUp_107 : decode cX3_sumUp 107 = .ok (.iconst 3, 1) := by decide +kernel
theorem dX3_sumUp_108 : decode cX3_sumUp 108 = .ok (.aload_n 0, 1) := by decide +kernel
theorem dX3_sumUp_109 : decode cX3_sumUp 109 = .ok (.getfield 15, 3) := by decide +kernel
theorem dX3_sumUp_112 : decode cX3_sumUp 112 = .ok (.iastore, 1) := by decide +kernel
theorem dX3_sumUp_113 : decode cX3_sumUp 113 = .ok (.aload_n 2, 1) := by decide +kernel
theorem dX3_sumUp_114 : decode cX3_sumUp 114 = .ok (.iconst 4, 1) := by decide +kernel
theorem dX3_sumUp_115 : decode cX3_sumUp 115 = .ok (.iload_n 3, 1) := by decide +kernel
theorem dX3_sumUp_116 : decode cX3_sumUp 116 = .ok (.ifCond .eq 8, 3) := by decide +kernel
theorem dX3_sumUp_119 : decode cX3_sumUp 119 = .ok (.iload 5, 2) := by decide +kernel
theorem dX3_sumUp_121 : decode cX3_sumUp 121 = .ok (.goto 5, 3) := by decide +kernel
theorem dX3_sumUp_124 : decode cX3_sumUp 124 = .ok (.ldc 109, 2) := by decide +kernel
theorem dX3_sumUp_126 : decode cX3_sumUp 126 = .ok (.iastore, 1) := by decide +kernel
theorem dX3_sumUp_127 : decode cX3_sumUp 127 = .ok (.aload_n 2, 1) := by decide +kernel
theorem dX3_sumUp_128 : decode cX3_sumUp 128 = .ok (.iconst 5, 1) := by decide +kernel
theorem dX3_sumUp_129 : decode cX3_sumUp 129 = .ok (.iload 5, 2) := by decide +kernel
theorem dX3_sumUp_131 : decode cX3_sumUp 131 = .ok (.iastore, 1) := by decide +kernel
theorem dX3_sumUp_132 : decode cX3_sumUp 132 = .ok (.iload_n 3, 1) := by decide +kernel
theorem dX3_sumUp_133 : decode cX3_sumUp 133 = .ok (.ifCond .eq 15, 3) := by decide +kernel
theorem dX3_sumUp_136 : decode cX3_sumUp 136 = .ok (.aload_n 0, 1) := by decide +kernel
theorem dX3_sumUp_137 : decode cX3_sumUp 137 = .ok (.getfield 30, 3) := by decide +kernel
theorem dX3_sumUp_140 : decode cX3_sumUp 140 = .ok (.iload 4, 2) := by decide +kernel
theorem dX3_sumUp_142 : decode cX3_sumUp 142 = .ok (.aload_n 2, 1) := by decide +kernel
theorem dX3_sumUp_143 : decode cX3_sumUp 143 = .ok (.bipush 6, 2) := by decide +kernel
theorem dX3_sumUp_145 : decode cX3_sumUp 145 = .ok (.invokevirtual 113, 3) := by decide +kernel
theorem dX3_sumUp_148 : decode cX3_sumUp 148 = .ok (.return_, 1) := by decide +kernel
set_option maxRecDepth 20000 in
theorem ggX5_finish_X5_isFull : GoodIn wsX5_finish wsX5_isFull := goodIn_g _ [(18, 1), (4, 1), (10, 1), (19, 1), (134, 25)] rfl (by decide +kernel)
set_option maxRecDepth 20000 in
theorem gX5_finish_X5_isFull : GoodIn wsX5_finish (wsV RX5 98 RX5 yX5_isFull wsX5_isFull) := goodIn_app (goodIn_of _ (by decide +kernel)) ggX5_finish_X5_isFull
set_option maxRecDepth 20000 in
theorem ggX5_finish_J7_fill_53178 : GoodIn wsX5_finish wsJ7_fill_53178 := goodIn_g _ [(23, 1)] rfl (by decide +kernel)
set_option maxRecDepth 20000 in
theorem gX5_finish_J7_fill_53178 : GoodIn wsX5_finish (va_wsS RX5 77 yJ7_fill_53178 wsJ7_fill_53178) := goodIn_app (goodIn_of _ (by decide +kernel)) ggX5_finish_J7_fill_53178
set_option maxRecDepth 20000 in
theorem ggX5_finish_X5_copyValues : GoodIn wsX5_finish wsX5_copyValues := goodIn_g _ [(27, 1), (4, 1), (28, 3), (17, 1), (31, 1), (5, 1), (32, 4), (134, 16)] rfl (by decide +kernel)
set_option maxRecDepth 20000 in
theorem gX5_finish_X5_copyValues : GoodIn wsX5_finish (wsV RX5 104 RX5 yX5_copyValues wsX5_copyValues) := goodIn_app (goodIn_of _ (by decide +kernel)) ggX5_finish_X5_copyValues
set_option maxRecDepth 20000 in
theorem ggX5_finish_X0_look : GoodIn wsX5_finish wsX0_look := goodIn_g _ [(40, 62), (39, 1), (102, 22), (150, 19)] rfl (by decide +kernel)
set_option maxRecDepth 20000 in
theorem gX5_finish_X0_look : GoodIn wsX5_finish (wsV RX5 83 RX0 yX0_look wsX0_look) := goodIn_app (goodIn_of _ (by decide +kernel)) ggX5_finish_X0_look
set_option maxRecDepth 20000 in
theorem ggX5_finish_X5_shiftOf : GoodIn wsX5_finish wsX5_shiftOf := goodIn_g _ [(35, 1)] rfl (by decide +kernel)
set_option maxRecDepth 20000 in
theorem gX5_finish_X5_shiftOf : GoodIn wsX5_finish (va_wsS RX5 113 yX5_shiftOf wsX5_shiftOf) := goodIn_app (goodIn_of _ (by decide +kernel)) ggX5_finish_X5_shiftOf
set_option maxRecDepth 20000 in
theorem ggX5_finish_X5_addJudged : GoodIn wsX5_finish wsX5_addJudged := goodIn_g _ [(127, 1), (5, 1), (9, 1), (12, 1), (128, 1), (4, 1), (129, 4), (1, 2), (8, 1), (133, 17), (159, 3)] rfl (by decide +kernel)
set_option maxRecDepth 20000 in
theorem gX5_finish_X5_addJudged : GoodIn wsX5_finish (wsV RX5 87 RX5 yX5_addJudged wsX5_addJudged) := goodIn_app (goodIn_of _ (by decide +kernel)) ggX5_finish_X5_addJudged
theorem dX5_finish_0 : decode cX5_finish 0 = .ok (.aload_n 0, 1) := by decide +kernel
theorem dX5_finish_1 : decode cX5_finish 1 = .ok (.getfield 63, 3) := by decide +kernel
theorem dX5_finish_4 : decode cX5_finish 4 = .ok (.iload_n 1, 1) := by decide +kernel
theorem dX5_finish_5 : decode cX5_finish 5 = .ok (.iconst 2, 1) := by decide +kernel
theorem dX5_finish_6 : decode cX5_finish 6 = .ok (.bastore, 1) := by decide +kernel
theorem dX5_finish_7 : decode cX5_finish 7 = .ok (.aload_n 0, 1) := by decide +kernel
theorem dX5_finish_8 : decode cX5_finish 8 = .ok (.getfield 66, 3) := by decide +kernel
theorem dX5_finish_11 : decode cX5_finish 11 = .ok (.iload_n 1, 1) := by decide +kernel
theorem dX5_finish_12 : decode cX5_finish 12 = .ok (.iload_n 2, 1) := by decide +kernel
theorem dX5_finish_13 : decode cX5_finish 13 = .ok (.i2b, 1) := by decide +kernel
theorem dX5_finish_14 : decode cX5_finish 14 = .ok (.bastore, 1) := by decide +kernel
theorem dX5_finish_15 : decode cX5_finish 15 = .ok (.aload_n 0, 1) := by decide +kernel
theorem dX5_finish_16 : decode cX5_finish 16 = .ok (.dup, 1) := by decide +kernel
theorem dX5_finish_17 : decode cX5_finish 17 = .ok (.getfield 19, 3) := by decide +kernel
theorem dX5_finish_20 : decode cX5_finish 20 = .ok (.iconst 1, 1) := by decide +kernel
theorem dX5_finish_21 : decode cX5_finish 21 = .ok (.iadd, 1) := by decide +kernel
theorem dX5_finish_22 : decode cX5_finish 22 = .ok (.putfield 19, 3) := by decide +kernel
theorem dX5_finish_25 : decode cX5_finish 25 = .ok (.aload_n 0, 1) := by decide +kernel
theorem dX5_finish_26 : decode cX5_finish 26 = .ok (.iload_n 1, 1) := by decide +kernel
theorem dX5_finish_27 : decode cX5_finish 27 = .ok (.invokevirtual 98, 3) := by decide +kernel
theorem dX5_finish_30 : decode cX5_finish 30 = .ok (.ifCond .eq 4, 3) := by decide +kernel
theorem dX5_finish_33 : decode cX5_finish 33 = .ok (.return_, 1) := by decide +kernel
theorem dX5_finish_34 : decode cX5_finish 34 = .ok (.aload_n 0, 1) := by decide +kernel
theorem dX5_finish_35 : decode cX5_finish 35 = .ok (.getfield 53, 3) := by decide +kernel
theorem dX5_finish_38 : decode cX5_finish 38 = .ok (.iload_n 1, 1) := by decide +kernel
theorem dX5_finish_39 : decode cX5_finish 39 = .ok (.baload, 1) := by decide +kernel
theorem dX5_finish_40 : decode cX5_finish 40 = .ok (.istore_n 3, 1) := by decide +kernel
theorem dX5_finish_41 : decode cX5_finish 41 = .ok (.aload_n 0, 1) := by decide +kernel
theorem dX5_finish_42 : decode cX5_finish 42 = .ok (.getfield 49, 3) := by decide +kernel
theorem dX5_finish_45 : decode cX5_finish 45 = .ok (.iload_n 1, 1) := by decide +kernel
theorem dX5_finish_46 : decode cX5_finish 46 = .ok (.laload, 1) := by decide +kernel
theorem dX5_finish_47 : decode cX5_finish 47 = .ok (.ldc2_w 102, 3) := by decide +kernel
theorem dX5_finish_50 : decode cX5_finish 50 = .ok (.land, 1) := by decide +kernel
theorem dX5_finish_51 : decode cX5_finish 51 = .ok (.lstore 4, 2) := by decide +kernel
theorem dX5_finish_53 : decode cX5_finish 53 = .ok (.aload_n 0, 1) := by decide +kernel
theorem dX5_finish_54 : decode cX5_finish 54 = .ok (.getfield 25, 3) := by decide +kernel
theorem dX5_finish_57 : decode cX5_finish 57 = .ok (.iconst (-1), 1) := by decide +kernel
theorem dX5_finish_58 : decode cX5_finish 58 = .ok (.invokestatic 77, 3) := by decide +kernel
theorem dX5_finish_61 : decode cX5_finish 61 = .ok (.aload_n 0, 1) := by decide +kernel
theorem dX5_finish_62 : decode cX5_finish 62 = .ok (.iload_n 1, 1) := by decide +kernel
theorem dX5_finish_63 : decode cX5_finish 63 = .ok (.aload_n 0, 1) := by decide +kernel
theorem dX5_finish_64 : decode cX5_finish 64 = .ok (.getfield 25, 3) := by decide +kernel
theorem dX5_finish_67 : decode cX5_finish 67 = .ok (.iconst 0, 1) := by decide +kernel
theorem dX5_finish_68 : decode cX5_finish 68 = .ok (.invokevirtual 104, 3) := by decide +kernel
theorem dX5_finish_71 : decode cX5_finish 71 = .ok (.aload_n 0, 1) := by decide +kernel
theorem dX5_finish_72 : decode cX5_finish 72 = .ok (.getfield 69, 3) := by decide +kernel
theorem dX5_finish_75 : decode cX5_finish 75 = .ok (.iload_n 1, 1) := by decide +kernel
theorem dX5_finish_76 : decode cX5_finish 76 = .ok (.aload_n 0, 1) := by decide +kernel
theorem dX5_finish_77 : decode cX5_finish 77 = .ok (.getfield 15, 3) := by decide +kernel
theorem dX5_finish_80 : decode cX5_finish 80 = .ok (.i2s, 1) := by decide +kernel
theorem dX5_finish_81 : decode cX5_finish 81 = .ok (.sastore, 1) := by decide +kernel
theorem dX5_finish_82 : decode cX5_finish 82 = .ok (.iconst 0, 1) := by decide +kernel
theorem dX5_finish_83 : decode cX5_finish 83 = .ok (.istore 6, 2) := by decide +kernel
theorem dX5_finish_85 : decode cX5_finish 85 = .ok (.iload 6, 2) := by decide +kernel
theorem dX5_finish_87 : decode cX5_finish 87 = .ok (.aload_n 0, 1) := by decide +kernel
theorem dX5_finish_88 : decode cX5_finish 88 = .ok (.getfield 45, 3) := by decide +kernel
theorem dX5_finish_91 : decode cX5_finish 91 = .ok (.getfield 108, 3) := by decide +kernel
theorem dX5_finish_94 : decode cX5_finish 94 = .ok (.iload_n 3, 1) := by decide +kernel
theorem dX5_finish_95 : decode cX5_finish 95 = .ok (.iaload, 1) := by decide +kernel
theorem dX5_finish_96 : decode cX5_finish 96 = .ok (.if_icmp .ge 71, 3) := by decide +kernel
theorem dX5_finish_99 : decode cX5_finish 99 = .ok (.aload_n 0, 1) := by decide +kernel
theorem dX5_finish_100 : decode cX5_finish 100 = .ok (.getfield 15, 3) := by decide +kernel
theorem dX5_finish_103 : decode cX5_finish 103 = .ok (.aload_n 0, 1) := by decide +kernel
theorem dX5_finish_104 : decode cX5_finish 104 = .ok (.getfield 49, 3) := by decide +kernel
theorem dX5_finish_107 : decode cX5_finish 107 = .ok (.arraylength, 1) := by decide +kernel
theorem dX5_finish_108 : decode cX5_finish 108 = .ok (.if_icmp .ge 59, 3) := by decide +kernel
theorem dX5_finish_111 : decode cX5_finish 111 = .ok (.aload_n 0, 1) := by decide +kernel
theorem dX5_finish_112 : decode cX5_finish 112 = .ok (.getfield 25, 3) := by decide +kernel
theorem dX5_finish_115 : decode cX5_finish 115 = .ok (.iload_n 3, 1) := by decide +kernel
theorem dX5_finish_116 : decode cX5_finish 116 = .ok (.iload 6, 2) := by decide +kernel
theorem dX5_finish_118 : decode cX5_finish 118 = .ok (.iastore, 1) := by decide +kernel
theorem dX5_finish_119 : decode cX5_finish 119 = .ok (.aload_n 0, 1) := by decide +kernel
theorem dX5_finish_120 : decode cX5_finish 120 = .ok (.getfield 31, 3) := by decide +kernel
theorem dX5_finish_123 : decode cX5_finish 123 = .ok (.aload_n 0, 1) := by decide +kernel
theorem dX5_finish_124 : decode cX5_finish 124 = .ok (.getfield 45, 3) := by decide +kernel
theorem dX5_finish_127 : decode cX5_finish 127 = .ok (.aload_n 0, 1) := by decide +kernel
theorem dX5_finish_128 : decode cX5_finish 128 = .ok (.getfield 25, 3) := by decide +kernel
theorem dX5_finish_131 : decode cX5_finish 131 = .ok (.iload_n 3, 1) := by decide +kernel
theorem dX5_finish_132 : decode cX5_finish 132 = .ok (.iconst 1, 1) := by decide +kernel
theorem dX5_finish_133 : decode cX5_finish 133 = .ok (.iadd, 1) := by decide +kernel
theorem dX5_finish_134 : decode cX5_finish 134 = .ok (.aload_n 0, 1) := by decide +kernel
theorem dX5_finish_135 : decode cX5_finish 135 = .ok (.getfield 35, 3) := by decide +kernel
theorem dX5_finish_138 : decode cX5_finish 138 = .ok (.invokevirtual 83, 3) := by decide +kernel
theorem dX5_finish_141 : decode cX5_finish 141 = .ok (.aload_n 0, 1) := by decide +kernel
theorem dX5_finish_142 : decode cX5_finish 142 = .ok (.iload_n 3, 1) := by decide +kernel
theorem dX5_finish_143 : decode cX5_finish 143 = .ok (.iconst 1, 1) := by decide +kernel
theorem dX5_finish_144 : decode cX5_finish 144 = .ok (.iadd, 1) := by decide +kernel
theorem dX5_finish_145 : decode cX5_finish 145 = .ok (.lload 4, 2) := by decide +kernel
theorem dX5_finish_147 : decode cX5_finish 147 = .ok (.iload 6, 2) := by decide +kernel
theorem dX5_finish_149 : decode cX5_finish 149 = .ok (.iconst 1, 1) := by decide +kernel
theorem dX5_finish_150 : decode cX5_finish 150 = .ok (.iadd, 1) := by decide +kernel
theorem dX5_finish_151 : decode cX5_finish 151 = .ok (.i2l, 1) := by decide +kernel
theorem dX5_finish_152 : decode cX5_finish 152 = .ok (.iload_n 3, 1) := by decide +kernel
theorem dX5_finish_153 : decode cX5_finish 153 = .ok (.invokestatic 113, 3) := by decide +kernel
theorem dX5_finish_156 : decode cX5_finish 156 = .ok (.lshl, 1) := by decide +kernel
theorem dX5_finish_157 : decode cX5_finish 157 = .ok (.lor, 1) := by decide +kernel
theorem dX5_finish_158 : decode cX5_finish 158 = .ok (.invokevirtual 87, 3) := by decide +kernel
theorem dX5_finish_161 : decode cX5_finish 161 = .ok (.iinc 6 1, 3) := by decide +kernel
theorem dX5_finish_164 : decode cX5_finish 164 = .ok (.goto (-79), 3) := by decide +kernel
theorem dX5_finish_167 : decode cX5_finish 167 = .ok (.return_, 1) := by decide +kernel
set_option maxRecDepth 20000 in
theorem ggX6_variable_X6_isProblem : GoodIn wsX6_variable wsX6_isProblem := goodIn_g _ [(8, 4), (7, 1), (12, 1), (27, 18)] rfl (by decide +kernel)
set_option maxRecDepth 20000 in
theorem gX6_variable_X6_isProblem : GoodIn wsX6_variable (wsV RX6 95 RX6 yX6_isProblem wsX6_isProblem) := goodIn_app (goodIn_of _ (by decide +kernel)) ggX6_variable_X6_isProblem
set_option maxRecDepth 20000 in
theorem ggX6_variable_X6_isWithin : GoodIn wsX6_variable wsX6_isWithin := goodIn_g _ [(12, 1)] rfl (by decide +kernel)
set_option maxRecDepth 20000 in
theorem gX6_variable_X6_isWithin : GoodIn wsX6_variable (va_wsS RX6 99 yX6_isWithin wsX6_isWithin) := goodIn_app (goodIn_of _ (by decide +kernel)) ggX6_variable_X6_isWithin
set_option maxRecDepth 20000 in
theorem ggX6_variable_X1_addVariable : GoodIn wsX6_variable wsX1_addVariable := goodIn_g _ [(17, 7), (16, 1), (24, 3), (45, 9)] rfl (by decide +kernel)
set_option maxRecDepth 20000 in
theorem gX6_variable_X1_addVariable : GoodIn wsX6_variable (wsV RX6 106 RX1 yX1_addVariable wsX1_addVariable) := goodIn_app (goodIn_of _ (by decide +kernel)) ggX6_variable_X1_addVariable
theorem dX6_variable_0 : decode cX6_variable 0 = .ok (.aload_n 0, 1) := by decide +kernel
theorem dX6_variable_1 : decode cX6_variable 1 = .ok (.iload_n 1, 1) := by decide +kernel
theorem dX6_variable_2 : decode cX6_variable 2 = .ok (.invokevirtual 95, 3) := by decide +kernel
theorem dX6_variable_5 : decode cX6_variable 5 = .ok (.ifCond .eq 22, 3) := by decide +kernel
theorem dX6_variable_8 : decode cX6_variable 8 = .ok (.iload_n 2, 1) := by decide +kernel
theorem dX6_variable_9 : decode cX6_variable 9 = .ok (.iconst 1, 1) := by decide +kernel
theorem dX6_variable_10 : decode cX6_variable 10 = .ok (.bipush 6, 2) := by decide +kernel
theorem dX6_variable_12 : decode cX6_variable 12 = .ok (.invokestatic 99, 3) := by decide +kernel
theorem dX6_variable_15 : decode cX6_variable 15 = .ok (.ifCond .eq 12, 3) := by decide +kernel
theorem dX6_variable_18 : decode cX6_variable 18 = .ok (.iload_n 3, 1) := by decide +kernel
theorem dX6_variable_19 : decode cX6_variable 19 = .ok (.iconst 0, 1) := by decide +kernel
theorem dX6_variable_20 : decode cX6_variable 20 = .ok (.iconst 3, 1) := by decide +kernel
theorem dX6_variable_21 : decode cX6_variable 21 = .ok (.invokestatic 99, 3) := by decide +kernel
theorem dX6_variable_24 : decode cX6_variable 24 = .ok (.ifCond .ne 5, 3) := by decide +kernel
theorem dX6_variable_27 : decode cX6_variable 27 = .ok (.iconst (-1), 1) := by decide +kernel
theorem dX6_variable_28 : decode cX6_variable 28 = .ok (.ireturn, 1) := by decide +kernel
theorem dX6_variable_29 : decode cX6_variable 29 = .ok (.aload_n 0, 1) := by decide +kernel
theorem dX6_variable_30 : decode cX6_variable 30 = .ok (.getfield 29, 3) := by decide +kernel
theorem dX6_variable_33 : decode cX6_variable 33 = .ok (.bipush (-9), 2) := by decide +kernel
theorem dX6_variable_35 : decode cX6_variable 35 = .ok (.if_icmp .eq 6, 3) := by decide +kernel
theorem dX6_variable_38 : decode cX6_variable 38 = .ok (.bipush (-2), 2) := by decide +kernel
theorem dX6_variable_40 : decode cX6_variable 40 = .ok (.ireturn, 1) := by decide +kernel
theorem dX6_variable_41 : decode cX6_variable 41 = .ok (.aload_n 0, 1) := by decide +kernel
theorem dX6_variable_42 : decode cX6_variable 42 = .ok (.getfield 11, 3) := by decide +kernel
theorem dX6_variable_45 : decode cX6_variable 45 = .ok (.iload_n 1, 1) := by decide +kernel
theorem dX6_variable_46 : decode cX6_variable 46 = .ok (.aaload, 1) := by decide +kernel
theorem dX6_variable_47 : decode cX6_variable 47 = .ok (.astore 4, 2) := by decide +kernel
theorem dX6_variable_49 : decode cX6_variable 49 = .ok (.aload 4, 2) := by decide +kernel
theorem dX6_variable_51 : decode cX6_variable 51 = .ok (.getfield 103, 3) := by decide +kernel
theorem dX6_variable_54 : decode cX6_variable 54 = .ok (.bipush 6, 2) := by decide +kernel
theorem dX6_variable_56 : decode cX6_variable 56 = .ok (.if_icmp .lt 8, 3) := by decide +kernel
theorem dX6_variable_59 : decode cX6_variable 59 = .ok (.bipush (-3), 2) := by decide +kernel
theorem dX6_variable_61 : decode cX6_variable 61 = .ok (.goto 10, 3) := by decide +kernel
theorem dX6_variable_64 : decode cX6_variable 64 = .ok (.aload 4, 2) := by decide +kernel
theorem dX6_variable_66 : decode cX6_variable 66 = .ok (.iload_n 2, 1) := by decide +kernel
theorem dX6_variable_67 : decode cX6_variable 67 = .ok (.iload_n 3, 1) := by decide +kernel
theorem dX6_variable_68 : decode cX6_variable 68 = .ok (.invokevirtual 106, 3) := by decide +kernel
theorem dX6_variable_71 : decode cX6_variable 71 = .ok (.ireturn, 1) := by decide +kernel
set_option maxRecDepth 20000 in
theorem ggX6_cost_X6_isProblem : GoodIn wsX6_cost wsX6_isProblem := goodIn_g _ [(9, 4), (8, 1), (13, 1), (47, 18)] rfl (by decide +kernel)
set_option maxRecDepth 20000 in
theorem gX6_cost_X6_isProblem : GoodIn wsX6_cost (wsV RX6 95 RX6 yX6_isProblem wsX6_isProblem) := goodIn_app (goodIn_of _ (by decide +kernel)) ggX6_cost_X6_isProblem
set_option maxRecDepth 20000 in
theorem ggX6_cost_X1_hasValue : GoodIn wsX6_cost wsX1_hasValue := goodIn_g _ [(18, 5), (17, 1), (23, 2), (65, 9)] rfl (by decide +kernel)
set_option maxRecDepth 20000 in
theorem gX6_cost_X1_hasValue : GoodIn wsX6_cost (wsV RX6 110 RX1 yX1_hasValue wsX1_hasValue) := goodIn_app (goodIn_of _ (by decide +kernel)) ggX6_cost_X1_hasValue
set_option maxRecDepth 20000 in
theorem ggX6_cost_X6_isWithin : GoodIn wsX6_cost wsX6_isWithin := goodIn_g _ [(13, 1)] rfl (by decide +kernel)
set_option maxRecDepth 20000 in
theorem gX6_cost_X6_isWithin : GoodIn wsX6_cost (va_wsS RX6 99 yX6_isWithin wsX6_isWithin) := goodIn_app (goodIn_of _ (by decide +kernel)) ggX6_cost_X6_isWithin
set_option maxRecDepth 20000 in
theorem ggX6_cost_X6_refuse : GoodIn wsX6_cost wsX6_refuse := goodIn_g _ [(28, 3), (47, 18)] rfl (by decide +kernel)
set_option maxRecDepth 20000 in
theorem gX6_cost_X6_refuse : GoodIn wsX6_cost (wsV RX6 116 RX6 yX6_refuse wsX6_refuse) := goodIn_app (goodIn_of _ (by decide +kernel)) ggX6_cost_X6_refuse
set_option maxRecDepth 20000 in
theorem ggX6_cost_X1_setCost : GoodIn wsX6_cost wsX1_setCost := goodIn_g _ [(34, 6), (17, 1), (40, 3), (65, 9)] rfl (by decide +kernel)
set_option maxRecDepth 20000 in
theorem gX6_cost_X1_setCost : GoodIn wsX6_cost (wsV RX6 120 RX1 yX1_setCost wsX1_setCost) := goodIn_app (goodIn_of _ (by decide +kernel)) ggX6_cost_X1_setCost
set_option maxRecDepth 20000 in
theorem ggX6_cost_X6_grant : GoodIn wsX6_cost wsX6_grant := goodIn_g _ [(46, 1), (29, 1), (47, 18)] rfl (by decide +kernel)
set_option maxRecDepth 20000 in
theorem gX6_cost_X6_grant : GoodIn wsX6_cost (wsV RX6 124 RX6 yX6_grant wsX6_grant) := goodIn_app (goodIn_of _ (by decide +kernel)) ggX6_cost_X6_grant
theorem dX6_cost_0 : decode cX6_cost 0 = .ok (.aload_n 0, 1) := by decide +kernel
theorem dX6_cost_1 : decode cX6_cost 1 = .ok (.iload_n 1, 1) := by decide +kernel
theorem dX6_cost_2 : decode cX6_cost 2 = .ok (.invokevirtual 95, 3) := by decide +kernel
theorem dX6_cost_5 : decode cX6_cost 5 = .ok (.ifCond .eq 29, 3) := by decide +kernel
theorem dX6_cost_8 : decode cX6_cost 8 = .ok (.aload_n 0, 1) := by decide +kernel
theorem dX6_cost_9 : decode cX6_cost 9 = .ok (.getfield 11, 3) := by decide +kernel
theorem dX6_cost_12 : decode cX6_cost 12 = .ok (.iload_n 1, 1) := by decide +kernel
theorem dX6_cost_13 : decode cX6_cost 13 = .ok (.aaload, 1) := by decide +kernel
theorem dX6_cost_14 : decode cX6_cost 14 = .ok (.iload_n 2, 1) := by decide +kernel
theorem dX6_cost_15 : decode cX6_cost 15 = .ok (.iload_n 3, 1) := by decide +kernel
theorem dX6_cost_16 : decode cX6_cost 16 = .ok (.invokevirtual 110, 3) := by decide +kernel
theorem dX6_cost_19 : decode cX6_cost 19 = .ok (.ifCond .eq 15, 3) := by decide +kernel
theorem dX6_cost_22 : decode cX6_cost 22 = .ok (.iload 4, 2) := by decide +kernel
theorem dX6_cost_24 : decode cX6_cost 24 = .ok (.ldc 114, 2) := by decide +kernel
theorem dX6_cost_26 : decode cX6_cost 26 = .ok (.ldc 115, 2) := by decide +kernel
theorem dX6_cost_28 : decode cX6_cost 28 = .ok (.invokestatic 99, 3) := by decide +kernel
theorem dX6_cost_31 : decode cX6_cost 31 = .ok (.ifCond .ne 9, 3) := by decide +kernel
theorem dX6_cost_34 : decode cX6_cost 34 = .ok (.aload_n 0, 1) := by decide +kernel
theorem dX6_cost_35 : decode cX6_cost 35 = .ok (.iconst (-1), 1) := by decide +kernel
theorem dX6_cost_36 : decode cX6_cost 36 = .ok (.invokevirtual 116, 3) := by decide +kernel
theorem dX6_cost_39 : decode cX6_cost 39 = .ok (.ireturn, 1) := by decide +kernel
theorem dX6_cost_40 : decode cX6_cost 40 = .ok (.aload_n 0, 1) := by decide +kernel
theorem dX6_cost_41 : decode cX6_cost 41 = .ok (.getfield 29, 3) := by decide +kernel
theorem dX6_cost_44 : decode cX6_cost 44 = .ok (.bipush (-9), 2) := by decide +kernel
theorem dX6_cost_46 : decode cX6_cost 46 = .ok (.if_icmp .eq 10, 3) := by decide +kernel
theorem dX6_cost_49 : decode cX6_cost 49 = .ok (.aload_n 0, 1) := by decide +kernel
theorem dX6_cost_50 : decode cX6_cost 50 = .ok (.bipush (-2), 2) := by decide +kernel
theorem dX6_cost_52 : decode cX6_cost 52 = .ok (.invokevirtual 116, 3) := by decide +kernel
theorem dX6_cost_55 : decode cX6_cost 55 = .ok (.ireturn, 1) := by decide +kernel
theorem dX6_cost_56 : decode cX6_cost 56 = .ok (.aload_n 0, 1) := by decide +kernel
theorem dX6_cost_57 : decode cX6_cost 57 = .ok (.aload_n 0, 1) := by decide +kernel
theorem dX6_cost_58 : decode cX6_cost 58 = .ok (.getfield 11, 3) := by decide +kernel
theorem dX6_cost_61 : decode cX6_cost 61 = .ok (.iload_n 1, 1) := by decide +kernel
theorem dX6_cost_62 : decode cX6_cost 62 = .ok (.aaload, 1) := by decide +kernel
theorem dX6_cost_63 : decode cX6_cost 63 = .ok (.iload_n 2, 1) := by decide +kernel
theorem dX6_cost_64 : decode cX6_cost 64 = .ok (.iload_n 3, 1) := by decide +kernel
theorem dX6_cost_65 : decode cX6_cost 65 = .ok (.iload 4, 2) := by decide +kernel
theorem dX6_cost_67 : decode cX6_cost 67 = .ok (.invokevirtual 120, 3) := by decide +kernel
theorem dX6_cost_70 : decode cX6_cost 70 = .ok (.invokevirtual 124, 3) := by decide +kernel
theorem dX6_cost_73 : decode cX6_cost 73 = .ok (.ireturn, 1) := by decide +kernel
set_option maxRecDepth 20000 in
theorem ggX6_rule_X6_isProblem : GoodIn wsX6_rule wsX6_isProblem := goodIn_g _ [(8, 4), (7, 1), (12, 1), (31, 18)] rfl (by decide +kernel)
set_option maxRecDepth 20000 in
theorem gX6_rule_X6_isProblem : GoodIn wsX6_rule (wsV RX6 95 RX6 yX6_isProblem wsX6_isProblem) := goodIn_app (goodIn_of _ (by decide +kernel)) ggX6_rule_X6_isProblem
set_option maxRecDepth 20000 in
theorem ggX6_rule_X6_isWithin : GoodIn wsX6_rule wsX6_isWithin := goodIn_g _ [(12, 1)] rfl (by decide +kernel)
set_option maxRecDepth 20000 in
theorem gX6_rule_X6_isWithin : GoodIn wsX6_rule (va_wsS RX6 99 yX6_isWithin wsX6_isWithin) := goodIn_app (goodIn_of _ (by decide +kernel)) ggX6_rule_X6_isWithin
set_option maxRecDepth 20000 in
theorem ggX6_rule_X6_isRuleNumber : GoodIn wsX6_rule wsX6_isRuleNumber := goodIn_g _ [(15, 1), (10, 2), (7, 1), (12, 1)] rfl (by decide +kernel)
set_option maxRecDepth 20000 in
theorem gX6_rule_X6_isRuleNumber : GoodIn wsX6_rule (va_wsS RX6 127 yX6_isRuleNumber wsX6_isRuleNumber) := goodIn_app (goodIn_of _ (by decide +kernel)) ggX6_rule_X6_isRuleNumber
set_option maxRecDepth 20000 in
theorem ggX6_rule_X1_addRule : GoodIn wsX6_rule wsX1_addRule := goodIn_g _ [(20, 8), (19, 1), (28, 3), (49, 16)] rfl (by decide +kernel)
set_option maxRecDepth 20000 in
theorem gX6_rule_X1_addRule : GoodIn wsX6_rule (wsV RX6 133 RX1 yX1_addRule wsX1_addRule) := goodIn_app (goodIn_of _ (by decide +kernel)) ggX6_rule_X1_addRule
theorem dX6_rule_0 : decode cX6_rule 0 = .ok (.aload_n 0, 1) := by decide +kernel
theorem dX6_rule_1 : decode cX6_rule 1 = .ok (.iload_n 1, 1) := by decide +kernel
theorem dX6_rule_2 : decode cX6_rule 2 = .ok (.invokevirtual 95, 3) := by decide +kernel
theorem dX6_rule_5 : decode cX6_rule 5 = .ok (.ifCond .eq 20, 3) := by decide +kernel
theorem dX6_rule_8 : decode cX6_rule 8 = .ok (.iload_n 2, 1) := by decide +kernel
theorem dX6_rule_9 : decode cX6_rule 9 = .ok (.iconst 0, 1) := by decide +kernel
theorem dX6_rule_10 : decode cX6_rule 10 = .ok (.bipush 7, 2) := by decide +kernel
theorem dX6_rule_12 : decode cX6_rule 12 = .ok (.invokestatic 99, 3) := by decide +kernel
theorem dX6_rule_15 : decode cX6_rule 15 = .ok (.ifCond .eq 10, 3) := by decide +kernel
theorem dX6_rule_18 : decode cX6_rule 18 = .ok (.iload_n 3, 1) := by decide +kernel
theorem dX6_rule_19 : decode cX6_rule 19 = .ok (.invokestatic 127, 3) := by decide +kernel
theorem dX6_rule_22 : decode cX6_rule 22 = .ok (.ifCond .ne 5, 3) := by decide +kernel
theorem dX6_rule_25 : decode cX6_rule 25 = .ok (.iconst (-1), 1) := by decide +kernel
theorem dX6_rule_26 : decode cX6_rule 26 = .ok (.ireturn, 1) := by decide +kernel
theorem dX6_rule_27 : decode cX6_rule 27 = .ok (.aload_n 0, 1) := by decide +kernel
theorem dX6_rule_28 : decode cX6_rule 28 = .ok (.getfield 29, 3) := by decide +kernel
theorem dX6_rule_31 : decode cX6_rule 31 = .ok (.bipush (-9), 2) := by decide +kernel
theorem dX6_rule_33 : decode cX6_rule 33 = .ok (.if_icmp .eq 6, 3) := by decide +kernel
theorem dX6_rule_36 : decode cX6_rule 36 = .ok (.bipush (-2), 2) := by decide +kernel
theorem dX6_rule_38 : decode cX6_rule 38 = .ok (.ireturn, 1) := by decide +kernel
theorem dX6_rule_39 : decode cX6_rule 39 = .ok (.aload_n 0, 1) := by decide +kernel
theorem dX6_rule_40 : decode cX6_rule 40 = .ok (.getfield 11, 3) := by decide +kernel
theorem dX6_rule_43 : decode cX6_rule 43 = .ok (.iload_n 1, 1) := by decide +kernel
theorem dX6_rule_44 : decode cX6_rule 44 = .ok (.aaload, 1) := by decide +kernel
theorem dX6_rule_45 : decode cX6_rule 45 = .ok (.astore 4, 2) := by decide +kernel
theorem dX6_rule_47 : decode cX6_rule 47 = .ok (.aload 4, 2) := by decide +kernel
theorem dX6_rule_49 : decode cX6_rule 49 = .ok (.getfield 130, 3) := by decide +kernel
theorem dX6_rule_52 : decode cX6_rule 52 = .ok (.bipush 8, 2) := by decide +kernel
theorem dX6_rule_54 : decode cX6_rule 54 = .ok (.if_icmp .lt 8, 3) := by decide +kernel
theorem dX6_rule_57 : decode cX6_rule 57 = .ok (.bipush (-3), 2) := by decide +kernel
theorem dX6_rule_59 : decode cX6_rule 59 = .ok (.goto 10, 3) := by decide +kernel
theorem dX6_rule_62 : decode cX6_rule 62 = .ok (.aload 4, 2) := by decide +kernel
theorem dX6_rule_64 : decode cX6_rule 64 = .ok (.iload_n 2, 1) := by decide +kernel
theorem dX6_rule_65 : decode cX6_rule 65 = .ok (.iload_n 3, 1) := by decide +kernel
theorem dX6_rule_66 : decode cX6_rule 66 = .ok (.invokevirtual 133, 3) := by decide +kernel
theorem dX6_rule_69 : decode cX6_rule 69 = .ok (.ireturn, 1) := by decide +kernel
set_option maxRecDepth 20000 in
theorem ggX6_part_X6_isProblem : GoodIn wsX6_part wsX6_isProblem := goodIn_g _ [(9, 4), (8, 1), (13, 1), (47, 18)] rfl (by decide +kernel)
set_option maxRecDepth 20000 in
theorem gX6_part_X6_isProblem : GoodIn wsX6_part (wsV RX6 95 RX6 yX6_isProblem wsX6_isProblem) := goodIn_app (goodIn_of _ (by decide +kernel)) ggX6_part_X6_isProblem
set_option maxRecDepth 20000 in
theorem ggX6_part_X6_isWithin : GoodIn wsX6_part wsX6_isWithin := goodIn_g _ [(13, 1)] rfl (by decide +kernel)
set_option maxRecDepth 20000 in
theorem gX6_part_X6_isWithin : GoodIn wsX6_part (va_wsS RX6 99 yX6_isWithin wsX6_isWithin) := goodIn_app (goodIn_of _ (by decide +kernel)) ggX6_part_X6_isWithin
set_option maxRecDepth 20000 in
theorem ggX6_part_X1_hasRule : GoodIn wsX6_part wsX1_hasRule := goodIn_g _ [(18, 2), (65, 9)] rfl (by decide +kernel)
set_option maxRecDepth 20000 in
theorem gX6_part_X1_hasRule : GoodIn wsX6_part (wsV RX6 136 RX1 yX1_hasRule wsX1_hasRule) := goodIn_app (goodIn_of _ (by decide +kernel)) ggX6_part_X1_hasRule
set_option maxRecDepth 20000 in
theorem ggX6_part_X1_hasVariable : GoodIn wsX6_part wsX1_hasVariable := goodIn_g _ [(23, 2), (65, 9)] rfl (by decide +kernel)
set_option maxRecDepth 20000 in
theorem gX6_part_X1_hasVariable : GoodIn wsX6_part (wsV RX6 139 RX1 yX1_hasVariable wsX1_hasVariable) := goodIn_app (goodIn_of _ (by decide +kernel)) ggX6_part_X1_hasVariable
set_option maxRecDepth 20000 in
theorem ggX6_part_X1_addPart : GoodIn wsX6_part wsX1_addPart := goodIn_g _ [(28, 6), (17, 1), (34, 13), (65, 16)] rfl (by decide +kernel)
set_option maxRecDepth 20000 in
theorem gX6_part_X1_addPart : GoodIn wsX6_part (wsV RX6 152 RX1 yX1_addPart wsX1_addPart) := goodIn_app (goodIn_of _ (by decide +kernel)) ggX6_part_X1_addPart
theorem dX6_part_0 : decode cX6_part 0 = .ok (.aload_n 0, 1) := by decide +kernel
theorem dX6_part_1 : decode cX6_part 1 = .ok (.iload_n 1, 1) := by decide +kernel
theorem dX6_part_2 : decode cX6_part 2 = .ok (.invokevirtual 95, 3) := by decide +kernel
theorem dX6_part_5 : decode cX6_part 5 = .ok (.ifCond .eq 15, 3) := by decide +kernel
theorem dX6_part_8 : decode cX6_part 8 = .ok (.iload 4, 2) := by decide +kernel
theorem dX6_part_10 : decode cX6_part 10 = .ok (.bipush (-50), 2) := by decide +kernel
theorem dX6_part_12 : decode cX6_part 12 = .ok (.bipush 50, 2) := by decide +kernel
theorem dX6_part_14 : decode cX6_part 14 = .ok (.invokestatic 99, 3) := by decide +kernel
theorem dX6_part_17 : decode cX6_part 17 = .ok (.ifCond .ne 5, 3) := by decide +kernel
theorem dX6_part_20 : decode cX6_part 20 = .ok (.iconst (-1), 1) := by decide +kernel
theorem dX6_part_21 : decode cX6_part 21 = .ok (.ireturn, 1) := by decide +kernel
theorem dX6_part_22 : decode cX6_part 22 = .ok (.aload_n 0, 1) := by decide +kernel
theorem dX6_part_23 : decode cX6_part 23 = .ok (.getfield 11, 3) := by decide +kernel
theorem dX6_part_26 : decode cX6_part 26 = .ok (.iload_n 1, 1) := by decide +kernel
theorem dX6_part_27 : decode cX6_part 27 = .ok (.aaload, 1) := by decide +kernel
theorem dX6_part_28 : decode cX6_part 28 = .ok (.astore 5, 2) := by decide +kernel
theorem dX6_part_30 : decode cX6_part 30 = .ok (.aload 5, 2) := by decide +kernel
theorem dX6_part_32 : decode cX6_part 32 = .ok (.iload_n 2, 1) := by decide +kernel
theorem dX6_part_33 : decode cX6_part 33 = .ok (.invokevirtual 136, 3) := by decide +kernel
theorem dX6_part_36 : decode cX6_part 36 = .ok (.ifCond .eq 12, 3) := by decide +kernel
theorem dX6_part_39 : decode cX6_part 39 = .ok (.aload 5, 2) := by decide +kernel
theorem dX6_part_41 : decode cX6_part 41 = .ok (.iload_n 3, 1) := by decide +kernel
theorem dX6_part_42 : decode cX6_part 42 = .ok (.invokevirtual 139, 3) := by decide +kernel
theorem dX6_part_45 : decode cX6_part 45 = .ok (.ifCond .ne 5, 3) := by decide +kernel
theorem dX6_part_48 : decode cX6_part 48 = .ok (.iconst (-1), 1) := by decide +kernel
theorem dX6_part_49 : decode cX6_part 49 = .ok (.ireturn, 1) := by decide +kernel
theorem dX6_part_50 : decode cX6_part 50 = .ok (.aload_n 0, 1) := by decide +kernel
theorem dX6_part_51 : decode cX6_part 51 = .ok (.getfield 29, 3) := by decide +kernel
theorem dX6_part_54 : decode cX6_part 54 = .ok (.bipush (-9), 2) := by decide +kernel
theorem dX6_part_56 : decode cX6_part 56 = .ok (.if_icmp .ne 18, 3) := by decide +kernel
theorem dX6_part_59 : decode cX6_part 59 = .ok (.aload 5, 2) := by decide +kernel
theorem dX6_part_61 : decode cX6_part 61 = .ok (.getfield 142, 3) := by decide +kernel
theorem dX6_part_64 : decode cX6_part 64 = .ok (.iload_n 2, 1) := by decide +kernel
theorem dX6_part_65 : decode cX6_part 65 = .ok (.aaload, 1) := by decide +kernel
theorem dX6_part_66 : decode cX6_part 66 = .ok (.getfield 146, 3) := by decide +kernel
theorem dX6_part_69 : decode cX6_part 69 = .ok (.iload_n 3, 1) := by decide +kernel
theorem dX6_part_70 : decode cX6_part 70 = .ok (.baload, 1) := by decide +kernel
theorem dX6_part_71 : decode cX6_part 71 = .ok (.ifCond .eq 6, 3) := by decide +kernel
theorem dX6_part_74 : decode cX6_part 74 = .ok (.bipush (-2), 2) := by decide +kernel
theorem dX6_part_76 : decode cX6_part 76 = .ok (.ireturn, 1) := by decide +kernel
theorem dX6_part_77 : decode cX6_part 77 = .ok (.aload 5, 2) := by decide +kernel
theorem dX6_part_79 : decode cX6_part 79 = .ok (.iload_n 2, 1) := by decide +kernel
theorem dX6_part_80 : decode cX6_part 80 = .ok (.iload_n 3, 1) := by decide +kernel
theorem dX6_part_81 : decode cX6_part 81 = .ok (.iload 4, 2) := by decide +kernel
theorem dX6_part_83 : decode cX6_part 83 = .ok (.invokevirtual 152, 3) := by decide +kernel
theorem dX6_part_86 : decode cX6_part 86 = .ok (.ireturn, 1) := by decide +kernel
set_option maxRecDepth 20000 in
theorem ggX6_number_X6_isProblem : GoodIn wsX6_number wsX6_isProblem := goodIn_g _ [(7, 4), (6, 1), (11, 1), (43, 18)] rfl (by decide +kernel)
set_option maxRecDepth 20000 in
theorem gX6_number_X6_isProblem : GoodIn wsX6_number (wsV RX6 95 RX6 yX6_isProblem wsX6_isProblem) := goodIn_app (goodIn_of _ (by decide +kernel)) ggX6_number_X6_isProblem
set_option maxRecDepth 20000 in
theorem ggX6_number_X1_hasRule : GoodIn wsX6_number wsX1_hasRule := goodIn_g _ [(16, 2), (61, 9)] rfl (by decide +kernel)
set_option maxRecDepth 20000 in
theorem gX6_number_X1_hasRule : GoodIn wsX6_number (wsV RX6 136 RX1 yX1_hasRule wsX1_hasRule) := goodIn_app (goodIn_of _ (by decide +kernel)) ggX6_number_X1_hasRule
set_option maxRecDepth 20000 in
theorem ggX6_number_X6_isRuleNumber : GoodIn wsX6_number wsX6_isRuleNumber := goodIn_g _ [(20, 1), (9, 2), (6, 1), (11, 1)] rfl (by decide +kernel)
set_option maxRecDepth 20000 in
theorem gX6_number_X6_isRuleNumber : GoodIn wsX6_number (va_wsS RX6 127 yX6_isRuleNumber wsX6_isRuleNumber) := goodIn_app (goodIn_of _ (by decide +kernel)) ggX6_number_X6_isRuleNumber
set_option maxRecDepth 20000 in
theorem ggX6_number_X6_refuse : GoodIn wsX6_number wsX6_refuse := goodIn_g _ [(24, 3), (43, 18)] rfl (by decide +kernel)
set_option maxRecDepth 20000 in
theorem gX6_number_X6_refuse : GoodIn wsX6_number (wsV RX6 116 RX6 yX6_refuse wsX6_refuse) := goodIn_app (goodIn_of _ (by decide +kernel)) ggX6_number_X6_refuse
set_option maxRecDepth 20000 in
theorem ggX6_number_X1_setNumber : GoodIn wsX6_number wsX1_setNumber := goodIn_g _ [(30, 6), (15, 1), (36, 3), (61, 16)] rfl (by decide +kernel)
set_option maxRecDepth 20000 in
theorem gX6_number_X1_setNumber : GoodIn wsX6_number (wsV RX6 155 RX1 yX1_setNumber wsX1_setNumber) := goodIn_app (goodIn_of _ (by decide +kernel)) ggX6_number_X1_setNumber
set_option maxRecDepth 20000 in
theorem ggX6_number_X6_grant : GoodIn wsX6_number wsX6_grant := goodIn_g _ [(42, 1), (25, 1), (43, 18)] rfl (by decide +kernel)
set_option maxRecDepth 20000 in
theorem gX6_number_X6_grant : GoodIn wsX6_number (wsV RX6 124 RX6 yX6_grant wsX6_grant) := goodIn_app (goodIn_of _ (by decide +kernel)) ggX6_number_X6_grant
theorem dX6_number_0 : decode cX6_number 0 = .ok (.aload_n 0, 1) := by decide +kernel
theorem dX6_number_1 : decode cX6_number 1 = .ok (.iload_n 1, 1) := by decide +kernel
theorem dX6_number_2 : decode cX6_number 2 = .ok (.invokevirtual 95, 3) := by decide +kernel
theorem dX6_number_5 : decode cX6_number 5 = .ok (.ifCond .eq 23, 3) := by decide +kernel
theorem dX6_number_8 : decode cX6_number 8 = .ok (.aload_n 0, 1) := by decide +kernel
theorem dX6_number_9 : decode cX6_number 9 = .ok (.getfield 11, 3) := by decide +kernel
theorem dX6_number_12 : decode cX6_number 12 = .ok (.iload_n 1, 1) := by decide +kernel
theorem dX6_number_13 : decode cX6_number 13 = .ok (.aaload, 1) := by decide +kernel
theorem dX6_number_14 : decode cX6_number 14 = .ok (.iload_n 2, 1) := by decide +kernel
theorem dX6_number_15 : decode cX6_number 15 = .ok (.invokevirtual 136, 3) := by decide +kernel
theorem dX6_number_18 : decode cX6_number 18 = .ok (.ifCond .eq 10, 3) := by decide +kernel
theorem dX6_number_21 : decode cX6_number 21 = .ok (.iload_n 3, 1) := by decide +kernel
theorem dX6_number_22 : decode cX6_number 22 = .ok (.invokestatic 127, 3) := by decide +kernel
theorem dX6_number_25 : decode cX6_number 25 = .ok (.ifCond .ne 9, 3) := by decide +kernel
theorem dX6_number_28 : decode cX6_number 28 = .ok (.aload_n 0, 1) := by decide +kernel
theorem dX6_number_29 : decode cX6_number 29 = .ok (.iconst (-1), 1) := by decide +kernel
theorem dX6_number_30 : decode cX6_number 30 = .ok (.invokevirtual 116, 3) := by decide +kernel
theorem dX6_number_33 : decode cX6_number 33 = .ok (.ireturn, 1) := by decide +kernel
theorem dX6_number_34 : decode cX6_number 34 = .ok (.aload_n 0, 1) := by decide +kernel
theorem dX6_number_35 : decode cX6_number 35 = .ok (.getfield 29, 3) := by decide +kernel
theorem dX6_number_38 : decode cX6_number 38 = .ok (.bipush (-9), 2) := by decide +kernel
theorem dX6_number_40 : decode cX6_number 40 = .ok (.if_icmp .eq 10, 3) := by decide +kernel
theorem dX6_number_43 : decode cX6_number 43 = .ok (.aload_n 0, 1) := by decide +kernel
theorem dX6_number_44 : decode cX6_number 44 = .ok (.bipush (-2), 2) := by decide +kernel
theorem dX6_number_46 : decode cX6_number 46 = .ok (.invokevirtual 116, 3) := by decide +kernel
theorem dX6_number_49 : decode cX6_number 49 = .ok (.ireturn, 1) := by decide +kernel
theorem dX6_number_50 : decode cX6_number 50 = .ok (.aload_n 0, 1) := by decide +kernel
theorem dX6_number_51 : decode cX6_number 51 = .ok (.aload_n 0, 1) := by decide +kernel
theorem dX6_number_52 : decode cX6_number 52 = .ok (.getfield 11, 3) := by decide +kernel
theorem dX6_number_55 : decode cX6_number 55 = .ok (.iload_n 1, 1) := by decide +kernel
theorem dX6_number_56 : decode cX6_number 56 = .ok (.aaload, 1) := by decide +kernel
theorem dX6_number_57 : decode cX6_number 57 = .ok (.iload_n 2, 1) := by decide +kernel
theorem dX6_number_58 : decode cX6_number 58 = .ok (.iload_n 3, 1) := by decide +kernel
theorem dX6_number_59 : decode cX6_number 59 = .ok (.invokevirtual 155, 3) := by decide +kernel
theorem dX6_number_62 : decode cX6_number 62 = .ok (.invokevirtual 124, 3) := by decide +kernel
theorem dX6_number_65 : decode cX6_number 65 = .ok (.ireturn, 1) := by decide +kernel
set_option maxRecDepth 20000 in
theorem ggX6_solve_X6_isProblem : GoodIn wsX6_solve wsX6_isProblem := goodIn_g _ [(10, 4), (9, 1), (14, 1), (242, 18)] rfl (by decide +kernel)
set_option maxRecDepth 20000 in
theorem gX6_solve_X6_isProblem : GoodIn wsX6_solve (wsV RX6 95 RX6 yX6_isProblem wsX6_isProblem) := goodIn_app (goodIn_of _ (by decide +kernel)) ggX6_solve_X6_isProblem
set_option maxRecDepth 20000 in
theorem ggX6_solve_X6_isWithin : GoodIn wsX6_solve wsX6_isWithin := goodIn_g _ [(14, 1)] rfl (by decide +kernel)
set_option maxRecDepth 20000 in
theorem gX6_solve_X6_isWithin : GoodIn wsX6_solve (va_wsS RX6 99 yX6_isWithin wsX6_isWithin) := goodIn_app (goodIn_of _ (by decide +kernel)) ggX6_solve_X6_isWithin
set_option maxRecDepth 20000 in
theorem ggX6_solve_X3_begin : GoodIn wsX6_solve wsX3_begin := goodIn_g _ [(19, 129), (260, 48)] rfl (by decide +kernel)
set_option maxRecDepth 20000 in
theorem gX6_solve_X3_begin : GoodIn wsX6_solve (wsV RX6 174 RX3 yX3_begin wsX3_begin) := goodIn_app (goodIn_of _ (by decide +kernel)) ggX6_solve_X3_begin
set_option maxRecDepth 20000 in
theorem ggX6_solve_X3_takeTurn : GoodIn wsX6_solve wsX3_takeTurn := goodIn_g _ [(151, 1), (20, 1), (22, 1), (24, 2), (152, 1), (26, 1), (23, 1), (153, 15), (18, 1), (168, 8), (35, 1), (176, 1), (39, 1), (141, 1), (145, 1), (138, 1), (177, 9), (146, 1), (40, 1), (140, 1), (186, 1), (42, 1), (147, 1), (37, 1), (187, 1), (43, 1), (38, 1), (188, 5), (45, 1), (29, 3), (193, 12), (46, 92), (139, 1), (142, 3), (44, 1), (205, 4), (21, 1), (209, 8), (41, 1), (217, 6), (260, 48)] rfl (by decide +kernel)
set_option maxRecDepth 20000 in
theorem gX6_solve_X3_takeTurn : GoodIn wsX6_solve (wsV RX6 178 RX3 yX3_takeTurn wsX3_takeTurn) := goodIn_app (goodIn_of _ (by decide +kernel)) ggX6_solve_X3_takeTurn
set_option maxRecDepth 20000 in
theorem ggX6_solve_X6_endSolving : GoodIn wsX6_solve wsX6_endSolving := goodIn_g _ [(226, 1), (1, 1), (3, 1), (2, 1), (227, 4), (6, 9), (231, 3), (18, 1), (234, 1), (26, 1), (170, 1), (235, 2), (169, 1), (22, 1), (209, 3), (35, 1), (212, 1), (39, 1), (44, 1), (141, 1), (145, 1), (138, 1), (237, 4), (28, 4), (241, 1), (194, 3), (140, 1), (197, 8), (242, 18), (289, 9), (260, 6), (273, 16)] rfl (by decide +kernel)
set_option maxRecDepth 20000 in
theorem gX6_solve_X6_endSolving : GoodIn wsX6_solve (wsV RX6 182 RX6 yX6_endSolving wsX6_endSolving) := goodIn_app (goodIn_of _ (by decide +kernel)) ggX6_solve_X6_endSolving
theorem dX6_solve_0 : decode cX6_solve 0 = .ok (.aload_n 0, 1) := by decide +kernel
theorem dX6_solve_1 : decode cX6_solve 1 = .ok (.iload_n 1, 1) := by decide +kernel
theorem dX6_solve_2 : decode cX6_solve 2 = .ok (.invokevirtual 95, 3) := by decide +kernel
theorem dX6_solve_5 : decode cX6_solve 5 = .ok (.ifCond .eq 14, 3) := by decide +kernel
theorem dX6_solve_8 : decode cX6_solve 8 = .ok (.iload_n 2, 1) := by decide +kernel
theorem dX6_solve_9 : decode cX6_solve 9 = .ok (.iconst 1, 1) := by decide +kernel
theorem dX6_solve_10 : decode cX6_solve 10 = .ok (.sipush 500, 3) := by decide +kernel
theorem dX6_solve_13 : decode cX6_solve 13 = .ok (.invokestatic 99, 3) := by decide +kernel
theorem dX6_solve_16 : decode cX6_solve 16 = .ok (.ifCond .ne 5, 3) := by decide +kernel
theorem dX6_solve_19 : decode cX6_solve 19 = .ok (.iconst (-1), 1) := by decide +kernel
theorem dX6_solve_20 : decode cX6_solve 20 = .ok (.ireturn, 1) := by decide +kernel
theorem dX6_solve_21 : decode cX6_solve 21 = .ok (.aload_n 0, 1) := by decide +kernel
theorem dX6_solve_22 : decode cX6_solve 22 = .ok (.getfield 29, 3) := by decide +kernel
theorem dX6_solve_25 : decode cX6_solve 25 = .ok (.bipush (-9), 2) := by decide +kernel
theorem dX6_solve_27 : decode cX6_solve 27 = .ok (.if_icmp .eq 14, 3) := by decide +kernel
theorem dX6_solve_30 : decode cX6_solve 30 = .ok (.aload_n 0, 1) := by decide +kernel
theorem dX6_solve_31 : decode cX6_solve 31 = .ok (.getfield 29, 3) := by decide +kernel
theorem dX6_solve_34 : decode cX6_solve 34 = .ok (.iload_n 1, 1) := by decide +kernel
theorem dX6_solve_35 : decode cX6_solve 35 = .ok (.if_icmp .eq 6, 3) := by decide +kernel
theorem dX6_solve_38 : decode cX6_solve 38 = .ok (.bipush (-2), 2) := by decide +kernel
theorem dX6_solve_40 : decode cX6_solve 40 = .ok (.ireturn, 1) := by decide +kernel
theorem dX6_solve_41 : decode cX6_solve 41 = .ok (.iconst 0, 1) := by decide +kernel
theorem dX6_solve_42 : decode cX6_solve 42 = .ok (.istore_n 3, 1) := by decide +kernel
theorem dX6_solve_43 : decode cX6_solve 43 = .ok (.aload_n 0, 1) := by decide +kernel
theorem dX6_solve_44 : decode cX6_solve 44 = .ok (.getfield 29, 3) := by decide +kernel
theorem dX6_solve_47 : decode cX6_solve 47 = .ok (.bipush (-9), 2) := by decide +kernel
theorem dX6_solve_49 : decode cX6_solve 49 = .ok (.if_icmp .ne 30, 3) := by decide +kernel
theorem dX6_solve_52 : decode cX6_solve 52 = .ok (.aload_n 0, 1) := by decide +kernel
theorem dX6_solve_53 : decode cX6_solve 53 = .ok (.iload_n 1, 1) := by decide +kernel
theorem dX6_solve_54 : decode cX6_solve 54 = .ok (.putfield 29, 3) := by decide +kernel
theorem dX6_solve_57 : decode cX6_solve 57 = .ok (.aload_n 0, 1) := by decide +kernel
theorem dX6_solve_58 : decode cX6_solve 58 = .ok (.getfield 73, 3) := by decide +kernel
theorem dX6_solve_61 : decode cX6_solve 61 = .ok (.aload_n 0, 1) := by decide +kernel
theorem dX6_solve_62 : decode cX6_solve 62 = .ok (.getfield 11, 3) := by decide +kernel
theorem dX6_solve_65 : decode cX6_solve 65 = .ok (.iload_n 1, 1) := by decide +kernel
theorem dX6_solve_66 : decode cX6_solve 66 = .ok (.aaload, 1) := by decide +kernel
theorem dX6_solve_67 : decode cX6_solve 67 = .ok (.aload_n 0, 1) := by decide +kernel
theorem dX6_solve_68 : decode cX6_solve 68 = .ok (.getfield 22, 3) := by decide +kernel
theorem dX6_solve_71 : decode cX6_solve 71 = .ok (.aload_n 0, 1) := by decide +kernel
theorem dX6_solve_72 : decode cX6_solve 72 = .ok (.getfield 26, 3) := by decide +kernel
theorem dX6_solve_75 : decode cX6_solve 75 = .ok (.invokevirtual 174, 3) := by decide +kernel
theorem dX6_solve_78 : decode cX6_solve 78 = .ok (.istore_n 3, 1) := by decide +kernel
theorem dX6_solve_79 : decode cX6_solve 79 = .ok (.iconst 0, 1) := by decide +kernel
theorem dX6_solve_80 : decode cX6_solve 80 = .ok (.istore 4, 2) := by decide +kernel
theorem dX6_solve_82 : decode cX6_solve 82 = .ok (.iload 4, 2) := by decide +kernel
theorem dX6_solve_84 : decode cX6_solve 84 = .ok (.iload_n 2, 1) := by decide +kernel
theorem dX6_solve_85 : decode cX6_solve 85 = .ok (.if_icmp .ge 21, 3) := by decide +kernel
theorem dX6_solve_88 : decode cX6_solve 88 = .ok (.iload_n 3, 1) := by decide +kernel
theorem dX6_solve_89 : decode cX6_solve 89 = .ok (.ifCond .ne 17, 3) := by decide +kernel
theorem dX6_solve_92 : decode cX6_solve 92 = .ok (.aload_n 0, 1) := by decide +kernel
theorem dX6_solve_93 : decode cX6_solve 93 = .ok (.getfield 73, 3) := by decide +kernel
theorem dX6_solve_96 : decode cX6_solve 96 = .ok (.invokevirtual 178, 3) := by decide +kernel
theorem dX6_solve_99 : decode cX6_solve 99 = .ok (.istore_n 3, 1) := by decide +kernel
theorem dX6_solve_100 : decode cX6_solve 100 = .ok (.iinc 4 1, 3) := by decide +kernel
theorem dX6_solve_103 : decode cX6_solve 103 = .ok (.goto (-21), 3) := by decide +kernel
theorem dX6_solve_106 : decode cX6_solve 106 = .ok (.iload_n 3, 1) := by decide +kernel
theorem dX6_solve_107 : decode cX6_solve 107 = .ok (.ifCond .eq 8, 3) := by decide +kernel
theorem dX6_solve_110 : decode cX6_solve 110 = .ok (.aload_n 0, 1) := by decide +kernel
theorem dX6_solve_111 : decode cX6_solve 111 = .ok (.iload_n 3, 1) := by decide +kernel
theorem dX6_solve_112 : decode cX6_solve 112 = .ok (.invokevirtual 182, 3) := by decide +kernel
theorem dX6_solve_115 : decode cX6_solve 115 = .ok (.iload_n 3, 1) := by decide +kernel
theorem dX6_solve_116 : decode cX6_solve 116 = .ok (.ireturn, 1) := by decide +kernel
set_option maxRecDepth 20000 in
theorem ggX6_told_X6_isProblem : GoodIn wsX6_told wsX6_isProblem := goodIn_g _ [(8, 4), (7, 1), (12, 19)] rfl (by decide +kernel)
set_option maxRecDepth 20000 in
theorem gX6_told_X6_isProblem : GoodIn wsX6_told (wsV RX6 95 RX6 yX6_isProblem wsX6_isProblem) := goodIn_app (goodIn_of _ (by decide +kernel)) ggX6_told_X6_isProblem
set_option maxRecDepth 20000 in
theorem ggX6_told_X6_isWithin : GoodIn wsX6_told wsX6_isWithin := goodIn_g _ [(12, 1)] rfl (by decide +kernel)
set_option maxRecDepth 20000 in
theorem gX6_told_X6_isWithin : GoodIn wsX6_told (va_wsS RX6 99 yX6_isWithin wsX6_isWithin) := goodIn_app (goodIn_of _ (by decide +kernel)) ggX6_told_X6_isWithin
theorem dX6_told_0 : decode cX6_told 0 = .ok (.aload_n 0, 1) := by decide +kernel
theorem dX6_told_1 : decode cX6_told 1 = .ok (.iload_n 1, 1) := by decide +kernel
theorem dX6_told_2 : decode cX6_told 2 = .ok (.invokevirtual 95, 3) := by decide +kernel
theorem dX6_told_5 : decode cX6_told 5 = .ok (.ifCond .eq 12, 3) := by decide +kernel
theorem dX6_told_8 : decode cX6_told 8 = .ok (.iload_n 2, 1) := by decide +kernel
theorem dX6_told_9 : decode cX6_told 9 = .ok (.iconst 0, 1) := by decide +kernel
theorem dX6_told_10 : decode cX6_told 10 = .ok (.iconst 5, 1) := by decide +kernel
theorem dX6_told_11 : decode cX6_told 11 = .ok (.invokestatic 99, 3) := by decide +kernel
theorem dX6_told_14 : decode cX6_told 14 = .ok (.ifCond .ne 5, 3) := by decide +kernel
theorem dX6_told_17 : decode cX6_told 17 = .ok (.iconst (-1), 1) := by decide +kernel
theorem dX6_told_18 : decode cX6_told 18 = .ok (.ireturn, 1) := by decide +kernel
theorem dX6_told_19 : decode cX6_told 19 = .ok (.aload_n 0, 1) := by decide +kernel
theorem dX6_told_20 : decode cX6_told 20 = .ok (.getfield 11, 3) := by decide +kernel
theorem dX6_told_23 : decode cX6_told 23 = .ok (.iload_n 1, 1) := by decide +kernel
theorem dX6_told_24 : decode cX6_told 24 = .ok (.aaload, 1) := by decide +kernel
theorem dX6_told_25 : decode cX6_told 25 = .ok (.astore_n 3, 1) := by decide +kernel
theorem dX6_told_26 : decode cX6_told 26 = .ok (.aload_n 3, 1) := by decide +kernel
theorem dX6_told_27 : decode cX6_told 27 = .ok (.getfield 185, 3) := by decide +kernel
theorem dX6_told_30 : decode cX6_told 30 = .ok (.ifCond .eq 12, 3) := by decide +kernel
theorem dX6_told_33 : decode cX6_told 33 = .ok (.aload_n 3, 1) := by decide +kernel
theorem dX6_told_34 : decode cX6_told 34 = .ok (.getfield 189, 3) := by decide +kernel
theorem dX6_told_37 : decode cX6_told 37 = .ok (.iload_n 2, 1) := by decide +kernel
theorem dX6_told_38 : decode cX6_told 38 = .ok (.iaload, 1) := by decide +kernel
theorem dX6_told_39 : decode cX6_told 39 = .ok (.goto 5, 3) := by decide +kernel
theorem dX6_told_42 : decode cX6_told 42 = .ok (.bipush (-9), 2) := by decide +kernel
theorem dX6_told_44 : decode cX6_told 44 = .ok (.ireturn, 1) := by decide +kernel
set_option maxRecDepth 20000 in
theorem ggX6_answer_X6_isProblem : GoodIn wsX6_answer wsX6_isProblem := goodIn_g _ [(8, 4), (7, 1), (12, 1), (19, 18)] rfl (by decide +kernel)
set_option maxRecDepth 20000 in
theorem gX6_answer_X6_isProblem : GoodIn wsX6_answer (wsV RX6 95 RX6 yX6_isProblem wsX6_isProblem) := goodIn_app (goodIn_of _ (by decide +kernel)) ggX6_answer_X6_isProblem
set_option maxRecDepth 20000 in
theorem ggX6_answer_X1_hasVariable : GoodIn wsX6_answer wsX1_hasVariable := goodIn_g _ [(17, 2), (37, 9)] rfl (by decide +kernel)
set_option maxRecDepth 20000 in
theorem gX6_answer_X1_hasVariable : GoodIn wsX6_answer (wsV RX6 139 RX1 yX1_hasVariable wsX1_hasVariable) := goodIn_app (goodIn_of _ (by decide +kernel)) ggX6_answer_X1_hasVariable
theorem dX6_answer_0 : decode cX6_answer 0 = .ok (.aload_n 0, 1) := by decide +kernel
theorem dX6_answer_1 : decode cX6_answer 1 = .ok (.iload_n 1, 1) := by decide +kernel
theorem dX6_answer_2 : decode cX6_answer 2 = .ok (.invokevirtual 95, 3) := by decide +kernel
theorem dX6_answer_5 : decode cX6_answer 5 = .ok (.ifCond .eq 16, 3) := by decide +kernel
theorem dX6_answer_8 : decode cX6_answer 8 = .ok (.aload_n 0, 1) := by decide +kernel
theorem dX6_answer_9 : decode cX6_answer 9 = .ok (.getfield 11, 3) := by decide +kernel
theorem dX6_answer_12 : decode cX6_answer 12 = .ok (.iload_n 1, 1) := by decide +kernel
theorem dX6_answer_13 : decode cX6_answer 13 = .ok (.aaload, 1) := by decide +kernel
theorem dX6_answer_14 : decode cX6_answer 14 = .ok (.iload_n 2, 1) := by decide +kernel
theorem dX6_answer_15 : decode cX6_answer 15 = .ok (.invokevirtual 139, 3) := by decide +kernel
theorem dX6_answer_18 : decode cX6_answer 18 = .ok (.ifCond .ne 5, 3) := by decide +kernel
theorem dX6_answer_21 : decode cX6_answer 21 = .ok (.iconst (-1), 1) := by decide +kernel
theorem dX6_answer_22 : decode cX6_answer 22 = .ok (.ireturn, 1) := by decide +kernel
theorem dX6_answer_23 : decode cX6_answer 23 = .ok (.aload_n 0, 1) := by decide +kernel
theorem dX6_answer_24 : decode cX6_answer 24 = .ok (.getfield 11, 3) := by decide +kernel
theorem dX6_answer_27 : decode cX6_answer 27 = .ok (.iload_n 1, 1) := by decide +kernel
theorem dX6_answer_28 : decode cX6_answer 28 = .ok (.aaload, 1) := by decide +kernel
theorem dX6_answer_29 : decode cX6_answer 29 = .ok (.astore_n 3, 1) := by decide +kernel
theorem dX6_answer_30 : decode cX6_answer 30 = .ok (.aload_n 3, 1) := by decide +kernel
theorem dX6_answer_31 : decode cX6_answer 31 = .ok (.getfield 185, 3) := by decide +kernel
theorem dX6_answer_34 : decode cX6_answer 34 = .ok (.ifCond .eq 15, 3) := by decide +kernel
theorem dX6_answer_37 : decode cX6_answer 37 = .ok (.aload_n 3, 1) := by decide +kernel
theorem dX6_answer_38 : decode cX6_answer 38 = .ok (.getfield 189, 3) := by decide +kernel
theorem dX6_answer_41 : decode cX6_answer 41 = .ok (.bipush 6, 2) := by decide +kernel
theorem dX6_answer_43 : decode cX6_answer 43 = .ok (.iload_n 2, 1) := by decide +kernel
theorem dX6_answer_44 : decode cX6_answer 44 = .ok (.iadd, 1) := by decide +kernel
theorem dX6_answer_45 : decode cX6_answer 45 = .ok (.iaload, 1) := by decide +kernel
theorem dX6_answer_46 : decode cX6_answer 46 = .ok (.goto 5, 3) := by decide +kernel
theorem dX6_answer_49 : decode cX6_answer 49 = .ok (.bipush (-9), 2) := by decide +kernel
theorem dX6_answer_51 : decode cX6_answer 51 = .ok (.ireturn, 1) := by decide +kernel
set_option maxRecDepth 20000 in
theorem ggX6_walked_X6_isWithin : GoodIn wsX6_walked wsX6_isWithin := goodIn_g _ [(9, 1)] rfl (by decide +kernel)
set_option maxRecDepth 20000 in
theorem gX6_walked_X6_isWithin : GoodIn wsX6_walked (va_wsS RX6 99 yX6_isWithin wsX6_isWithin) := goodIn_app (goodIn_of _ (by decide +kernel)) ggX6_walked_X6_isWithin
set_option maxRecDepth 20000 in
theorem ggX6_walked_X5_boundOf : GoodIn wsX6_walked wsX5_boundOf := goodIn_g _ [(14, 2), (55, 16)] rfl (by decide +kernel)
set_option maxRecDepth 20000 in
theorem gX6_walked_X5_boundOf : GoodIn wsX6_walked (wsV RX6 202 RX5 yX5_boundOf wsX5_boundOf) := goodIn_app (goodIn_of _ (by decide +kernel)) ggX6_walked_X5_boundOf
set_option maxRecDepth 20000 in
theorem ggX6_walked_X5_openBelow : GoodIn wsX6_walked wsX5_openBelow := goodIn_g _ [(19, 6), (13, 1), (25, 4), (55, 25)] rfl (by decide +kernel)
set_option maxRecDepth 20000 in
theorem gX6_walked_X5_openBelow : GoodIn wsX6_walked (wsV RX6 208 RX5 yX5_openBelow wsX5_openBelow) := goodIn_app (goodIn_of _ (by decide +kernel)) ggX6_walked_X5_openBelow
set_option maxRecDepth 20000 in
theorem ggX6_walked_X5_valueOf : GoodIn wsX6_walked wsX5_valueOf := goodIn_g _ [(32, 1), (15, 1), (33, 3), (13, 1), (36, 1), (55, 16)] rfl (by decide +kernel)
set_option maxRecDepth 20000 in
theorem gX6_walked_X5_valueOf : GoodIn wsX6_walked (wsV RX6 211 RX5 yX5_valueOf wsX5_valueOf) := goodIn_app (goodIn_of _ (by decide +kernel)) ggX6_walked_X5_valueOf
theorem dX6_walked_0 : decode cX6_walked 0 = .ok (.iload_n 2, 1) := by decide +kernel
theorem dX6_walked_1 : decode cX6_walked 1 = .ok (.iconst 0, 1) := by decide +kernel
theorem dX6_walked_2 : decode cX6_walked 2 = .ok (.bipush 9, 2) := by decide +kernel
theorem dX6_walked_4 : decode cX6_walked 4 = .ok (.invokestatic 99, 3) := by decide +kernel
theorem dX6_walked_7 : decode cX6_walked 7 = .ok (.ifCond .ne 5, 3) := by decide +kernel
theorem dX6_walked_10 : decode cX6_walked 10 = .ok (.iconst (-1), 1) := by decide +kernel
theorem dX6_walked_11 : decode cX6_walked 11 = .ok (.ireturn, 1) := by decide +kernel
theorem dX6_walked_12 : decode cX6_walked 12 = .ok (.iload_n 1, 1) := by decide +kernel
theorem dX6_walked_13 : decode cX6_walked 13 = .ok (.iconst 0, 1) := by decide +kernel
theorem dX6_walked_14 : decode cX6_walked 14 = .ok (.aload_n 0, 1) := by decide +kernel
theorem dX6_walked_15 : decode cX6_walked 15 = .ok (.getfield 82, 3) := by decide +kernel
theorem dX6_walked_18 : decode cX6_walked 18 = .ok (.getfield 192, 3) := by decide +kernel
theorem dX6_walked_21 : decode cX6_walked 21 = .ok (.iconst 1, 1) := by decide +kernel
theorem dX6_walked_22 : decode cX6_walked 22 = .ok (.isub, 1) := by decide +kernel
theorem dX6_walked_23 : decode cX6_walked 23 = .ok (.invokestatic 99, 3) := by decide +kernel
theorem dX6_walked_26 : decode cX6_walked 26 = .ok (.ifCond .ne 6, 3) := by decide +kernel
theorem dX6_walked_29 : decode cX6_walked 29 = .ok (.bipush (-9), 2) := by decide +kernel
theorem dX6_walked_31 : decode cX6_walked 31 = .ok (.ireturn, 1) := by decide +kernel
theorem dX6_walked_32 : decode cX6_walked 32 = .ok (.aload_n 0, 1) := by decide +kernel
theorem dX6_walked_33 : decode cX6_walked 33 = .ok (.getfield 82, 3) := by decide +kernel
theorem dX6_walked_36 : decode cX6_walked 36 = .ok (.getfield 195, 3) := by decide +kernel
theorem dX6_walked_39 : decode cX6_walked 39 = .ok (.iload_n 1, 1) := by decide +kernel
theorem dX6_walked_40 : decode cX6_walked 40 = .ok (.iaload, 1) := by decide +kernel
theorem dX6_walked_41 : decode cX6_walked 41 = .ok (.istore_n 3, 1) := by decide +kernel
theorem dX6_walked_42 : decode cX6_walked 42 = .ok (.iload_n 2, 1) := by decide +kernel
theorem dX6_walked_43 : decode cX6_walked 43 = .ok (.tableswitch 91 0 9 #[53, 91, 91, 91, 91, 91, 91, 63, 72, 82], 53) := by decide +kernel
theorem dX6_walked_96 : decode cX6_walked 96 = .ok (.aload_n 0, 1) := by decide +kernel
theorem dX6_walked_97 : decode cX6_walked 97 = .ok (.getfield 82, 3) := by decide +kernel
theorem dX6_walked_100 : decode cX6_walked 100 = .ok (.getfield 198, 3) := by decide +kernel
theorem dX6_walked_103 : decode cX6_walked 103 = .ok (.iload_n 3, 1) := by decide +kernel
theorem dX6_walked_104 : decode cX6_walked 104 = .ok (.baload, 1) := by decide +kernel
theorem dX6_walked_105 : decode cX6_walked 105 = .ok (.ireturn, 1) := by decide +kernel
theorem dX6_walked_106 : decode cX6_walked 106 = .ok (.aload_n 0, 1) := by decide +kernel
theorem dX6_walked_107 : decode cX6_walked 107 = .ok (.getfield 82, 3) := by decide +kernel
theorem dX6_walked_110 : decode cX6_walked 110 = .ok (.iload_n 3, 1) := by decide +kernel
theorem dX6_walked_111 : decode cX6_walked 111 = .ok (.invokevirtual 202, 3) := by decide +kernel
theorem dX6_walked_114 : decode cX6_walked 114 = .ok (.ireturn, 1) := by decide +kernel
theorem dX6_walked_115 : decode cX6_walked 115 = .ok (.aload_n 0, 1) := by decide +kernel
theorem dX6_walked_116 : decode cX6_walked 116 = .ok (.getfield 82, 3) := by decide +kernel
theorem dX6_walked_119 : decode cX6_walked 119 = .ok (.getfield 205, 3) := by decide +kernel
theorem dX6_walked_122 : decode cX6_walked 122 = .ok (.iload_n 3, 1) := by decide +kernel
theorem dX6_walked_123 : decode cX6_walked 123 = .ok (.baload, 1) := by decide +kernel
theorem dX6_walked_124 : decode cX6_walked 124 = .ok (.ireturn, 1) := by decide +kernel
theorem dX6_walked_125 : decode cX6_walked 125 = .ok (.aload_n 0, 1) := by decide +kernel
theorem dX6_walked_126 : decode cX6_walked 126 = .ok (.getfield 82, 3) := by decide +kernel
theorem dX6_walked_129 : decode cX6_walked 129 = .ok (.iload_n 3, 1) := by decide +kernel
theorem dX6_walked_130 : decode cX6_walked 130 = .ok (.invokevirtual 208, 3) := by decide +kernel
theorem dX6_walked_133 : decode cX6_walked 133 = .ok (.ireturn, 1) := by decide +kernel
theorem dX6_walked_134 : decode cX6_walked 134 = .ok (.iload_n 2, 1) := by decide +kernel
theorem dX6_walked_135 : decode cX6_walked 135 = .ok (.aload_n 0, 1) := by decide +kernel
theorem dX6_walked_136 : decode cX6_walked 136 = .ok (.getfield 82, 3) := by decide +kernel
theorem dX6_walked_139 : decode cX6_walked 139 = .ok (.getfield 198, 3) := by decide +kernel
theorem dX6_walked_142 : decode cX6_walked 142 = .ok (.iload_n 3, 1) := by decide +kernel
theorem dX6_walked_143 : decode cX6_walked 143 = .ok (.baload, 1) := by decide +kernel
theorem dX6_walked_144 : decode cX6_walked 144 = .ok (.if_icmp .gt 17, 3) := by decide +kernel
theorem dX6_walked_147 : decode cX6_walked 147 = .ok (.aload_n 0, 1) := by decide +kernel
theorem dX6_walked_148 : decode cX6_walked 148 = .ok (.getfield 82, 3) := by decide +kernel
theorem dX6_walked_151 : decode cX6_walked 151 = .ok (.iload_n 3, 1) := by decide +kernel
theorem dX6_walked_152 : decode cX6_walked 152 = .ok (.iload_n 2, 1) := by decide +kernel
theorem dX6_walked_153 : decode cX6_walked 153 = .ok (.iconst 1, 1) := by decide +kernel
theorem dX6_walked_154 : decode cX6_walked 154 = .ok (.isub, 1) := by decide +kernel
theorem dX6_walked_155 : decode cX6_walked 155 = .ok (.invokevirtual 211, 3) := by decide +kernel
theorem dX6_walked_158 : decode cX6_walked 158 = .ok (.goto 5, 3) := by decide +kernel
theorem dX6_walked_161 : decode cX6_walked 161 = .ok (.bipush (-9), 2) := by decide +kernel
theorem dX6_walked_163 : decode cX6_walked 163 = .ok (.ireturn, 1) := by decide +kernel
set_option maxRecDepth 20000 in
theorem ggX6_closed_X6_isWithin : GoodIn wsX6_closed wsX6_isWithin := goodIn_g _ [(9, 1)] rfl (by decide +kernel)
set_option maxRecDepth 20000 in
theorem gX6_closed_X6_isWithin : GoodIn wsX6_closed (va_wsS RX6 99 yX6_isWithin wsX6_isWithin) := goodIn_app (goodIn_of _ (by decide +kernel)) ggX6_closed_X6_isWithin
set_option maxRecDepth 20000 in
theorem ggX6_closed_X5_below : GoodIn wsX6_closed wsX5_below := goodIn_g _ [(14, 5), (13, 1), (19, 4), (41, 25)] rfl (by decide +kernel)
set_option maxRecDepth 20000 in
theorem gX6_closed_X5_below : GoodIn wsX6_closed (wsV RX6 214 RX5 yX5_below wsX5_below) := goodIn_app (goodIn_of _ (by decide +kernel)) ggX6_closed_X5_below
theorem dX6_closed_0 : decode cX6_closed 0 = .ok (.iload_n 3, 1) := by decide +kernel
theorem dX6_closed_1 : decode cX6_closed 1 = .ok (.iconst 0, 1) := by decide +kernel
theorem dX6_closed_2 : decode cX6_closed 2 = .ok (.iconst 1, 1) := by decide +kernel
theorem dX6_closed_3 : decode cX6_closed 3 = .ok (.invokestatic 99, 3) := by decide +kernel
theorem dX6_closed_6 : decode cX6_closed 6 = .ok (.ifCond .ne 5, 3) := by decide +kernel
theorem dX6_closed_9 : decode cX6_closed 9 = .ok (.iconst (-1), 1) := by decide +kernel
theorem dX6_closed_10 : decode cX6_closed 10 = .ok (.ireturn, 1) := by decide +kernel
theorem dX6_closed_11 : decode cX6_closed 11 = .ok (.iload_n 1, 1) := by decide +kernel
theorem dX6_closed_12 : decode cX6_closed 12 = .ok (.iconst 0, 1) := by decide +kernel
theorem dX6_closed_13 : decode cX6_closed 13 = .ok (.aload_n 0, 1) := by decide +kernel
theorem dX6_closed_14 : decode cX6_closed 14 = .ok (.getfield 82, 3) := by decide +kernel
theorem dX6_closed_17 : decode cX6_closed 17 = .ok (.getfield 192, 3) := by decide +kernel
theorem dX6_closed_20 : decode cX6_closed 20 = .ok (.iconst 1, 1) := by decide +kernel
theorem dX6_closed_21 : decode cX6_closed 21 = .ok (.isub, 1) := by decide +kernel
theorem dX6_closed_22 : decode cX6_closed 22 = .ok (.invokestatic 99, 3) := by decide +kernel
theorem dX6_closed_25 : decode cX6_closed 25 = .ok (.ifCond .ne 6, 3) := by decide +kernel
theorem dX6_closed_28 : decode cX6_closed 28 = .ok (.bipush (-9), 2) := by decide +kernel
theorem dX6_closed_30 : decode cX6_closed 30 = .ok (.ireturn, 1) := by decide +kernel
theorem dX6_closed_31 : decode cX6_closed 31 = .ok (.aload_n 0, 1) := by decide +kernel
theorem dX6_closed_32 : decode cX6_closed 32 = .ok (.getfield 82, 3) := by decide +kernel
theorem dX6_closed_35 : decode cX6_closed 35 = .ok (.aload_n 0, 1) := by decide +kernel
theorem dX6_closed_36 : decode cX6_closed 36 = .ok (.getfield 82, 3) := by decide +kernel
theorem dX6_closed_39 : decode cX6_closed 39 = .ok (.getfield 195, 3) := by decide +kernel
theorem dX6_closed_42 : decode cX6_closed 42 = .ok (.iload_n 1, 1) := by decide +kernel
theorem dX6_closed_43 : decode cX6_closed 43 = .ok (.iaload, 1) := by decide +kernel
theorem dX6_closed_44 : decode cX6_closed 44 = .ok (.iload_n 2, 1) := by decide +kernel
theorem dX6_closed_45 : decode cX6_closed 45 = .ok (.invokevirtual 214, 3) := by decide +kernel
theorem dX6_closed_48 : decode cX6_closed 48 = .ok (.istore 4, 2) := by decide +kernel
theorem dX6_closed_50 : decode cX6_closed 50 = .ok (.iload 4, 2) := by decide +kernel
theorem dX6_closed_52 : decode cX6_closed 52 = .ok (.iconst (-1), 1) := by decide +kernel
theorem dX6_closed_53 : decode cX6_closed 53 = .ok (.if_icmp .ne 6, 3) := by decide +kernel
theorem dX6_closed_56 : decode cX6_closed 56 = .ok (.bipush (-9), 2) := by decide +kernel
theorem dX6_closed_58 : decode cX6_closed 58 = .ok (.ireturn, 1) := by decide +kernel
theorem dX6_closed_59 : decode cX6_closed 59 = .ok (.iload_n 3, 1) := by decide +kernel
theorem dX6_closed_60 : decode cX6_closed 60 = .ok (.ifCond .ne 16, 3) := by decide +kernel
theorem dX6_closed_63 : decode cX6_closed 63 = .ok (.aload_n 0, 1) := by decide +kernel
theorem dX6_closed_64 : decode cX6_closed 64 = .ok (.getfield 82, 3) := by decide +kernel
theorem dX6_closed_67 : decode cX6_closed 67 = .ok (.getfield 217, 3) := by decide +kernel
theorem dX6_closed_70 : decode cX6_closed 70 = .ok (.iload 4, 2) := by decide +kernel
theorem dX6_closed_72 : decode cX6_closed 72 = .ok (.baload, 1) := by decide +kernel
theorem dX6_closed_73 : decode cX6_closed 73 = .ok (.goto 13, 3) := by decide +kernel
theorem dX6_closed_76 : decode cX6_closed 76 = .ok (.aload_n 0, 1) := by decide +kernel
theorem dX6_closed_77 : decode cX6_closed 77 = .ok (.getfield 82, 3) := by decide +kernel
theorem dX6_closed_80 : decode cX6_closed 80 = .ok (.getfield 220, 3) := by decide +kernel
theorem dX6_closed_83 : decode cX6_closed 83 = .ok (.iload 4, 2) := by decide +kernel
theorem dX6_closed_85 : decode cX6_closed 85 = .ok (.baload, 1) := by decide +kernel
theorem dX6_closed_86 : decode cX6_closed 86 = .ok (.ireturn, 1) := by decide +kernel
set_option maxRecDepth 20000 in
theorem ggX6_ask_X6_isProblem : GoodIn wsX6_ask wsX6_isProblem := goodIn_g _ [(12, 4), (11, 1), (16, 1), (21, 18)] rfl (by decide +kernel)
set_option maxRecDepth 20000 in
theorem gX6_ask_X6_isProblem : GoodIn wsX6_ask (wsV RX6 95 RX6 yX6_isProblem wsX6_isProblem) := goodIn_app (goodIn_of _ (by decide +kernel)) ggX6_ask_X6_isProblem
set_option maxRecDepth 20000 in
theorem ggX6_ask_J7_fill_53178 : GoodIn wsX6_ask wsJ7_fill_53178 := goodIn_g _ [(20, 1)] rfl (by decide +kernel)
set_option maxRecDepth 20000 in
theorem gX6_ask_J7_fill_53178 : GoodIn wsX6_ask (va_wsS RX6 89 yJ7_fill_53178 wsJ7_fill_53178) := goodIn_app (goodIn_of _ (by decide +kernel)) ggX6_ask_J7_fill_53178
theorem dX6_ask_0 : decode cX6_ask 0 = .ok (.aload_n 0, 1) := by decide +kernel
theorem dX6_ask_1 : decode cX6_ask 1 = .ok (.iload_n 1, 1) := by decide +kernel
theorem dX6_ask_2 : decode cX6_ask 2 = .ok (.invokevirtual 95, 3) := by decide +kernel
theorem dX6_ask_5 : decode cX6_ask 5 = .ok (.ifCond .ne 5, 3) := by decide +kernel
theorem dX6_ask_8 : decode cX6_ask 8 = .ok (.iconst (-1), 1) := by decide +kernel
theorem dX6_ask_9 : decode cX6_ask 9 = .ok (.ireturn, 1) := by decide +kernel
theorem dX6_ask_10 : decode cX6_ask 10 = .ok (.aload_n 0, 1) := by decide +kernel
theorem dX6_ask_11 : decode cX6_ask 11 = .ok (.iload_n 1, 1) := by decide +kernel
theorem dX6_ask_12 : decode cX6_ask 12 = .ok (.putfield 32, 3) := by decide +kernel
theorem dX6_ask_15 : decode cX6_ask 15 = .ok (.aload_n 0, 1) := by decide +kernel
theorem dX6_ask_16 : decode cX6_ask 16 = .ok (.aload_n 0, 1) := by decide +kernel
theorem dX6_ask_17 : decode cX6_ask 17 = .ok (.getfield 11, 3) := by decide +kernel
theorem dX6_ask_20 : decode cX6_ask 20 = .ok (.iload_n 1, 1) := by decide +kernel
theorem dX6_ask_21 : decode cX6_ask 21 = .ok (.aaload, 1) := by decide +kernel
theorem dX6_ask_22 : decode cX6_ask 22 = .ok (.getfield 232, 3) := by decide +kernel
theorem dX6_ask_25 : decode cX6_ask 25 = .ok (.putfield 35, 3) := by decide +kernel
theorem dX6_ask_28 : decode cX6_ask 28 = .ok (.aload_n 0, 1) := by decide +kernel
theorem dX6_ask_29 : decode cX6_ask 29 = .ok (.iconst 0, 1) := by decide +kernel
theorem dX6_ask_30 : decode cX6_ask 30 = .ok (.putfield 38, 3) := by decide +kernel
theorem dX6_ask_33 : decode cX6_ask 33 = .ok (.aload_n 0, 1) := by decide +kernel
theorem dX6_ask_34 : decode cX6_ask 34 = .ok (.getfield 41, 3) := by decide +kernel
theorem dX6_ask_37 : decode cX6_ask 37 = .ok (.iconst (-1), 1) := by decide +kernel
theorem dX6_ask_38 : decode cX6_ask 38 = .ok (.invokestatic 89, 3) := by decide +kernel
theorem dX6_ask_41 : decode cX6_ask 41 = .ok (.aload_n 0, 1) := by decide +kernel
theorem dX6_ask_42 : decode cX6_ask 42 = .ok (.getfield 11, 3) := by decide +kernel
theorem dX6_ask_45 : decode cX6_ask 45 = .ok (.iload_n 1, 1) := by decide +kernel
theorem dX6_ask_46 : decode cX6_ask 46 = .ok (.aaload, 1) := by decide +kernel
theorem dX6_ask_47 : decode cX6_ask 47 = .ok (.getfield 103, 3) := by decide +kernel
theorem dX6_ask_50 : decode cX6_ask 50 = .ok (.ireturn, 1) := by decide +kernel
set_option maxRecDepth 20000 in
theorem ggX6_with_X1_hasValue : GoodIn wsX6_with wsX1_hasValue := goodIn_g _ [(9, 5), (8, 1), (14, 2), (34, 9)] rfl (by decide +kernel)
set_option maxRecDepth 20000 in
theorem gX6_with_X1_hasValue : GoodIn wsX6_with (wsV RX6 110 RX1 yX1_hasValue wsX1_hasValue) := goodIn_app (goodIn_of _ (by decide +kernel)) ggX6_with_X1_hasValue
theorem dX6_with_0 : decode cX6_with 0 = .ok (.aload_n 0, 1) := by decide +kernel
theorem dX6_with_1 : decode cX6_with 1 = .ok (.getfield 32, 3) := by decide +kernel
theorem dX6_with_4 : decode cX6_with 4 = .ok (.bipush (-9), 2) := by decide +kernel
theorem dX6_with_6 : decode cX6_with 6 = .ok (.if_icmp .eq 23, 3) := by decide +kernel
theorem dX6_with_9 : decode cX6_with 9 = .ok (.aload_n 0, 1) := by decide +kernel
theorem dX6_with_10 : decode cX6_with 10 = .ok (.getfield 11, 3) := by decide +kernel
theorem dX6_with_13 : decode cX6_with 13 = .ok (.aload_n 0, 1) := by decide +kernel
theorem dX6_with_14 : decode cX6_with 14 = .ok (.getfield 32, 3) := by decide +kernel
theorem dX6_with_17 : decode cX6_with 17 = .ok (.aaload, 1) := by decide +kernel
theorem dX6_with_18 : decode cX6_with 18 = .ok (.aload_n 0, 1) := by decide +kernel
theorem dX6_with_19 : decode cX6_with 19 = .ok (.getfield 38, 3) := by decide +kernel
theorem dX6_with_22 : decode cX6_with 22 = .ok (.iload_n 1, 1) := by decide +kernel
theorem dX6_with_23 : decode cX6_with 23 = .ok (.invokevirtual 110, 3) := by decide +kernel
theorem dX6_with_26 : decode cX6_with 26 = .ok (.ifCond .ne 5, 3) := by decide +kernel
theorem dX6_with_29 : decode cX6_with 29 = .ok (.iconst (-1), 1) := by decide +kernel
theorem dX6_with_30 : decode cX6_with 30 = .ok (.ireturn, 1) := by decide +kernel
theorem dX6_with_31 : decode cX6_with 31 = .ok (.aload_n 0, 1) := by decide +kernel
theorem dX6_with_32 : decode cX6_with 32 = .ok (.getfield 41, 3) := by decide +kernel
theorem dX6_with_35 : decode cX6_with 35 = .ok (.aload_n 0, 1) := by decide +kernel
theorem dX6_with_36 : decode cX6_with 36 = .ok (.getfield 38, 3) := by decide +kernel
theorem dX6_with_39 : decode cX6_with 39 = .ok (.iload_n 1, 1) := by decide +kernel
theorem dX6_with_40 : decode cX6_with 40 = .ok (.iastore, 1) := by decide +kernel
theorem dX6_with_41 : decode cX6_with 41 = .ok (.aload_n 0, 1) := by decide +kernel
theorem dX6_with_42 : decode cX6_with 42 = .ok (.dup, 1) := by decide +kernel
theorem dX6_with_43 : decode cX6_with 43 = .ok (.getfield 38, 3) := by decide +kernel
theorem dX6_with_46 : decode cX6_with 46 = .ok (.iconst 1, 1) := by decide +kernel
theorem dX6_with_47 : decode cX6_with 47 = .ok (.iadd, 1) := by decide +kernel
theorem dX6_with_48 : decode cX6_with 48 = .ok (.putfield 38, 3) := by decide +kernel
theorem dX6_with_51 : decode cX6_with 51 = .ok (.aload_n 0, 1) := by decide +kernel
theorem dX6_with_52 : decode cX6_with 52 = .ok (.getfield 38, 3) := by decide +kernel
theorem dX6_with_55 : decode cX6_with 55 = .ok (.ireturn, 1) := by decide +kernel
set_option maxRecDepth 20000 in
theorem ggX6_node_X6_isWithin : GoodIn wsX6_node wsX6_isWithin := goodIn_g _ [(16, 1)] rfl (by decide +kernel)
set_option maxRecDepth 20000 in
theorem gX6_node_X6_isWithin : GoodIn wsX6_node (va_wsS RX6 99 yX6_isWithin wsX6_isWithin) := goodIn_app (goodIn_of _ (by decide +kernel)) ggX6_node_X6_isWithin
set_option maxRecDepth 20000 in
theorem ggX6_node_X1_hasRule : GoodIn wsX6_node wsX1_hasRule := goodIn_g _ [(21, 2), (145, 9)] rfl (by decide +kernel)
set_option maxRecDepth 20000 in
theorem gX6_node_X1_hasRule : GoodIn wsX6_node (wsV RX6 136 RX1 yX1_hasRule wsX1_hasRule) := goodIn_app (goodIn_of _ (by decide +kernel)) ggX6_node_X1_hasRule
set_option maxRecDepth 20000 in
theorem ggX6_node_X2_isBroken : GoodIn wsX6_node wsX2_isBroken := goodIn_g _ [(27, 10), (26, 1), (37, 30), (157, 7)] rfl (by decide +kernel)
set_option maxRecDepth 20000 in
theorem gX6_node_X2_isBroken : GoodIn wsX6_node (wsV RX6 238 RX2 yX2_isBroken wsX2_isBroken) := goodIn_app (goodIn_of _ (by decide +kernel)) ggX6_node_X2_isBroken
set_option maxRecDepth 20000 in
theorem ggX6_node_X6_asNumber : GoodIn wsX6_node wsX6_asNumber := goodIn_g _ [(69, 1)] rfl (by decide +kernel)
set_option maxRecDepth 20000 in
theorem gX6_node_X6_asNumber : GoodIn wsX6_node (va_wsS RX6 242 yX6_asNumber wsX6_asNumber) := goodIn_app (goodIn_of _ (by decide +kernel)) ggX6_node_X6_asNumber
set_option maxRecDepth 20000 in
theorem ggX6_node_X1_hasValue : GoodIn wsX6_node wsX1_hasValue := goodIn_g _ [(73, 5), (20, 1), (78, 2), (145, 9)] rfl (by decide +kernel)
set_option maxRecDepth 20000 in
theorem gX6_node_X1_hasValue : GoodIn wsX6_node (wsV RX6 110 RX1 yX1_hasValue wsX1_hasValue) := goodIn_app (goodIn_of _ (by decide +kernel)) ggX6_node_X1_hasValue
set_option maxRecDepth 20000 in
theorem ggX6_node_X1_isOut : GoodIn wsX6_node wsX1_isOut := goodIn_g _ [(83, 4), (20, 1), (87, 1), (22, 1), (88, 1), (74, 1), (89, 1), (24, 43), (145, 9), (157, 7)] rfl (by decide +kernel)
set_option maxRecDepth 20000 in
theorem gX6_node_X1_isOut : GoodIn wsX6_node (wsV RX6 246 RX1 yX1_isOut wsX1_isOut) := goodIn_app (goodIn_of _ (by decide +kernel)) ggX6_node_X1_isOut
set_option maxRecDepth 20000 in
theorem ggX6_node_X0_look : GoodIn wsX6_node wsX0_look := goodIn_g _ [(94, 8), (85, 2), (20, 1), (87, 1), (22, 1), (88, 1), (74, 1), (89, 1), (24, 43), (102, 3), (93, 1), (105, 22), (145, 19)] rfl (by decide +kernel)
set_option maxRecDepth 20000 in
theorem gX6_node_X0_look : GoodIn wsX6_node (wsV RX6 250 RX0 yX0_look wsX0_look) := goodIn_app (goodIn_of _ (by decide +kernel)) ggX6_node_X0_look
theorem dX6_node_0 : decode cX6_node 0 = .ok (.iload_n 1, 1) := by decide +kernel
theorem dX6_node_1 : decode cX6_node 1 = .ok (.iconst 0, 1) := by decide +kernel
theorem dX6_node_2 : decode cX6_node 2 = .ok (.iconst 4, 1) := by decide +kernel
theorem dX6_node_3 : decode cX6_node 3 = .ok (.invokestatic 99, 3) := by decide +kernel
theorem dX6_node_6 : decode cX6_node 6 = .ok (.ifCond .ne 5, 3) := by decide +kernel
theorem dX6_node_9 : decode cX6_node 9 = .ok (.iconst (-1), 1) := by decide +kernel
theorem dX6_node_10 : decode cX6_node 10 = .ok (.ireturn, 1) := by decide +kernel
theorem dX6_node_11 : decode cX6_node 11 = .ok (.aload_n 0, 1) := by decide +kernel
theorem dX6_node_12 : decode cX6_node 12 = .ok (.getfield 32, 3) := by decide +kernel
theorem dX6_node_15 : decode cX6_node 15 = .ok (.bipush (-9), 2) := by decide +kernel
theorem dX6_node_17 : decode cX6_node 17 = .ok (.if_icmp .eq 22, 3) := by decide +kernel
theorem dX6_node_20 : decode cX6_node 20 = .ok (.aload_n 0, 1) := by decide +kernel
theorem dX6_node_21 : decode cX6_node 21 = .ok (.getfield 11, 3) := by decide +kernel
theorem dX6_node_24 : decode cX6_node 24 = .ok (.aload_n 0, 1) := by decide +kernel
theorem dX6_node_25 : decode cX6_node 25 = .ok (.getfield 32, 3) := by decide +kernel
theorem dX6_node_28 : decode cX6_node 28 = .ok (.aaload, 1) := by decide +kernel
theorem dX6_node_29 : decode cX6_node 29 = .ok (.getfield 232, 3) := by decide +kernel
theorem dX6_node_32 : decode cX6_node 32 = .ok (.aload_n 0, 1) := by decide +kernel
theorem dX6_node_33 : decode cX6_node 33 = .ok (.getfield 35, 3) := by decide +kernel
theorem dX6_node_36 : decode cX6_node 36 = .ok (.if_icmp .eq 6, 3) := by decide +kernel
theorem dX6_node_39 : decode cX6_node 39 = .ok (.bipush (-2), 2) := by decide +kernel
theorem dX6_node_41 : decode cX6_node 41 = .ok (.ireturn, 1) := by decide +kernel
theorem dX6_node_42 : decode cX6_node 42 = .ok (.aload_n 0, 1) := by decide +kernel
theorem dX6_node_43 : decode cX6_node 43 = .ok (.getfield 11, 3) := by decide +kernel
theorem dX6_node_46 : decode cX6_node 46 = .ok (.aload_n 0, 1) := by decide +kernel
theorem dX6_node_47 : decode cX6_node 47 = .ok (.getfield 32, 3) := by decide +kernel
theorem dX6_node_50 : decode cX6_node 50 = .ok (.aaload, 1) := by decide +kernel
theorem dX6_node_51 : decode cX6_node 51 = .ok (.astore 4, 2) := by decide +kernel
theorem dX6_node_53 : decode cX6_node 53 = .ok (.iload_n 1, 1) := by decide +kernel
theorem dX6_node_54 : decode cX6_node 54 = .ok (.ifCond .ne 39, 3) := by decide +kernel
theorem dX6_node_57 : decode cX6_node 57 = .ok (.aload 4, 2) := by decide +kernel
theorem dX6_node_59 : decode cX6_node 59 = .ok (.iload_n 2, 1) := by decide +kernel
theorem dX6_node_60 : decode cX6_node 60 = .ok (.invokevirtual 136, 3) := by decide +kernel
theorem dX6_node_63 : decode cX6_node 63 = .ok (.ifCond .eq 28, 3) := by decide +kernel
theorem dX6_node_66 : decode cX6_node 66 = .ok (.aload 4, 2) := by decide +kernel
theorem dX6_node_68 : decode cX6_node 68 = .ok (.getfield 142, 3) := by decide +kernel
theorem dX6_node_71 : decode cX6_node 71 = .ok (.iload_n 2, 1) := by decide +kernel
theorem dX6_node_72 : decode cX6_node 72 = .ok (.aaload, 1) := by decide +kernel
theorem dX6_node_73 : decode cX6_node 73 = .ok (.aload_n 0, 1) := by decide +kernel
theorem dX6_node_74 : decode cX6_node 74 = .ok (.getfield 41, 3) := by decide +kernel
theorem dX6_node_77 : decode cX6_node 77 = .ok (.aload 4, 2) := by decide +kernel
theorem dX6_node_79 : decode cX6_node 79 = .ok (.getfield 235, 3) := by decide +kernel
theorem dX6_node_82 : decode cX6_node 82 = .ok (.invokevirtual 238, 3) := by decide +kernel
theorem dX6_node_85 : decode cX6_node 85 = .ok (.invokestatic 242, 3) := by decide +kernel
theorem dX6_node_88 : decode cX6_node 88 = .ok (.goto 4, 3) := by decide +kernel
theorem dX6_node_91 : decode cX6_node 91 = .ok (.iconst (-1), 1) := by decide +kernel
theorem dX6_node_92 : decode cX6_node 92 = .ok (.ireturn, 1) := by decide +kernel
theorem dX6_node_93 : decode cX6_node 93 = .ok (.iload_n 1, 1) := by decide +kernel
theorem dX6_node_94 : decode cX6_node 94 = .ok (.iconst 1, 1) := by decide +kernel
theorem dX6_node_95 : decode cX6_node 95 = .ok (.if_icmp .ne 32, 3) := by decide +kernel
theorem dX6_node_98 : decode cX6_node 98 = .ok (.aload 4, 2) := by decide +kernel
theorem dX6_node_100 : decode cX6_node 100 = .ok (.iload_n 2, 1) := by decide +kernel
theorem dX6_node_101 : decode cX6_node 101 = .ok (.iload_n 3, 1) := by decide +kernel
theorem dX6_node_102 : decode cX6_node 102 = .ok (.invokevirtual 110, 3) := by decide +kernel
theorem dX6_node_105 : decode cX6_node 105 = .ok (.ifCond .eq 20, 3) := by decide +kernel
theorem dX6_node_108 : decode cX6_node 108 = .ok (.aload 4, 2) := by decide +kernel
theorem dX6_node_110 : decode cX6_node 110 = .ok (.aload_n 0, 1) := by decide +kernel
theorem dX6_node_111 : decode cX6_node 111 = .ok (.getfield 41, 3) := by decide +kernel
theorem dX6_node_114 : decode cX6_node 114 = .ok (.iload_n 2, 1) := by decide +kernel
theorem dX6_node_115 : decode cX6_node 115 = .ok (.iload_n 3, 1) := by decide +kernel
theorem dX6_node_116 : decode cX6_node 116 = .ok (.invokevirtual 246, 3) := by decide +kernel
theorem dX6_node_119 : decode cX6_node 119 = .ok (.invokestatic 242, 3) := by decide +kernel
theorem dX6_node_122 : decode cX6_node 122 = .ok (.goto 4, 3) := by decide +kernel
theorem dX6_node_125 : decode cX6_node 125 = .ok (.iconst (-1), 1) := by decide +kernel
theorem dX6_node_126 : decode cX6_node 126 = .ok (.ireturn, 1) := by decide +kernel
theorem dX6_node_127 : decode cX6_node 127 = .ok (.aload_n 0, 1) := by decide +kernel
theorem dX6_node_128 : decode cX6_node 128 = .ok (.getfield 48, 3) := by decide +kernel
theorem dX6_node_131 : decode cX6_node 131 = .ok (.aload 4, 2) := by decide +kernel
theorem dX6_node_133 : decode cX6_node 133 = .ok (.aload_n 0, 1) := by decide +kernel
theorem dX6_node_134 : decode cX6_node 134 = .ok (.getfield 41, 3) := by decide +kernel
theorem dX6_node_137 : decode cX6_node 137 = .ok (.aload_n 0, 1) := by decide +kernel
theorem dX6_node_138 : decode cX6_node 138 = .ok (.getfield 38, 3) := by decide +kernel
theorem dX6_node_141 : decode cX6_node 141 = .ok (.iconst 1, 1) := by decide +kernel
theorem dX6_node_142 : decode cX6_node 142 = .ok (.invokevirtual 250, 3) := by decide +kernel
theorem dX6_node_145 : decode cX6_node 145 = .ok (.iload_n 1, 1) := by decide +kernel
theorem dX6_node_146 : decode cX6_node 146 = .ok (.iconst 2, 1) := by decide +kernel
theorem dX6_node_147 : decode cX6_node 147 = .ok (.if_icmp .ne 11, 3) := by decide +kernel
theorem dX6_node_150 : decode cX6_node 150 = .ok (.aload_n 0, 1) := by decide +kernel
theorem dX6_node_151 : decode cX6_node 151 = .ok (.getfield 48, 3) := by decide +kernel
theorem dX6_node_154 : decode cX6_node 154 = .ok (.getfield 254, 3) := by decide +kernel
theorem dX6_node_157 : decode cX6_node 157 = .ok (.ireturn, 1) := by decide +kernel
theorem dX6_node_158 : decode cX6_node 158 = .ok (.iload_n 1, 1) := by decide +kernel
theorem dX6_node_159 : decode cX6_node 159 = .ok (.iconst 3, 1) := by decide +kernel
theorem dX6_node_160 : decode cX6_node 160 = .ok (.if_icmp .ne 13, 3) := by decide +kernel
theorem dX6_node_163 : decode cX6_node 163 = .ok (.aload_n 0, 1) := by decide +kernel
theorem dX6_node_164 : decode cX6_node 164 = .ok (.getfield 48, 3) := by decide +kernel
theorem dX6_node_167 : decode cX6_node 167 = .ok (.getfield 256, 3) := by decide +kernel
theorem dX6_node_170 : decode cX6_node 170 = .ok (.goto 10, 3) := by decide +kernel
theorem dX6_node_173 : decode cX6_node 173 = .ok (.aload_n 0, 1) := by decide +kernel
theorem dX6_node_174 : decode cX6_node 174 = .ok (.getfield 48, 3) := by decide +kernel
theorem dX6_node_177 : decode cX6_node 177 = .ok (.getfield 259, 3) := by decide +kernel
theorem dX6_node_180 : decode cX6_node 180 = .ok (.ireturn, 1) := by decide +kernel
set_option maxRecDepth 20000 in
theorem ggX6_second_X6_isProblem : GoodIn wsX6_second wsX6_isProblem := goodIn_g _ [(11, 4), (10, 1), (15, 1), (178, 18)] rfl (by decide +kernel)
set_option maxRecDepth 20000 in
theorem gX6_second_X6_isProblem : GoodIn wsX6_second (wsV RX6 95 RX6 yX6_isProblem wsX6_isProblem) := goodIn_app (goodIn_of _ (by decide +kernel)) ggX6_second_X6_isProblem
set_option maxRecDepth 20000 in
theorem ggX6_second_X6_isWithin : GoodIn wsX6_second wsX6_isWithin := goodIn_g _ [(15, 1)] rfl (by decide +kernel)
set_option maxRecDepth 20000 in
theorem gX6_second_X6_isWithin : GoodIn wsX6_second (va_wsS RX6 99 yX6_isWithin wsX6_isWithin) := goodIn_app (goodIn_of _ (by decide +kernel)) ggX6_second_X6_isWithin
set_option maxRecDepth 20000 in
theorem ggX6_second_J7_fill_53178 : GoodIn wsX6_second wsJ7_fill_53178 := goodIn_g _ [(19, 1)] rfl (by decide +kernel)
set_option maxRecDepth 20000 in
theorem gX6_second_J7_fill_53178 : GoodIn wsX6_second (va_wsS RX6 89 yJ7_fill_53178 wsJ7_fill_53178) := goodIn_app (goodIn_of _ (by decide +kernel)) ggX6_second_J7_fill_53178
set_option maxRecDepth 20000 in
theorem ggX6_second_X5_plant : GoodIn wsX6_second wsX5_plant := goodIn_g _ [(24, 10), (17, 3), (34, 91), (23, 1), (125, 11), (196, 35)] rfl (by decide +kernel)
set_option maxRecDepth 20000 in
theorem gX6_second_X5_plant : GoodIn wsX6_second (wsV RX6 262 RX5 yX5_plant wsX5_plant) := goodIn_app (goodIn_of _ (by decide +kernel)) ggX6_second_X5_plant
set_option maxRecDepth 20000 in
theorem ggX6_second_X5_nextOfWalk : GoodIn wsX6_second wsX5_nextOfWalk := goodIn_g _ [(139, 1), (27, 1), (32, 1), (129, 1), (133, 1), (126, 1), (196, 16)] rfl (by decide +kernel)
set_option maxRecDepth 20000 in
theorem gX6_second_X5_nextOfWalk : GoodIn wsX6_second (wsV RX6 266 RX5 yX5_nextOfWalk wsX5_nextOfWalk) := goodIn_app (goodIn_of _ (by decide +kernel)) ggX6_second_X5_nextOfWalk
set_option maxRecDepth 20000 in
theorem ggX6_second_X5_finish : GoodIn wsX6_second wsX5_finish := goodIn_g _ [(143, 1), (133, 2), (28, 1), (128, 1), (126, 1), (144, 1), (30, 1), (135, 1), (27, 1), (25, 1), (145, 1), (31, 1), (26, 1), (146, 3), (23, 1), (149, 2), (33, 1), (17, 3), (151, 12), (34, 92), (127, 1), (129, 4), (32, 1), (196, 35)] rfl (by decide +kernel)
set_option maxRecDepth 20000 in
theorem gX6_second_X5_finish : GoodIn wsX6_second (wsV RX6 270 RX5 yX5_finish wsX5_finish) := goodIn_app (goodIn_of _ (by decide +kernel)) ggX6_second_X5_finish
set_option maxRecDepth 20000 in
theorem ggX6_second_X5_take : GoodIn wsX6_second wsX5_take := goodIn_g _ [(166, 1), (29, 1), (133, 1), (167, 1), (32, 1), (135, 1), (168, 3), (23, 1), (171, 1), (25, 1), (145, 1), (128, 1), (196, 25)] rfl (by decide +kernel)
set_option maxRecDepth 20000 in
theorem gX6_second_X5_take : GoodIn wsX6_second (wsV RX6 274 RX5 yX5_take wsX5_take) := goodIn_app (goodIn_of _ (by decide +kernel)) ggX6_second_X5_take
set_option maxRecDepth 20000 in
theorem ggX6_second_X5_isFull : GoodIn wsX6_second wsX5_isFull := goodIn_g _ [(149, 1), (128, 1), (25, 1), (150, 1), (196, 25)] rfl (by decide +kernel)
set_option maxRecDepth 20000 in
theorem gX6_second_X5_isFull : GoodIn wsX6_second (wsV RX6 277 RX5 yX5_isFull wsX5_isFull) := goodIn_app (goodIn_of _ (by decide +kernel)) ggX6_second_X5_isFull
set_option maxRecDepth 20000 in
theorem ggX6_second_X5_copyValues : GoodIn wsX6_second wsX5_copyValues := goodIn_g _ [(154, 1), (128, 1), (155, 3), (23, 1), (158, 1), (126, 1), (159, 4), (196, 16)] rfl (by decide +kernel)
set_option maxRecDepth 20000 in
theorem gX6_second_X5_copyValues : GoodIn wsX6_second (wsV RX6 280 RX5 yX5_copyValues wsX5_copyValues) := goodIn_app (goodIn_of _ (by decide +kernel)) ggX6_second_X5_copyValues
set_option maxRecDepth 20000 in
theorem ggX6_second_X5_boundOf : GoodIn wsX6_second wsX5_boundOf := goodIn_g _ [(177, 1), (126, 1), (196, 16)] rfl (by decide +kernel)
set_option maxRecDepth 20000 in
theorem gX6_second_X5_boundOf : GoodIn wsX6_second (wsV RX6 202 RX5 yX5_boundOf wsX5_boundOf) := goodIn_app (goodIn_of _ (by decide +kernel)) ggX6_second_X5_boundOf
theorem dX6_second_0 : decode cX6_second 0 = .ok (.aload_n 0, 1) := by decide +kernel
theorem dX6_second_1 : decode cX6_second 1 = .ok (.iload_n 1, 1) := by decide +kernel
theorem dX6_second_2 : decode cX6_second 2 = .ok (.invokevirtual 95, 3) := by decide +kernel
theorem dX6_second_5 : decode cX6_second 5 = .ok (.ifCond .eq 13, 3) := by decide +kernel
theorem dX6_second_8 : decode cX6_second 8 = .ok (.iload_n 2, 1) := by decide +kernel
theorem dX6_second_9 : decode cX6_second 9 = .ok (.iconst 0, 1) := by decide +kernel
theorem dX6_second_10 : decode cX6_second 10 = .ok (.bipush 60, 2) := by decide +kernel
theorem dX6_second_12 : decode cX6_second 12 = .ok (.invokestatic 99, 3) := by decide +kernel
theorem dX6_second_15 : decode cX6_second 15 = .ok (.ifCond .ne 7, 3) := by decide +kernel
theorem dX6_second_18 : decode cX6_second 18 = .ok (.ldc_w 261, 3) := by decide +kernel
theorem dX6_second_21 : decode cX6_second 21 = .ok (.ireturn, 1) := by decide +kernel
theorem dX6_second_22 : decode cX6_second 22 = .ok (.aload_n 0, 1) := by decide +kernel
theorem dX6_second_23 : decode cX6_second 23 = .ok (.getfield 52, 3) := by decide +kernel
theorem dX6_second_26 : decode cX6_second 26 = .ok (.bipush (-9), 2) := by decide +kernel
theorem dX6_second_28 : decode cX6_second 28 = .ok (.invokestatic 89, 3) := by decide +kernel
theorem dX6_second_31 : decode cX6_second 31 = .ok (.aload_n 0, 1) := by decide +kernel
theorem dX6_second_32 : decode cX6_second 32 = .ok (.getfield 86, 3) := by decide +kernel
theorem dX6_second_35 : decode cX6_second 35 = .ok (.aload_n 0, 1) := by decide +kernel
theorem dX6_second_36 : decode cX6_second 36 = .ok (.getfield 11, 3) := by decide +kernel
theorem dX6_second_39 : decode cX6_second 39 = .ok (.iload_n 1, 1) := by decide +kernel
theorem dX6_second_40 : decode cX6_second 40 = .ok (.aaload, 1) := by decide +kernel
theorem dX6_second_41 : decode cX6_second 41 = .ok (.iconst 0, 1) := by decide +kernel
theorem dX6_second_42 : decode cX6_second 42 = .ok (.invokevirtual 262, 3) := by decide +kernel
theorem dX6_second_45 : decode cX6_second 45 = .ok (.iload_n 2, 1) := by decide +kernel
theorem dX6_second_46 : decode cX6_second 46 = .ok (.istore_n 3, 1) := by decide +kernel
theorem dX6_second_47 : decode cX6_second 47 = .ok (.iconst 0, 1) := by decide +kernel
theorem dX6_second_48 : decode cX6_second 48 = .ok (.istore 4, 2) := by decide +kernel
theorem dX6_second_50 : decode cX6_second 50 = .ok (.iload 4, 2) := by decide +kernel
theorem dX6_second_52 : decode cX6_second 52 = .ok (.sipush 250, 3) := by decide +kernel
theorem dX6_second_55 : decode cX6_second 55 = .ok (.if_icmp .ge 90, 3) := by decide +kernel
theorem dX6_second_58 : decode cX6_second 58 = .ok (.aload_n 0, 1) := by decide +kernel
theorem dX6_second_59 : decode cX6_second 59 = .ok (.getfield 86, 3) := by decide +kernel
theorem dX6_second_62 : decode cX6_second 62 = .ok (.invokevirtual 266, 3) := by decide +kernel
theorem dX6_second_65 : decode cX6_second 65 = .ok (.istore 5, 2) := by decide +kernel
theorem dX6_second_67 : decode cX6_second 67 = .ok (.iload 5, 2) := by decide +kernel
theorem dX6_second_69 : decode cX6_second 69 = .ok (.iconst (-1), 1) := by decide +kernel
theorem dX6_second_70 : decode cX6_second 70 = .ok (.if_icmp .ne 7, 3) := by decide +kernel
theorem dX6_second_73 : decode cX6_second 73 = .ok (.ldc_w 269, 3) := by decide +kernel
theorem dX6_second_76 : decode cX6_second 76 = .ok (.ireturn, 1) := by decide +kernel
theorem dX6_second_77 : decode cX6_second 77 = .ok (.aload_n 0, 1) := by decide +kernel
theorem dX6_second_78 : decode cX6_second 78 = .ok (.getfield 86, 3) := by decide +kernel
theorem dX6_second_81 : decode cX6_second 81 = .ok (.iload 5, 2) := by decide +kernel
theorem dX6_second_83 : decode cX6_second 83 = .ok (.iconst 0, 1) := by decide +kernel
theorem dX6_second_84 : decode cX6_second 84 = .ok (.invokevirtual 270, 3) := by decide +kernel
theorem dX6_second_87 : decode cX6_second 87 = .ok (.aload_n 0, 1) := by decide +kernel
theorem dX6_second_88 : decode cX6_second 88 = .ok (.getfield 86, 3) := by decide +kernel
theorem dX6_second_91 : decode cX6_second 91 = .ok (.iload 5, 2) := by decide +kernel
theorem dX6_second_93 : decode cX6_second 93 = .ok (.invokevirtual 274, 3) := by decide +kernel
theorem dX6_second_96 : decode cX6_second 96 = .ok (.aload_n 0, 1) := by decide +kernel
theorem dX6_second_97 : decode cX6_second 97 = .ok (.getfield 86, 3) := by decide +kernel
theorem dX6_second_100 : decode cX6_second 100 = .ok (.iload 5, 2) := by decide +kernel
theorem dX6_second_102 : decode cX6_second 102 = .ok (.invokevirtual 277, 3) := by decide +kernel
theorem dX6_second_105 : decode cX6_second 105 = .ok (.ifCond .eq 34, 3) := by decide +kernel
theorem dX6_second_108 : decode cX6_second 108 = .ok (.iload_n 3, 1) := by decide +kernel
theorem dX6_second_109 : decode cX6_second 109 = .ok (.ifCond .ne 27, 3) := by decide +kernel
theorem dX6_second_112 : decode cX6_second 112 = .ok (.aload_n 0, 1) := by decide +kernel
theorem dX6_second_113 : decode cX6_second 113 = .ok (.getfield 86, 3) := by decide +kernel
theorem dX6_second_116 : decode cX6_second 116 = .ok (.iload 5, 2) := by decide +kernel
theorem dX6_second_118 : decode cX6_second 118 = .ok (.aload_n 0, 1) := by decide +kernel
theorem dX6_second_119 : decode cX6_second 119 = .ok (.getfield 52, 3) := by decide +kernel
theorem dX6_second_122 : decode cX6_second 122 = .ok (.iconst 0, 1) := by decide +kernel
theorem dX6_second_123 : decode cX6_second 123 = .ok (.invokevirtual 280, 3) := by decide +kernel
theorem dX6_second_126 : decode cX6_second 126 = .ok (.aload_n 0, 1) := by decide +kernel
theorem dX6_second_127 : decode cX6_second 127 = .ok (.getfield 86, 3) := by decide +kernel
theorem dX6_second_130 : decode cX6_second 130 = .ok (.iload 5, 2) := by decide +kernel
theorem dX6_second_132 : decode cX6_second 132 = .ok (.invokevirtual 202, 3) := by decide +kernel
theorem dX6_second_135 : decode cX6_second 135 = .ok (.ireturn, 1) := by decide +kernel
theorem dX6_second_136 : decode cX6_second 136 = .ok (.iinc 3 (-1), 3) := by decide +kernel
theorem dX6_second_139 : decode cX6_second 139 = .ok (.iinc 4 1, 3) := by decide +kernel
theorem dX6_second_142 : decode cX6_second 142 = .ok (.goto (-92), 3) := by decide +kernel
theorem dX6_second_145 : decode cX6_second 145 = .ok (.aload_n 0, 1) := by decide +kernel
theorem dX6_second_146 : decode cX6_second 146 = .ok (.getfield 86, 3) := by decide +kernel
theorem dX6_second_149 : decode cX6_second 149 = .ok (.invokevirtual 266, 3) := by decide +kernel
theorem dX6_second_152 : decode cX6_second 152 = .ok (.iconst (-1), 1) := by decide +kernel
theorem dX6_second_153 : decode cX6_second 153 = .ok (.if_icmp .ne 9, 3) := by decide +kernel
theorem dX6_second_156 : decode cX6_second 156 = .ok (.ldc_w 269, 3) := by decide +kernel
theorem dX6_second_159 : decode cX6_second 159 = .ok (.goto 6, 3) := by decide +kernel
theorem dX6_second_162 : decode cX6_second 162 = .ok (.ldc_w 284, 3) := by decide +kernel
theorem dX6_second_165 : decode cX6_second 165 = .ok (.ireturn, 1) := by decide +kernel
set_option maxRecDepth 20000 in
theorem ggX6_same_X6_isProblem : GoodIn wsX6_same wsX6_isProblem := goodIn_g _ [(13, 4), (12, 1), (17, 1), (250, 18)] rfl (by decide +kernel)
set_option maxRecDepth 20000 in
theorem gX6_same_X6_isProblem : GoodIn wsX6_same (wsV RX6 95 RX6 yX6_isProblem wsX6_isProblem) := goodIn_app (goodIn_of _ (by decide +kernel)) ggX6_same_X6_isProblem
set_option maxRecDepth 20000 in
theorem ggX6_same_X6_isWithin : GoodIn wsX6_same wsX6_isWithin := goodIn_g _ [(17, 1)] rfl (by decide +kernel)
set_option maxRecDepth 20000 in
theorem gX6_same_X6_isWithin : GoodIn wsX6_same (va_wsS RX6 99 yX6_isWithin wsX6_isWithin) := goodIn_app (goodIn_of _ (by decide +kernel)) ggX6_same_X6_isWithin
set_option maxRecDepth 20000 in
theorem ggX6_same_X4_become : GoodIn wsX6_same wsX4_become := goodIn_g _ [(22, 7), (268, 7)] rfl (by decide +kernel)
set_option maxRecDepth 20000 in
theorem gX6_same_X4_become : GoodIn wsX6_same (wsV RX6 161 RX4 yX4_become wsX4_become) := goodIn_app (goodIn_of _ (by decide +kernel)) ggX6_same_X4_become
set_option maxRecDepth 20000 in
theorem ggX6_same_X3_begin : GoodIn wsX6_same wsX3_begin := goodIn_g _ [(33, 10), (26, 3), (43, 116), (275, 6), (268, 7), (281, 35)] rfl (by decide +kernel)
set_option maxRecDepth 20000 in
theorem gX6_same_X3_begin : GoodIn wsX6_same (wsV RX6 174 RX3 yX3_begin wsX3_begin) := goodIn_app (goodIn_of _ (by decide +kernel)) ggX6_same_X3_begin
set_option maxRecDepth 20000 in
theorem ggX6_same_X3_takeTurn : GoodIn wsX6_same wsX3_takeTurn := goodIn_g _ [(162, 1), (34, 1), (36, 1), (38, 2), (163, 1), (40, 1), (37, 1), (164, 3), (21, 1), (167, 3), (23, 1), (170, 7), (32, 1), (177, 8), (46, 1), (185, 1), (50, 1), (152, 1), (156, 1), (149, 1), (186, 9), (157, 1), (51, 1), (151, 1), (195, 1), (53, 1), (158, 1), (48, 1), (196, 1), (54, 1), (49, 1), (197, 5), (56, 1), (26, 3), (202, 12), (57, 92), (150, 1), (153, 3), (55, 1), (214, 4), (35, 1), (218, 8), (52, 1), (226, 6), (275, 6), (268, 7), (281, 35)] rfl (by decide +kernel)
set_option maxRecDepth 20000 in
theorem gX6_same_X3_takeTurn : GoodIn wsX6_same (wsV RX6 178 RX3 yX3_takeTurn wsX3_takeTurn) := goodIn_app (goodIn_of _ (by decide +kernel)) ggX6_same_X3_takeTurn
set_option maxRecDepth 20000 in
theorem ggX6_same_X3_sumUp : GoodIn wsX6_same wsX3_sumUp := goodIn_g _ [(235, 1), (40, 1), (179, 1), (236, 2), (178, 1), (36, 1), (218, 3), (46, 1), (221, 1), (50, 1), (55, 1), (152, 1), (156, 1), (149, 1), (238, 4), (42, 1), (26, 3), (242, 1), (203, 3), (151, 1), (206, 8), (275, 22)] rfl (by decide +kernel)
set_option maxRecDepth 20000 in
theorem gX6_same_X3_sumUp : GoodIn wsX6_same (wsV RX6 286 RX3 yX3_sumUp wsX3_sumUp) := goodIn_app (goodIn_of _ (by decide +kernel)) ggX6_same_X3_sumUp
set_option maxRecDepth 20000 in
theorem ggX6_same_X6_isSameOutcome : GoodIn wsX6_same wsX6_isSameOutcome := goodIn_g _ [(246, 1), (7, 2), (250, 18)] rfl (by decide +kernel)
set_option maxRecDepth 20000 in
theorem gX6_same_X6_isSameOutcome : GoodIn wsX6_same (wsV RX6 290 RX6 yX6_isSameOutcome wsX6_isSameOutcome) := goodIn_app (goodIn_of _ (by decide +kernel)) ggX6_same_X6_isSameOutcome
set_option maxRecDepth 20000 in
theorem ggX6_same_X6_asNumber : GoodIn wsX6_same wsX6_asNumber := goodIn_g _ [(249, 1)] rfl (by decide +kernel)
set_option maxRecDepth 20000 in
theorem gX6_same_X6_asNumber : GoodIn wsX6_same (va_wsS RX6 242 yX6_asNumber wsX6_asNumber) := goodIn_app (goodIn_of _ (by decide +kernel)) ggX6_same_X6_asNumber
theorem dX6_same_0 : decode cX6_same 0 = .ok (.aload_n 0, 1) := by decide +kernel
theorem dX6_same_1 : decode cX6_same 1 = .ok (.iload_n 1, 1) := by decide +kernel
theorem dX6_same_2 : decode cX6_same 2 = .ok (.invokevirtual 95, 3) := by decide +kernel
theorem dX6_same_5 : decode cX6_same 5 = .ok (.ifCond .eq 12, 3) := by decide +kernel
theorem dX6_same_8 : decode cX6_same 8 = .ok (.iload_n 2, 1) := by decide +kernel
theorem dX6_same_9 : decode cX6_same 9 = .ok (.iconst 1, 1) := by decide +kernel
theorem dX6_same_10 : decode cX6_same 10 = .ok (.iconst 5, 1) := by decide +kernel
theorem dX6_same_11 : decode cX6_same 11 = .ok (.invokestatic 99, 3) := by decide +kernel
theorem dX6_same_14 : decode cX6_same 14 = .ok (.ifCond .ne 5, 3) := by decide +kernel
theorem dX6_same_17 : decode cX6_same 17 = .ok (.iconst (-1), 1) := by decide +kernel
theorem dX6_same_18 : decode cX6_same 18 = .ok (.ireturn, 1) := by decide +kernel
theorem dX6_same_19 : decode cX6_same 19 = .ok (.aload_n 0, 1) := by decide +kernel
theorem dX6_same_20 : decode cX6_same 20 = .ok (.getfield 29, 3) := by decide +kernel
theorem dX6_same_23 : decode cX6_same 23 = .ok (.bipush (-9), 2) := by decide +kernel
theorem dX6_same_25 : decode cX6_same 25 = .ok (.if_icmp .eq 6, 3) := by decide +kernel
theorem dX6_same_28 : decode cX6_same 28 = .ok (.bipush (-2), 2) := by decide +kernel
theorem dX6_same_30 : decode cX6_same 30 = .ok (.ireturn, 1) := by decide +kernel
theorem dX6_same_31 : decode cX6_same 31 = .ok (.iconst 0, 1) := by decide +kernel
theorem dX6_same_32 : decode cX6_same 32 = .ok (.istore_n 3, 1) := by decide +kernel
theorem dX6_same_33 : decode cX6_same 33 = .ok (.iload_n 3, 1) := by decide +kernel
theorem dX6_same_34 : decode cX6_same 34 = .ok (.iconst 2, 1) := by decide +kernel
theorem dX6_same_35 : decode cX6_same 35 = .ok (.if_icmp .ge 103, 3) := by decide +kernel
theorem dX6_same_38 : decode cX6_same 38 = .ok (.aload_n 0, 1) := by decide +kernel
theorem dX6_same_39 : decode cX6_same 39 = .ok (.getfield 55, 3) := by decide +kernel
theorem dX6_same_42 : decode cX6_same 42 = .ok (.iload_n 3, 1) := by decide +kernel
theorem dX6_same_43 : decode cX6_same 43 = .ok (.ifCond .ne 7, 3) := by decide +kernel
theorem dX6_same_46 : decode cX6_same 46 = .ok (.iconst 1, 1) := by decide +kernel
theorem dX6_same_47 : decode cX6_same 47 = .ok (.goto 4, 3) := by decide +kernel
theorem dX6_same_50 : decode cX6_same 50 = .ok (.iload_n 2, 1) := by decide +kernel
theorem dX6_same_51 : decode cX6_same 51 = .ok (.invokevirtual 161, 3) := by decide +kernel
theorem dX6_same_54 : decode cX6_same 54 = .ok (.aload_n 0, 1) := by decide +kernel
theorem dX6_same_55 : decode cX6_same 55 = .ok (.getfield 73, 3) := by decide +kernel
theorem dX6_same_58 : decode cX6_same 58 = .ok (.aload_n 0, 1) := by decide +kernel
theorem dX6_same_59 : decode cX6_same 59 = .ok (.getfield 11, 3) := by decide +kernel
theorem dX6_same_62 : decode cX6_same 62 = .ok (.iload_n 1, 1) := by decide +kernel
theorem dX6_same_63 : decode cX6_same 63 = .ok (.aaload, 1) := by decide +kernel
theorem dX6_same_64 : decode cX6_same 64 = .ok (.aload_n 0, 1) := by decide +kernel
theorem dX6_same_65 : decode cX6_same 65 = .ok (.getfield 55, 3) := by decide +kernel
theorem dX6_same_68 : decode cX6_same 68 = .ok (.aload_n 0, 1) := by decide +kernel
theorem dX6_same_69 : decode cX6_same 69 = .ok (.getfield 26, 3) := by decide +kernel
theorem dX6_same_72 : decode cX6_same 72 = .ok (.invokevirtual 174, 3) := by decide +kernel
theorem dX6_same_75 : decode cX6_same 75 = .ok (.istore 4, 2) := by decide +kernel
theorem dX6_same_77 : decode cX6_same 77 = .ok (.iconst 0, 1) := by decide +kernel
theorem dX6_same_78 : decode cX6_same 78 = .ok (.istore 5, 2) := by decide +kernel
theorem dX6_same_80 : decode cX6_same 80 = .ok (.iload 5, 2) := by decide +kernel
theorem dX6_same_82 : decode cX6_same 82 = .ok (.ldc_w 285, 3) := by decide +kernel
theorem dX6_same_85 : decode cX6_same 85 = .ok (.if_icmp .ge 23, 3) := by decide +kernel
theorem dX6_same_88 : decode cX6_same 88 = .ok (.iload 4, 2) := by decide +kernel
theorem dX6_same_90 : decode cX6_same 90 = .ok (.ifCond .ne 18, 3) := by decide +kernel
theorem dX6_same_93 : decode cX6_same 93 = .ok (.aload_n 0, 1) := by decide +kernel
theorem dX6_same_94 : decode cX6_same 94 = .ok (.getfield 73, 3) := by decide +kernel
theorem dX6_same_97 : decode cX6_same 97 = .ok (.invokevirtual 178, 3) := by decide +kernel
theorem dX6_same_100 : decode cX6_same 100 = .ok (.istore 4, 2) := by decide +kernel
theorem dX6_same_102 : decode cX6_same 102 = .ok (.iinc 5 1, 3) := by decide +kernel
theorem dX6_same_105 : decode cX6_same 105 = .ok (.goto (-25), 3) := by decide +kernel
theorem dX6_same_108 : decode cX6_same 108 = .ok (.aload_n 0, 1) := by decide +kernel
theorem dX6_same_109 : decode cX6_same 109 = .ok (.getfield 73, 3) := by decide +kernel
theorem dX6_same_112 : decode cX6_same 112 = .ok (.iload 4, 2) := by decide +kernel
theorem dX6_same_114 : decode cX6_same 114 = .ok (.iload_n 3, 1) := by decide +kernel
theorem dX6_same_115 : decode cX6_same 115 = .ok (.ifCond .ne 10, 3) := by decide +kernel
theorem dX6_same_118 : decode cX6_same 118 = .ok (.aload_n 0, 1) := by decide +kernel
theorem dX6_same_119 : decode cX6_same 119 = .ok (.getfield 58, 3) := by decide +kernel
theorem dX6_same_122 : decode cX6_same 122 = .ok (.goto 7, 3) := by decide +kernel
theorem dX6_same_125 : decode cX6_same 125 = .ok (.aload_n 0, 1) := by decide +kernel
theorem dX6_same_126 : decode cX6_same 126 = .ok (.getfield 61, 3) := by decide +kernel
theorem dX6_same_129 : decode cX6_same 129 = .ok (.invokevirtual 286, 3) := by decide +kernel
theorem dX6_same_132 : decode cX6_same 132 = .ok (.iinc 3 1, 3) := by decide +kernel
theorem dX6_same_135 : decode cX6_same 135 = .ok (.goto (-102), 3) := by decide +kernel
theorem dX6_same_138 : decode cX6_same 138 = .ok (.aload_n 0, 1) := by decide +kernel
theorem dX6_same_139 : decode cX6_same 139 = .ok (.invokevirtual 290, 3) := by decide +kernel
theorem dX6_same_142 : decode cX6_same 142 = .ok (.invokestatic 242, 3) := by decide +kernel
theorem dX6_same_145 : decode cX6_same 145 = .ok (.ireturn, 1) := by decide +kernel
set_option maxRecDepth 20000 in
theorem ggX6_about_X6_isProblem : GoodIn wsX6_about wsX6_isProblem := goodIn_g _ [(11, 4), (10, 1), (15, 1), (45, 18)] rfl (by decide +kernel)
set_option maxRecDepth 20000 in
theorem gX6_about_X6_isProblem : GoodIn wsX6_about (wsV RX6 95 RX6 yX6_isProblem wsX6_isProblem) := goodIn_app (goodIn_of _ (by decide +kernel)) ggX6_about_X6_isProblem
set_option maxRecDepth 20000 in
theorem ggX6_about_X6_isWithin : GoodIn wsX6_about wsX6_isWithin := goodIn_g _ [(15, 1)] rfl (by decide +kernel)
set_option maxRecDepth 20000 in
theorem gX6_about_X6_isWithin : GoodIn wsX6_about (va_wsS RX6 99 yX6_isWithin wsX6_isWithin) := goodIn_app (goodIn_of _ (by decide +kernel)) ggX6_about_X6_isWithin
set_option maxRecDepth 20000 in
theorem ggX6_about_X6_refuse : GoodIn wsX6_about wsX6_refuse := goodIn_g _ [(19, 3), (45, 18)] rfl (by decide +kernel)
set_option maxRecDepth 20000 in
theorem gX6_about_X6_refuse : GoodIn wsX6_about (wsV RX6 116 RX6 yX6_refuse wsX6_refuse) := goodIn_app (goodIn_of _ (by decide +kernel)) ggX6_about_X6_refuse
set_option maxRecDepth 20000 in
theorem ggX6_about_X6_grant : GoodIn wsX6_about wsX6_grant := goodIn_g _ [(25, 1), (20, 1), (45, 18)] rfl (by decide +kernel)
set_option maxRecDepth 20000 in
theorem gX6_about_X6_grant : GoodIn wsX6_about (wsV RX6 124 RX6 yX6_grant wsX6_grant) := goodIn_app (goodIn_of _ (by decide +kernel)) ggX6_about_X6_grant
set_option maxRecDepth 20000 in
theorem ggX6_about_X1_hasRule : GoodIn wsX6_about wsX1_hasRule := goodIn_g _ [(30, 2), (63, 9)] rfl (by decide +kernel)
set_option maxRecDepth 20000 in
theorem gX6_about_X1_hasRule : GoodIn wsX6_about (wsV RX6 136 RX1 yX1_hasRule wsX1_hasRule) := goodIn_app (goodIn_of _ (by decide +kernel)) ggX6_about_X1_hasRule
set_option maxRecDepth 20000 in
theorem ggX6_about_X2_tell : GoodIn wsX6_about wsX2_tell := goodIn_g _ [(36, 4), (72, 7)] rfl (by decide +kernel)
set_option maxRecDepth 20000 in
theorem gX6_about_X2_tell : GoodIn wsX6_about (wsV RX6 302 RX2 yX2_tell wsX2_tell) := goodIn_app (goodIn_of _ (by decide +kernel)) ggX6_about_X2_tell
set_option maxRecDepth 20000 in
theorem ggX6_about_X1_hasVariable : GoodIn wsX6_about wsX1_hasVariable := goodIn_g _ [(43, 2), (63, 9)] rfl (by decide +kernel)
set_option maxRecDepth 20000 in
theorem gX6_about_X1_hasVariable : GoodIn wsX6_about (wsV RX6 139 RX1 yX1_hasVariable wsX1_hasVariable) := goodIn_app (goodIn_of _ (by decide +kernel)) ggX6_about_X1_hasVariable
theorem dX6_about_0 : decode cX6_about 0 = .ok (.aload_n 0, 1) := by decide +kernel
theorem dX6_about_1 : decode cX6_about 1 = .ok (.iload_n 1, 1) := by decide +kernel
theorem dX6_about_2 : decode cX6_about 2 = .ok (.invokevirtual 95, 3) := by decide +kernel
theorem dX6_about_5 : decode cX6_about 5 = .ok (.ifCond .eq 13, 3) := by decide +kernel
theorem dX6_about_8 : decode cX6_about 8 = .ok (.iload_n 2, 1) := by decide +kernel
theorem dX6_about_9 : decode cX6_about 9 = .ok (.iconst 0, 1) := by decide +kernel
theorem dX6_about_10 : decode cX6_about 10 = .ok (.bipush 6, 2) := by decide +kernel
theorem dX6_about_12 : decode cX6_about 12 = .ok (.invokestatic 99, 3) := by decide +kernel
theorem dX6_about_15 : decode cX6_about 15 = .ok (.ifCond .ne 9, 3) := by decide +kernel
theorem dX6_about_18 : decode cX6_about 18 = .ok (.aload_n 0, 1) := by decide +kernel
theorem dX6_about_19 : decode cX6_about 19 = .ok (.iconst (-1), 1) := by decide +kernel
theorem dX6_about_20 : decode cX6_about 20 = .ok (.invokevirtual 116, 3) := by decide +kernel
theorem dX6_about_23 : decode cX6_about 23 = .ok (.ireturn, 1) := by decide +kernel
theorem dX6_about_24 : decode cX6_about 24 = .ok (.aload_n 0, 1) := by decide +kernel
theorem dX6_about_25 : decode cX6_about 25 = .ok (.getfield 11, 3) := by decide +kernel
theorem dX6_about_28 : decode cX6_about 28 = .ok (.iload_n 1, 1) := by decide +kernel
theorem dX6_about_29 : decode cX6_about 29 = .ok (.aaload, 1) := by decide +kernel
theorem dX6_about_30 : decode cX6_about 30 = .ok (.astore 4, 2) := by decide +kernel
theorem dX6_about_32 : decode cX6_about 32 = .ok (.iload_n 2, 1) := by decide +kernel
theorem dX6_about_33 : decode cX6_about 33 = .ok (.ifCond .ne 13, 3) := by decide +kernel
theorem dX6_about_36 : decode cX6_about 36 = .ok (.aload_n 0, 1) := by decide +kernel
theorem dX6_about_37 : decode cX6_about 37 = .ok (.aload 4, 2) := by decide +kernel
theorem dX6_about_39 : decode cX6_about 39 = .ok (.getfield 103, 3) := by decide +kernel
theorem dX6_about_42 : decode cX6_about 42 = .ok (.invokevirtual 124, 3) := by decide +kernel
theorem dX6_about_45 : decode cX6_about 45 = .ok (.ireturn, 1) := by decide +kernel
theorem dX6_about_46 : decode cX6_about 46 = .ok (.iload_n 2, 1) := by decide +kernel
theorem dX6_about_47 : decode cX6_about 47 = .ok (.iconst 1, 1) := by decide +kernel
theorem dX6_about_48 : decode cX6_about 48 = .ok (.if_icmp .ne 13, 3) := by decide +kernel
theorem dX6_about_51 : decode cX6_about 51 = .ok (.aload_n 0, 1) := by decide +kernel
theorem dX6_about_52 : decode cX6_about 52 = .ok (.aload 4, 2) := by decide +kernel
theorem dX6_about_54 : decode cX6_about 54 = .ok (.getfield 130, 3) := by decide +kernel
theorem dX6_about_57 : decode cX6_about 57 = .ok (.invokevirtual 124, 3) := by decide +kernel
theorem dX6_about_60 : decode cX6_about 60 = .ok (.ireturn, 1) := by decide +kernel
theorem dX6_about_61 : decode cX6_about 61 = .ok (.iload_n 2, 1) := by decide +kernel
theorem dX6_about_62 : decode cX6_about 62 = .ok (.iconst 4, 1) := by decide +kernel
theorem dX6_about_63 : decode cX6_about 63 = .ok (.if_icmp .gt 36, 3) := by decide +kernel
theorem dX6_about_66 : decode cX6_about 66 = .ok (.aload 4, 2) := by decide +kernel
theorem dX6_about_68 : decode cX6_about 68 = .ok (.iload_n 3, 1) := by decide +kernel
theorem dX6_about_69 : decode cX6_about 69 = .ok (.invokevirtual 136, 3) := by decide +kernel
theorem dX6_about_72 : decode cX6_about 72 = .ok (.ifCond .eq 21, 3) := by decide +kernel
theorem dX6_about_75 : decode cX6_about 75 = .ok (.aload_n 0, 1) := by decide +kernel
theorem dX6_about_76 : decode cX6_about 76 = .ok (.aload 4, 2) := by decide +kernel
theorem dX6_about_78 : decode cX6_about 78 = .ok (.getfield 142, 3) := by decide +kernel
theorem dX6_about_81 : decode cX6_about 81 = .ok (.iload_n 3, 1) := by decide +kernel
theorem dX6_about_82 : decode cX6_about 82 = .ok (.aaload, 1) := by decide +kernel
theorem dX6_about_83 : decode cX6_about 83 = .ok (.iload_n 2, 1) := by decide +kernel
theorem dX6_about_84 : decode cX6_about 84 = .ok (.invokevirtual 302, 3) := by decide +kernel
theorem dX6_about_87 : decode cX6_about 87 = .ok (.invokevirtual 124, 3) := by decide +kernel
theorem dX6_about_90 : decode cX6_about 90 = .ok (.goto 8, 3) := by decide +kernel
theorem dX6_about_93 : decode cX6_about 93 = .ok (.aload_n 0, 1) := by decide +kernel
theorem dX6_about_94 : decode cX6_about 94 = .ok (.iconst (-1), 1) := by decide +kernel
theorem dX6_about_95 : decode cX6_about 95 = .ok (.invokevirtual 116, 3) := by decide +kernel
theorem dX6_about_98 : decode cX6_about 98 = .ok (.ireturn, 1) := by decide +kernel
theorem dX6_about_99 : decode cX6_about 99 = .ok (.aload 4, 2) := by decide +kernel
theorem dX6_about_101 : decode cX6_about 101 = .ok (.iload_n 3, 1) := by decide +kernel
theorem dX6_about_102 : decode cX6_about 102 = .ok (.invokevirtual 139, 3) := by decide +kernel
theorem dX6_about_105 : decode cX6_about 105 = .ok (.ifCond .ne 9, 3) := by decide +kernel
theorem dX6_about_108 : decode cX6_about 108 = .ok (.aload_n 0, 1) := by decide +kernel
theorem dX6_about_109 : decode cX6_about 109 = .ok (.iconst (-1), 1) := by decide +kernel
theorem dX6_about_110 : decode cX6_about 110 = .ok (.invokevirtual 116, 3) := by decide +kernel
theorem dX6_about_113 : decode cX6_about 113 = .ok (.ireturn, 1) := by decide +kernel
theorem dX6_about_114 : decode cX6_about 114 = .ok (.aload_n 0, 1) := by decide +kernel
theorem dX6_about_115 : decode cX6_about 115 = .ok (.iload_n 2, 1) := by decide +kernel
theorem dX6_about_116 : decode cX6_about 116 = .ok (.iconst 5, 1) := by decide +kernel
theorem dX6_about_117 : decode cX6_about 117 = .ok (.if_icmp .ne 13, 3) := by decide +kernel
theorem dX6_about_120 : decode cX6_about 120 = .ok (.aload 4, 2) := by decide +kernel
theorem dX6_about_122 : decode cX6_about 122 = .ok (.getfield 235, 3) := by decide +kernel
theorem dX6_about_125 : decode cX6_about 125 = .ok (.iload_n 3, 1) := by decide +kernel
theorem dX6_about_126 : decode cX6_about 126 = .ok (.iaload, 1) := by decide +kernel
theorem dX6_about_127 : decode cX6_about 127 = .ok (.goto 10, 3) := by decide +kernel
theorem dX6_about_130 : decode cX6_about 130 = .ok (.aload 4, 2) := by decide +kernel
theorem dX6_about_132 : decode cX6_about 132 = .ok (.getfield 305, 3) := by decide +kernel
theorem dX6_about_135 : decode cX6_about 135 = .ok (.iload_n 3, 1) := by decide +kernel
theorem dX6_about_136 : decode cX6_about 136 = .ok (.iaload, 1) := by decide +kernel
theorem dX6_about_137 : decode cX6_about 137 = .ok (.invokevirtual 124, 3) := by decide +kernel
theorem dX6_about_140 : decode cX6_about 140 = .ok (.ireturn, 1) := by decide +kernel
set_option maxRecDepth 20000 in
theorem ggX6_costs_X6_isProblem : GoodIn wsX6_costs wsX6_isProblem := goodIn_g _ [(7, 4), (6, 1), (11, 1), (33, 18)] rfl (by decide +kernel)
set_option maxRecDepth 20000 in
theorem gX6_costs_X6_isProblem : GoodIn wsX6_costs (wsV RX6 95 RX6 yX6_isProblem wsX6_isProblem) := goodIn_app (goodIn_of _ (by decide +kernel)) ggX6_costs_X6_isProblem
set_option maxRecDepth 20000 in
theorem ggX6_costs_X1_hasValue : GoodIn wsX6_costs wsX1_hasValue := goodIn_g _ [(16, 5), (15, 1), (21, 2), (51, 9)] rfl (by decide +kernel)
set_option maxRecDepth 20000 in
theorem gX6_costs_X1_hasValue : GoodIn wsX6_costs (wsV RX6 110 RX1 yX1_hasValue wsX1_hasValue) := goodIn_app (goodIn_of _ (by decide +kernel)) ggX6_costs_X1_hasValue
set_option maxRecDepth 20000 in
theorem ggX6_costs_X6_refuse : GoodIn wsX6_costs wsX6_refuse := goodIn_g _ [(26, 3), (33, 18)] rfl (by decide +kernel)
set_option maxRecDepth 20000 in
theorem gX6_costs_X6_refuse : GoodIn wsX6_costs (wsV RX6 116 RX6 yX6_refuse wsX6_refuse) := goodIn_app (goodIn_of _ (by decide +kernel)) ggX6_costs_X6_refuse
set_option maxRecDepth 20000 in
theorem ggX6_costs_X6_grant : GoodIn wsX6_costs wsX6_grant := goodIn_g _ [(32, 1), (27, 1), (33, 18)] rfl (by decide +kernel)
set_option maxRecDepth 20000 in
theorem gX6_costs_X6_grant : GoodIn wsX6_costs (wsV RX6 124 RX6 yX6_grant wsX6_grant) := goodIn_app (goodIn_of _ (by decide +kernel)) ggX6_costs_X6_grant
theorem dX6_costs_0 : decode cX6_costs 0 = .ok (.aload_n 0, 1) := by decide +kernel
theorem dX6_costs_1 : decode cX6_costs 1 = .ok (.iload_n 1, 1) := by decide +kernel
theorem dX6_costs_2 : decode cX6_costs 2 = .ok (.invokevirtual 95, 3) := by decide +kernel
theorem dX6_costs_5 : decode cX6_costs 5 = .ok (.ifCond .eq 17, 3) := by decide +kernel
theorem dX6_costs_8 : decode cX6_costs 8 = .ok (.aload_n 0, 1) := by decide +kernel
theorem dX6_costs_9 : decode cX6_costs 9 = .ok (.getfield 11, 3) := by decide +kernel
theorem dX6_costs_12 : decode cX6_costs 12 = .ok (.iload_n 1, 1) := by decide +kernel
theorem dX6_costs_13 : decode cX6_costs 13 = .ok (.aaload, 1) := by decide +kernel
theorem dX6_costs_14 : decode cX6_costs 14 = .ok (.iload_n 2, 1) := by decide +kernel
theorem dX6_costs_15 : decode cX6_costs 15 = .ok (.iload_n 3, 1) := by decide +kernel
theorem dX6_costs_16 : decode cX6_costs 16 = .ok (.invokevirtual 110, 3) := by decide +kernel
theorem dX6_costs_19 : decode cX6_costs 19 = .ok (.ifCond .ne 9, 3) := by decide +kernel
theorem dX6_costs_22 : decode cX6_costs 22 = .ok (.aload_n 0, 1) := by decide +kernel
theorem dX6_costs_23 : decode cX6_costs 23 = .ok (.iconst (-1), 1) := by decide +kernel
theorem dX6_costs_24 : decode cX6_costs 24 = .ok (.invokevirtual 116, 3) := by decide +kernel
theorem dX6_costs_27 : decode cX6_costs 27 = .ok (.ireturn, 1) := by decide +kernel
theorem dX6_costs_28 : decode cX6_costs 28 = .ok (.aload_n 0, 1) := by decide +kernel
theorem dX6_costs_29 : decode cX6_costs 29 = .ok (.aload_n 0, 1) := by decide +kernel
theorem dX6_costs_30 : decode cX6_costs 30 = .ok (.getfield 11, 3) := by decide +kernel
theorem dX6_costs_33 : decode cX6_costs 33 = .ok (.iload_n 1, 1) := by decide +kernel
theorem dX6_costs_34 : decode cX6_costs 34 = .ok (.aaload, 1) := by decide +kernel
theorem dX6_costs_35 : decode cX6_costs 35 = .ok (.getfield 308, 3) := by decide +kernel
theorem dX6_costs_38 : decode cX6_costs 38 = .ok (.iload_n 2, 1) := by decide +kernel
theorem dX6_costs_39 : decode cX6_costs 39 = .ok (.aaload, 1) := by decide +kernel
theorem dX6_costs_40 : decode cX6_costs 40 = .ok (.iload_n 3, 1) := by decide +kernel
theorem dX6_costs_41 : decode cX6_costs 41 = .ok (.iaload, 1) := by decide +kernel
theorem dX6_costs_42 : decode cX6_costs 42 = .ok (.invokevirtual 124, 3) := by decide +kernel
theorem dX6_costs_45 : decode cX6_costs 45 = .ok (.ireturn, 1) := by decide +kernel
set_option maxRecDepth 20000 in
theorem ggX6_endSolving_X6_isProblem : GoodIn wsX6_endSolving wsX6_isProblem := goodIn_g _ [(12, 4), (11, 1), (16, 1), (59, 18)] rfl (by decide +kernel)
set_option maxRecDepth 20000 in
theorem gX6_endSolving_X6_isProblem : GoodIn wsX6_endSolving (wsV RX6 95 RX6 yX6_isProblem wsX6_isProblem) := goodIn_app (goodIn_of _ (by decide +kernel)) ggX6_endSolving_X6_isProblem
set_option maxRecDepth 20000 in
theorem ggX6_endSolving_X3_sumUp : GoodIn wsX6_endSolving wsX3_sumUp := goodIn_g _ [(21, 38), (86, 22)] rfl (by decide +kernel)
set_option maxRecDepth 20000 in
theorem gX6_endSolving_X3_sumUp : GoodIn wsX6_endSolving (wsV RX6 286 RX3 yX3_sumUp wsX3_sumUp) := goodIn_app (goodIn_of _ (by decide +kernel)) ggX6_endSolving_X3_sumUp
theorem dX6_endSolving_0 : decode cX6_endSolving 0 = .ok (.aload_n 0, 1) := by decide +kernel
theorem dX6_endSolving_1 : decode cX6_endSolving 1 = .ok (.aload_n 0, 1) := by decide +kernel
theorem dX6_endSolving_2 : decode cX6_endSolving 2 = .ok (.getfield 29, 3) := by decide +kernel
theorem dX6_endSolving_5 : decode cX6_endSolving 5 = .ok (.invokevirtual 95, 3) := by decide +kernel
theorem dX6_endSolving_8 : decode cX6_endSolving 8 = .ok (.ifCond .ne 4, 3) := by decide +kernel
theorem dX6_endSolving_11 : decode cX6_endSolving 11 = .ok (.return_, 1) := by decide +kernel
theorem dX6_endSolving_12 : decode cX6_endSolving 12 = .ok (.aload_n 0, 1) := by decide +kernel
theorem dX6_endSolving_13 : decode cX6_endSolving 13 = .ok (.getfield 11, 3) := by decide +kernel
theorem dX6_endSolving_16 : decode cX6_endSolving 16 = .ok (.aload_n 0, 1) := by decide +kernel
theorem dX6_endSolving_17 : decode cX6_endSolving 17 = .ok (.getfield 29, 3) := by decide +kernel
theorem dX6_endSolving_20 : decode cX6_endSolving 20 = .ok (.aaload, 1) := by decide +kernel
theorem dX6_endSolving_21 : decode cX6_endSolving 21 = .ok (.astore_n 2, 1) := by decide +kernel
theorem dX6_endSolving_22 : decode cX6_endSolving 22 = .ok (.aload_n 0, 1) := by decide +kernel
theorem dX6_endSolving_23 : decode cX6_endSolving 23 = .ok (.getfield 73, 3) := by decide +kernel
theorem dX6_endSolving_26 : decode cX6_endSolving 26 = .ok (.iload_n 1, 1) := by decide +kernel
theorem dX6_endSolving_27 : decode cX6_endSolving 27 = .ok (.aload_n 2, 1) := by decide +kernel
theorem dX6_endSolving_28 : decode cX6_endSolving 28 = .ok (.getfield 189, 3) := by decide +kernel
theorem dX6_endSolving_31 : decode cX6_endSolving 31 = .ok (.invokevirtual 286, 3) := by decide +kernel
theorem dX6_endSolving_34 : decode cX6_endSolving 34 = .ok (.aload_n 2, 1) := by decide +kernel
theorem dX6_endSolving_35 : decode cX6_endSolving 35 = .ok (.iconst 1, 1) := by decide +kernel
theorem dX6_endSolving_36 : decode cX6_endSolving 36 = .ok (.putfield 185, 3) := by decide +kernel
theorem dX6_endSolving_39 : decode cX6_endSolving 39 = .ok (.aload_n 0, 1) := by decide +kernel
theorem dX6_endSolving_40 : decode cX6_endSolving 40 = .ok (.getfield 82, 3) := by decide +kernel
theorem dX6_endSolving_43 : decode cX6_endSolving 43 = .ok (.astore_n 3, 1) := by decide +kernel
theorem dX6_endSolving_44 : decode cX6_endSolving 44 = .ok (.aload_n 0, 1) := by decide +kernel
theorem dX6_endSolving_45 : decode cX6_endSolving 45 = .ok (.aload_n 0, 1) := by decide +kernel
theorem dX6_endSolving_46 : decode cX6_endSolving 46 = .ok (.getfield 73, 3) := by decide +kernel
theorem dX6_endSolving_49 : decode cX6_endSolving 49 = .ok (.getfield 294, 3) := by decide +kernel
theorem dX6_endSolving_52 : decode cX6_endSolving 52 = .ok (.putfield 82, 3) := by decide +kernel
theorem dX6_endSolving_55 : decode cX6_endSolving 55 = .ok (.aload_n 0, 1) := by decide +kernel
theorem dX6_endSolving_56 : decode cX6_endSolving 56 = .ok (.getfield 73, 3) := by decide +kernel
theorem dX6_endSolving_59 : decode cX6_endSolving 59 = .ok (.aload_n 3, 1) := by decide +kernel
theorem dX6_endSolving_60 : decode cX6_endSolving 60 = .ok (.putfield 294, 3) := by decide +kernel
theorem dX6_endSolving_63 : decode cX6_endSolving 63 = .ok (.aload_n 0, 1) := by decide +kernel
theorem dX6_endSolving_64 : decode cX6_endSolving 64 = .ok (.bipush (-9), 2) := by decide +kernel
theorem dX6_endSolving_66 : decode cX6_endSolving 66 = .ok (.putfield 29, 3) := by decide +kernel
theorem dX6_endSolving_69 : decode cX6_endSolving 69 = .ok (.return_, 1) := by decide +kernel
theorem dX6_isSameOutcome_0 : decode cX6_isSameOutcome 0 = .ok (.iconst 1, 1) := by decide +kernel
theorem dX6_isSameOutcome_1 : decode cX6_isSameOutcome 1 = .ok (.istore_n 1, 1) := by decide +kernel
theorem dX6_isSameOutcome_2 : decode cX6_isSameOutcome 2 = .ok (.iconst 0, 1) := by decide +kernel
theorem dX6_isSameOutcome_3 : decode cX6_isSameOutcome 3 = .ok (.istore_n 2, 1) := by decide +kernel
theorem dX6_isSameOutcome_4 : decode cX6_isSameOutcome 4 = .ok (.iload_n 2, 1) := by decide +kernel
theorem dX6_isSameOutcome_5 : decode cX6_isSameOutcome 5 = .ok (.bipush 12, 2) := by decide +kernel
theorem dX6_isSameOutcome_7 : decode cX6_isSameOutcome 7 = .ok (.if_icmp .ge 54, 3) := by decide +kernel
theorem dX6_isSameOutcome_10 : decode cX6_isSameOutcome 10 = .ok (.iload_n 2, 1) := by decide +kernel
theorem dX6_isSameOutcome_11 : decode cX6_isSameOutcome 11 = .ok (.iconst 2, 1) := by decide +kernel
theorem dX6_isSameOutcome_12 : decode cX6_isSameOutcome 12 = .ok (.if_icmp .eq 8, 3) := by decide +kernel
theorem dX6_isSameOutcome_15 : decode cX6_isSameOutcome 15 = .ok (.iload_n 2, 1) := by decide +kernel
theorem dX6_isSameOutcome_16 : decode cX6_isSameOutcome 16 = .ok (.iconst 3, 1) := by decide +kernel
theorem dX6_isSameOutcome_17 : decode cX6_isSameOutcome 17 = .ok (.if_icmp .ne 7, 3) := by decide +kernel
theorem dX6_isSameOutcome_20 : decode cX6_isSameOutcome 20 = .ok (.iconst 1, 1) := by decide +kernel
theorem dX6_isSameOutcome_21 : decode cX6_isSameOutcome 21 = .ok (.goto 4, 3) := by decide +kernel
theorem dX6_isSameOutcome_24 : decode cX6_isSameOutcome 24 = .ok (.iconst 0, 1) := by decide +kernel
theorem dX6_isSameOutcome_25 : decode cX6_isSameOutcome 25 = .ok (.istore_n 3, 1) := by decide +kernel
theorem dX6_isSameOutcome_26 : decode cX6_isSameOutcome 26 = .ok (.iload_n 1, 1) := by decide +kernel
theorem dX6_isSameOutcome_27 : decode cX6_isSameOutcome 27 = .ok (.ifCond .eq 26, 3) := by decide +kernel
theorem dX6_isSameOutcome_30 : decode cX6_isSameOutcome 30 = .ok (.iload_n 3, 1) := by decide +kernel
theorem dX6_isSameOutcome_31 : decode cX6_isSameOutcome 31 = .ok (.ifCond .ne 18, 3) := by decide +kernel
theorem dX6_isSameOutcome_34 : decode cX6_isSameOutcome 34 = .ok (.aload_n 0, 1) := by decide +kernel
theorem dX6_isSameOutcome_35 : decode cX6_isSameOutcome 35 = .ok (.getfield 58, 3) := by decide +kernel
theorem dX6_isSameOutcome_38 : decode cX6_isSameOutcome 38 = .ok (.iload_n 2, 1) := by decide +kernel
theorem dX6_isSameOutcome_39 : decode cX6_isSameOutcome 39 = .ok (.iaload, 1) := by decide +kernel
theorem dX6_isSameOutcome_40 : decode cX6_isSameOutcome 40 = .ok (.aload_n 0, 1) := by decide +kernel
theorem dX6_isSameOutcome_41 : decode cX6_isSameOutcome 41 = .ok (.getfield 61, 3) := by decide +kernel
theorem dX6_isSameOutcome_44 : decode cX6_isSameOutcome 44 = .ok (.iload_n 2, 1) := by decide +kernel
theorem dX6_isSameOutcome_45 : decode cX6_isSameOutcome 45 = .ok (.iaload, 1) := by decide +kernel
theorem dX6_isSameOutcome_46 : decode cX6_isSameOutcome 46 = .ok (.if_icmp .ne 7, 3) := by decide +kernel
theorem dX6_isSameOutcome_49 : decode cX6_isSameOutcome 49 = .ok (.iconst 1, 1) := by decide +kernel
theorem dX6_isSameOutcome_50 : decode cX6_isSameOutcome 50 = .ok (.goto 4, 3) := by decide +kernel
theorem dX6_isSameOutcome_53 : decode cX6_isSameOutcome 53 = .ok (.iconst 0, 1) := by decide +kernel
theorem dX6_isSameOutcome_54 : decode cX6_isSameOutcome 54 = .ok (.istore_n 1, 1) := by decide +kernel
theorem dX6_isSameOutcome_55 : decode cX6_isSameOutcome 55 = .ok (.iinc 2 1, 3) := by decide +kernel
theorem dX6_isSameOutcome_58 : decode cX6_isSameOutcome 58 = .ok (.goto (-54), 3) := by decide +kernel
theorem dX6_isSameOutcome_61 : decode cX6_isSameOutcome 61 = .ok (.iload_n 1, 1) := by decide +kernel
theorem dX6_isSameOutcome_62 : decode cX6_isSameOutcome 62 = .ok (.ireturn, 1) := by decide +kernel

/-! part 44.dec -/
/-! THE METHODS AS FUNCTIONS (dec.py): small words. -/
/-- a thing gets a name -/
def bd {α β : Type} (t : α) (f : α → β) : β := f t
theorem bd_e {α β : Type} {t : α} {f : α → Option β} {x : β} (h : bd t f = some x) : ∃ z, z = t ∧ f z = some x := ⟨t, rfl, h⟩
theorem ip {β : Type} {c : Prop} {_ : Decidable c} {a b : Option β} {x : β} (hc : c) (h : (if c then a else b) = some x) : a = some x := by rwa [if_pos hc] at h
theorem iN {β : Type} {c : Prop} {_ : Decidable c} {a b : Option β} {x : β} (hc : ¬ c) (h : (if c then a else b) = some x) : b = some x := by rwa [if_neg hc] at h
/-- goes on only if c holds -/
def gd {β : Type} (c : Prop) [Decidable c] (a : Option β) : Option β := if c then a else none
theorem gk {β : Type} {c : Prop} {_ : Decidable c} {a : Option β} {x : β} (h : gd c a = some x) : c ∧ a = some x := by
  unfold gd at h
  by_cases hc : c
  · rw [if_pos hc] at h; exact ⟨hc, h⟩
  · rw [if_neg hc] at h; cases h
theorem gd_t {β : Type} {c : Prop} {_ : Decidable c} {a : Option β} (hc : c) : gd c a = a := if_pos hc
/-- an index in its range -/
abbrev inr (i : Int32) (n : Nat) : Prop := ¬ (i < 0 ∨ n ≤ i.toNatClampNeg)
theorem FU_x : ∃ n : Nat, 2000000 ≤ n := ⟨2000000, Nat.le_refl _⟩
/-- enough steps for every loop -/
noncomputable def FU : Nat := Classical.choose FU_x
theorem FU_le : 2000000 ≤ FU := Classical.choose_spec FU_x
theorem drf13 {j n : Nat} (h : kd j = 13) : rf j n = 58 + 52 * n := by simp [rf, h]
theorem drf14 {j n : Nat} (h : kd j = 14) : rf j n = j + 2 + 5 * n := by simp [rf, h]
theorem drf15 {j n : Nat} (h : kd j = 15) : rf j n = j + 1 + n := by simp [rf, h]
/-- the other side's slots stay -/
def pC (j : Nat) : Prop := 318 ≤ j
def pR (j : Nat) : Prop := j < 318
def Fc {α : Type} (P : Nat → Prop) (F0 F : Nat → Nat → α) : Prop := ∀ j, P j → F j = F0 j
theorem Fc_rf {α : Type} {P : Nat → Prop} {F : Nat → Nat → α} : Fc P F F := fun _ _ => rfl
theorem Fc_tr {α : Type} {P : Nat → Prop} {F0 F1 F2 : Nat → Nat → α} (h : Fc P F0 F1) (k : Fc P F1 F2) : Fc P F0 F2 := fun j hj => (k j hj).trans (h j hj)
theorem Fc_up {α : Type} {P : Nat → Prop} {F0 F : Nat → Nat → α} {s k : Nat} {v : α} (h : Fc P F0 F) (hs : ¬ P s) : Fc P F0 (up2 F s k v) := fun j hj => (up2_oth (i := j) (j := s) (fun e => hs (by rw [← e]; exact hj))).trans (h j hj)
theorem s318 {j : Nat} (h : j < 318) : j < NS := Nat.lt_trans h (by decide)
section DEC
variable {p : Program} {l : Launch} {e : Env} {R : Room} {s : State} {m : MethodId} {args : Array Value} {below : List Frame} {meth : Method} {c : Code} {H : Heap} {locs : List Loc} {cells slots : Nat} {Q : State → Prop}
variable {pc : Nat} {ls : Array Slot} {rest : List Value} {D : va_G} {K : Nat → ClassId} {ad : Nat → Nat} {M : Mem}
variable {y : MethodName} {bytes cc : ByteArray} {maxL nL n index fr lo : Nat} {ret : Option FieldType} {ws : List Cond} {Ts : List Cond} {own C : String} {As : List Value} {j : Nat}
theorem W_top {x z : Int32} (h : x = z) (k : W p l e R s m args below meth c H locs cells slots Q (F0 m pc ls (.int z :: rest))) : W p l e R s m args below meth c H locs cells slots Q (F0 m pc ls (.int x :: rest)) := by rw [h]; exact k
theorem vlenZ {cc : ByteArray} {I : Nat → Nat → Int32} {G : Nat → Nat → Nat} {A : Nat → Nat → Int32} {L : Nat → Nat → Int64} (hx : p.tables.exec = Jvm.exec) (hb : c.code = cc) (hK : va_K D vwCl (tyA K) s) (hP : va_P D vwCl (VW K ad I G A L) H) (j : Nat) (hj : j < NS) (hd : kd j = 11) (hdg : decode cc pc = .ok (.arraylength, 1)) (kk : W p l e R s m args below meth c H locs cells slots Q (F0 m (pc + 1) ls (.int (nI (ln j)) :: rest))) : W p l e R s m args below meth c H locs cells slots Q (F0 m pc ls (.ref (ad j) :: rest)) :=
  va_alen hx hb hK hP j 3 (VW11 hj hd) rfl rfl hdg kk
theorem ecV {r0 : Int32} {u0 : Mem} (S : CallFix p m c cc nL s args Ts own) (hM : Ci l D K ad y ws fr lo (.ref (ad j) :: As) M (fun r u => r = r0 ∧ u = u0)) (cw : CallW R s args own C index y bytes maxL ret ws ({ frames := fr, cells := 0, slots := 0, locals := lo }) 0 0 n) (hK : va_K D vwCl (tyA K) s) (hP : va_P D vwCl (VM K ad M) H) (hS : va_S (vF ad s.heap.size) s.heap H locs) {ci : Nat} {cq : vw_C} (hj : j < NS) (hd : kd j = ci) (hci : ci < 8) (hc : vwCl[ci]? = some cq) (hC : cq.1 = C)
    (hn : As.length = n) (hl : ls.size = nL) (hroom : (rest.map fun v => v.category).sum ≤ 8) (hcl : cells ≤ R.cells) (hsl : slots ≤ R.slots) (hdg : decode cc pc = .ok (.invokevirtual index, 3))
    (kk : ∀ (H1 : Heap) (locs1 : List Loc), va_P D vwCl (VM K ad u0) H1 → va_S (vF ad s.heap.size) s.heap H1 locs1 → W p l e R s m args below meth c H1 locs1 cells slots Q (F0 m (pc + 3) ls (.int r0 :: rest))) {st : List Value} (hst : st = As.reverse ++ .ref (ad j) :: rest) : W p l e R s m args below meth c H locs cells slots Q (F0 m pc ls st) :=
  vcV S hM cw hK hP hS hj hd hci hc hC hn hl hroom hcl hsl hdg (fun r u H1 locs1 hw hP1 hS1 => by obtain ⟨h1, h2⟩ := hw; subst h1; subst h2; exact kk H1 locs1 hP1 hS1) hst
theorem ecVv {u0 : Mem} (S : CallFix p m c cc nL s args Ts own) (hM : Cv l D K ad y ws fr lo (.ref (ad j) :: As) M (fun u => u = u0)) (cw : CallW R s args own C index y bytes maxL ret ws ({ frames := fr, cells := 0, slots := 0, locals := lo }) 0 0 n) (hK : va_K D vwCl (tyA K) s) (hP : va_P D vwCl (VM K ad M) H) (hS : va_S (vF ad s.heap.size) s.heap H locs) {ci : Nat} {cq : vw_C} (hj : j < NS) (hd : kd j = ci) (hci : ci < 8) (hc : vwCl[ci]? = some cq) (hC : cq.1 = C)
    (hn : As.length = n) (hl : ls.size = nL) (hroom : (rest.map fun v => v.category).sum ≤ 8) (hcl : cells ≤ R.cells) (hsl : slots ≤ R.slots) (hdg : decode cc pc = .ok (.invokevirtual index, 3))
    (kk : ∀ (H1 : Heap) (locs1 : List Loc), va_P D vwCl (VM K ad u0) H1 → va_S (vF ad s.heap.size) s.heap H1 locs1 → W p l e R s m args below meth c H1 locs1 cells slots Q (F0 m (pc + 3) ls rest)) {st : List Value} (hst : st = As.reverse ++ .ref (ad j) :: rest) : W p l e R s m args below meth c H locs cells slots Q (F0 m pc ls st) :=
  vcVv S hM cw hK hP hS hj hd hci hc hC hn hl hroom hcl hsl hdg (fun u H1 locs1 hw hP1 hS1 => by subst hw; exact kk H1 locs1 hP1 hS1) hst
theorem ecS {r0 : Int32} {u0 : Mem} (S : CallFix p m c cc nL s args Ts own) (hM : Ci l D K ad y ws fr lo As M (fun r u => r = r0 ∧ u = u0)) (cw : CallB R s args own index y bytes maxL ret ws ({ frames := fr, cells := 0, slots := 0, locals := lo }) 0 0 n ∧ (Cond.static y).before args s = true) (hK : va_K D vwCl (tyA K) s) (hP : va_P D vwCl (VM K ad M) H) (hS : va_S (vF ad s.heap.size) s.heap H locs)
    (hn : As.length = n) (hl : ls.size = nL) (hroom : (rest.map fun v => v.category).sum ≤ 8) (hcl : cells ≤ R.cells) (hsl : slots ≤ R.slots) (hdg : decode cc pc = .ok (.invokestatic index, 3))
    (kk : ∀ (H1 : Heap) (locs1 : List Loc), va_P D vwCl (VM K ad u0) H1 → va_S (vF ad s.heap.size) s.heap H1 locs1 → W p l e R s m args below meth c H1 locs1 cells slots Q (F0 m (pc + 3) ls (.int r0 :: rest))) {st : List Value} (hst : st = As.reverse ++ rest) : W p l e R s m args below meth c H locs cells slots Q (F0 m pc ls st) :=
  vcS S hM cw hK hP hS hn hl hroom hcl hsl hdg (fun r u H1 locs1 hw hP1 hS1 => by obtain ⟨h1, h2⟩ := hw; subst h1; subst h2; exact kk H1 locs1 hP1 hS1) hst
theorem ecSv {u0 : Mem} (S : CallFix p m c cc nL s args Ts own) (hM : Cv l D K ad y ws fr lo As M (fun u => u = u0)) (cw : CallB R s args own index y bytes maxL ret ws ({ frames := fr, cells := 0, slots := 0, locals := lo }) 0 0 n ∧ (Cond.static y).before args s = true) (hK : va_K D vwCl (tyA K) s) (hP : va_P D vwCl (VM K ad M) H) (hS : va_S (vF ad s.heap.size) s.heap H locs)
    (hn : As.length = n) (hl : ls.size = nL) (hroom : (rest.map fun v => v.category).sum ≤ 8) (hcl : cells ≤ R.cells) (hsl : slots ≤ R.slots) (hdg : decode cc pc = .ok (.invokestatic index, 3))
    (kk : ∀ (H1 : Heap) (locs1 : List Loc), va_P D vwCl (VM K ad u0) H1 → va_S (vF ad s.heap.size) s.heap H1 locs1 → W p l e R s m args below meth c H1 locs1 cells slots Q (F0 m (pc + 3) ls rest)) {st : List Value} (hst : st = As.reverse ++ rest) : W p l e R s m args below meth c H locs cells slots Q (F0 m pc ls st) :=
  vcSv S hM cw hK hP hS hn hl hroom hcl hsl hdg (fun u H1 locs1 hw hP1 hS1 => by subst hw; exact kk H1 locs1 hP1 hS1) hst
end DEC
theorem sw_6 (x : Int32) : x = 0 ∨ x = 1 ∨ x = 2 ∨ x = 3 ∨ x = 4 ∨ x = 5 ∨ x = 6 ∨ (x.toInt < 0 ∨ 6 < x.toInt) := by
  rcases sw_k x 0 with h | h0
  · exact Or.inl h
  rcases sw_k x 1 with h | h1
  · exact Or.inr (Or.inl h)
  rcases sw_k x 2 with h | h2
  · exact Or.inr (Or.inr (Or.inl h))
  rcases sw_k x 3 with h | h3
  · exact Or.inr (Or.inr (Or.inr (Or.inl h)))
  rcases sw_k x 4 with h | h4
  · exact Or.inr (Or.inr (Or.inr (Or.inr (Or.inl h))))
  rcases sw_k x 5 with h | h5
  · exact Or.inr (Or.inr (Or.inr (Or.inr (Or.inr (Or.inl h)))))
  rcases sw_k x 6 with h | h6
  · exact Or.inr (Or.inr (Or.inr (Or.inr (Or.inr (Or.inr (Or.inl h))))))
  have e0 : (0 : Int32).toInt = 0 := by decide
  have e1 : (1 : Int32).toInt = 1 := by decide
  have e2 : (2 : Int32).toInt = 2 := by decide
  have e3 : (3 : Int32).toInt = 3 := by decide
  have e4 : (4 : Int32).toInt = 4 := by decide
  have e5 : (5 : Int32).toInt = 5 := by decide
  have e6 : (6 : Int32).toInt = 6 := by decide
  refine Or.inr (Or.inr (Or.inr (Or.inr (Or.inr (Or.inr (Or.inr (?_)))))))
  omega
theorem sw_9 (x : Int32) : x = 0 ∨ x = 1 ∨ x = 2 ∨ x = 3 ∨ x = 4 ∨ x = 5 ∨ x = 6 ∨ x = 7 ∨ x = 8 ∨ x = 9 ∨ (x.toInt < 0 ∨ 9 < x.toInt) := by
  rcases sw_k x 0 with h | h0
  · exact Or.inl h
  rcases sw_k x 1 with h | h1
  · exact Or.inr (Or.inl h)
  rcases sw_k x 2 with h | h2
  · exact Or.inr (Or.inr (Or.inl h))
  rcases sw_k x 3 with h | h3
  · exact Or.inr (Or.inr (Or.inr (Or.inl h)))
  rcases sw_k x 4 with h | h4
  · exact Or.inr (Or.inr (Or.inr (Or.inr (Or.inl h))))
  rcases sw_k x 5 with h | h5
  · exact Or.inr (Or.inr (Or.inr (Or.inr (Or.inr (Or.inl h)))))
  rcases sw_k x 6 with h | h6
  · exact Or.inr (Or.inr (Or.inr (Or.inr (Or.inr (Or.inr (Or.inl h))))))
  rcases sw_k x 7 with h | h7
  · exact Or.inr (Or.inr (Or.inr (Or.inr (Or.inr (Or.inr (Or.inr (Or.inl h)))))))
  rcases sw_k x 8 with h | h8
  · exact Or.inr (Or.inr (Or.inr (Or.inr (Or.inr (Or.inr (Or.inr (Or.inr (Or.inl h))))))))
  rcases sw_k x 9 with h | h9
  · exact Or.inr (Or.inr (Or.inr (Or.inr (Or.inr (Or.inr (Or.inr (Or.inr (Or.inr (Or.inl h)))))))))
  have e0 : (0 : Int32).toInt = 0 := by decide
  have e1 : (1 : Int32).toInt = 1 := by decide
  have e2 : (2 : Int32).toInt = 2 := by decide
  have e3 : (3 : Int32).toInt = 3 := by decide
  have e4 : (4 : Int32).toInt = 4 := by decide
  have e5 : (5 : Int32).toInt = 5 := by decide
  have e6 : (6 : Int32).toInt = 6 := by decide
  have e7 : (7 : Int32).toInt = 7 := by decide
  have e8 : (8 : Int32).toInt = 8 := by decide
  have e9 : (9 : Int32).toInt = 9 := by decide
  refine Or.inr (Or.inr (Or.inr (Or.inr (Or.inr (Or.inr (Or.inr (Or.inr (Or.inr (Or.inr (?_))))))))))
  omega

/-! part 45.fns -/

noncomputable def f_X7_in (a0 : Int32) (a1 : Int32) (a2 : Int32) : Option (Int32) := if a0 < a1 then (some (0 : Int32)) else (if a2 < a0 then (some (0 : Int32)) else (some (1 : Int32)))
noncomputable def f_X7_isProblem (I : Nat → Nat → Int32) (a1 : Int32) : Option (Int32) := Option.bind (f_X7_in a1 0 ((I 318 2) - 1)) fun r1 => gd (r1 = 0 ∨ r1 = 1) <| some r1
noncomputable def f_X7_isRule (I : Nat → Nat → Int32) (A : Nat → Nat → Int32) (a1 : Int32) (a2 : Int32) : Option (Int32) := Option.bind (f_X7_isProblem I a1) fun r1 => if r1 = 0 then (some (0 : Int32)) else (gd (inr a1 5) <| Option.bind (f_X7_in a2 0 ((A 320 a1.toNatClampNeg) - 1)) fun r5 => if r5 = 0 then (some (0 : Int32)) else (some (1 : Int32)))
noncomputable def f_X7_no (I : Nat → Nat → Int32) (a1 : Int32) : Option (Int32 × (Nat → Nat → Int32)) := bd (up2 I 318 1 a1) fun I1 => some (((-1000000) : Int32), I1)
noncomputable def f_X7_about (I : Nat → Nat → Int32) (A : Nat → Nat → Int32) (a1 : Int32) (a2 : Int32) (a3 : Int32) : Option (Int32 × (Nat → Nat → Int32)) := bd (up2 I 318 0 0) fun I1 => bd (up2 I1 318 1 0) fun I2 => Option.bind (f_X7_isProblem I2 a1) fun r3 => if r3 = 0 then (Option.bind (f_X7_no I2 (-1)) fun (r6, I7) => some (r6, I7)) else (Option.bind (f_X7_in a2 0 6) fun r9 => if r9 = 0 then (Option.bind (f_X7_no I2 (-1)) fun (r38, I39) => some (r38, I39)) else (if a2 = 0 then (gd (inr a1 5) <| some ((A 319 a1.toNatClampNeg), I2)) else (if a2 = 1 then (gd (inr a1 5) <| some ((A 320 a1.toNatClampNeg), I2)) else (if a2 < 5 then (Option.bind (f_X7_isRule I2 A a1 a3) fun r25 => if r25 = 0 then (Option.bind (f_X7_no I2 (-1)) fun (r33, I34) => some (r33, I34)) else (if a2 = 2 then (gd (inr ((8 * a1) + a3) 40) <| some ((A 324 (((8 * a1) + a3).toNatClampNeg)), I2)) else (if a2 = 3 then (gd (inr ((8 * a1) + a3) 40) <| some ((A 325 (((8 * a1) + a3).toNatClampNeg)), I2)) else (gd (inr ((8 * a1) + a3) 40) <| some ((A 326 (((8 * a1) + a3).toNatClampNeg)), I2))))) else (gd (inr a1 5) <| Option.bind (f_X7_in a3 0 ((A 319 a1.toNatClampNeg) - 1)) fun r16 => if r16 = 0 then (Option.bind (f_X7_no I2 (-1)) fun (r22, I23) => some (r22, I23)) else (if a2 = 5 then (gd (inr ((6 * a1) + a3) 30) <| some ((A 321 (((6 * a1) + a3).toNatClampNeg)), I2)) else (gd (inr ((6 * a1) + a3) 30) <| some ((A 322 (((6 * a1) + a3).toNatClampNeg)), I2))))))))
noncomputable def f_X7_addNode_L74 (a1 : Int32) (I1 : Nat → Nat → Int32) (k15 : (Int32) → (Int32) → (Nat → Nat → Int32) → Option ((Nat → Nat → Int32) × (Nat → Nat → Int32))) : Nat → (Int32) → (Int32) → (Int32) → (Nat → Nat → Int32) → Option ((Nat → Nat → Int32) × (Nat → Nat → Int32))
  | 0, _, _, _, _ => none
  | n + 1, v11, v12, v13, A14 => if v11 < 6 then (bd (fun (z23 : Int32) => gd (inr ((6 * v13) + v11) 12000) <| bd (up2 A14 339 (((6 * v13) + v11).toNatClampNeg) z23) fun A26 => if v11 < a1 then (gd (inr v11 6) <| f_X7_addNode_L74 a1 I1 k15 n (v11 + 1) ((7 * v12) + ((A26 364 v11.toNatClampNeg) + 1)) v13 A26) else (f_X7_addNode_L74 a1 I1 k15 n (v11 + 1) ((7 * v12) + 0) v13 A26)) fun j24 => if v11 < a1 then (gd (inr v11 6) <| j24 (A14 364 v11.toNatClampNeg)) else (j24 (-9))) else (k15 v13 v12 A14)
noncomputable def f_X7_addNode (I : Nat → Nat → Int32) (A : Nat → Nat → Int32) (a1 : Int32) (a2 : Int32) : Option ((Nat → Nat → Int32) × (Nat → Nat → Int32)) := bd (up2 I 318 29 ((I 318 29) + 1)) fun I1 => gd (inr (I 318 29) 2000) <| bd (up2 A 338 ((I 318 29).toNatClampNeg) a1) fun A3 => bd (up2 A3 342 ((I 318 29).toNatClampNeg) a2) fun A4 => bd (up2 A4 341 ((I 318 29).toNatClampNeg) ((I1 318 65))) fun A5 => bd (up2 A5 343 ((I 318 29).toNatClampNeg) ((-9))) fun A6 => bd (up2 A6 344 ((I 318 29).toNatClampNeg) (vp_nar .boolean 0)) fun A7 => bd (up2 A7 345 ((I 318 29).toNatClampNeg) (vp_nar .boolean 0)) fun A8 => bd (up2 A8 349 ((I 318 29).toNatClampNeg) 0) fun A9 => bd (fun (v16 : Int32) (v17 : Int32) (A18 : Nat → Nat → Int32) => gd (inr v16 2000) <| bd (up2 A18 340 v16.toNatClampNeg v17) fun A20 => some (I1, A20)) fun k15 => f_X7_addNode_L74 a1 I1 k15 FU 0 0 (I 318 29) A9
noncomputable def f_X7_answer (I : Nat → Nat → Int32) (A : Nat → Nat → Int32) (a1 : Int32) (a2 : Int32) : Option (Int32 × (Nat → Nat → Int32)) := bd (up2 I 318 0 0) fun I1 => Option.bind (f_X7_isProblem I1 a1) fun r2 => if r2 = 0 then (some (((-1) : Int32), I1)) else (gd (inr a1 5) <| Option.bind (f_X7_in a2 0 ((A 319 a1.toNatClampNeg) - 1)) fun r6 => if r6 = 0 then (some (((-1) : Int32), I1)) else (if (A 352 a1.toNatClampNeg) = 0 then (some (((-9) : Int32), I1)) else (gd (inr ((6 * a1) + a2) 30) <| some ((A 353 (((6 * a1) + a2).toNatClampNeg)), I1))))
noncomputable def f_X7_costAt (A : Nat → Nat → Int32) (a1 : Int32) (a2 : Int32) (a3 : Int32) : Option (Int32) := gd (inr (((36 * a1) + (6 * a2)) + a3) 180) <| some (A 323 ((((36 * a1) + (6 * a2)) + a3).toNatClampNeg))
noncomputable def f_X7_partAt_L11 (a3 : Int32) (A : Nat → Nat → Int32) (k4 : (Int32) → Option (Int32)) (k6 : Unit → Option (Int32)) : Nat → (Int32) → (Int32) → Option (Int32)
  | 0, _, _ => none
  | n + 1, v2, v3 => gd (inr v3 40) <| if v2 < (A 326 v3.toNatClampNeg) then (gd (inr ((6 * v3) + v2) 240) <| if (A 327 (((6 * v3) + v2).toNatClampNeg)) = a3 then (k4 v2) else (f_X7_partAt_L11 a3 A k4 k6 n (v2 + 1) v3)) else (k6 ())
noncomputable def f_X7_partAt (A : Nat → Nat → Int32) (a1 : Int32) (a2 : Int32) (a3 : Int32) : Option (Int32) := bd (fun (v5 : Int32) => some v5) fun k4 => bd (fun (_ : Unit) => some ((-9) : Int32)) fun k6 => f_X7_partAt_L11 a3 A k4 k6 FU 0 ((8 * a1) + a2)
noncomputable def f_X7_areLike_L76 (a1 : Int32) (a2 : Int32) (a3 : Int32) (A : Nat → Nat → Int32) (k10 : Unit → Option (Int32)) (k11 : Unit → Option (Int32)) : Nat → (Int32) → Option (Int32)
  | 0, _ => none
  | n + 1, v9 => gd (inr a1 5) <| if v9 < (A 320 a1.toNatClampNeg) then (Option.bind (f_X7_partAt A a1 v9 a2) fun r14 => Option.bind (f_X7_partAt A a1 v9 a3) fun r16 => bd (fun (z19 : Int32) => if r14 = (-9) then (if z19 = 0 then (k10 ()) else (f_X7_areLike_L76 a1 a2 a3 A k10 k11 n (v9 + 1))) else (if r16 = (-9) then (if z19 = 0 then (k10 ()) else (f_X7_areLike_L76 a1 a2 a3 A k10 k11 n (v9 + 1))) else (gd (inr ((8 * a1) + v9) 40) <| if (A 324 (((8 * a1) + v9).toNatClampNeg)) = 6 then (if z19 = 0 then (k10 ()) else (f_X7_areLike_L76 a1 a2 a3 A k10 k11 n (v9 + 1))) else (gd (inr ((6 * ((8 * a1) + v9)) + r14) 240) <| gd (inr ((6 * ((8 * a1) + v9)) + r16) 240) <| if (A 328 (((6 * ((8 * a1) + v9)) + r14).toNatClampNeg)) = (A 328 (((6 * ((8 * a1) + v9)) + r16).toNatClampNeg)) then (if z19 = 0 then (f_X7_areLike_L76 a1 a2 a3 A k10 k11 n (v9 + 1)) else (f_X7_areLike_L76 a1 a2 a3 A k10 k11 n (v9 + 1))) else (if z19 = 0 then (k10 ()) else (f_X7_areLike_L76 a1 a2 a3 A k10 k11 n (v9 + 1))))))) fun j20 => if r14 = (-9) then (if r16 = (-9) then (j20 1) else (j20 0)) else (j20 0)) else (k11 ())
noncomputable def f_X7_areLike_L30 (a1 : Int32) (a2 : Int32) (a3 : Int32) (A : Nat → Nat → Int32) (k6 : Unit → Option (Int32)) (k7 : Unit → Option (Int32)) : Nat → (Int32) → Option (Int32)
  | 0, _ => none
  | n + 1, v5 => if v5 < (A 321 (((6 * a1) + a2).toNatClampNeg)) then (Option.bind (f_X7_costAt A a1 a2 v5) fun r41 => Option.bind (f_X7_costAt A a1 a3 v5) fun r43 => if r41 = r43 then (f_X7_areLike_L30 a1 a2 a3 A k6 k7 n (v5 + 1)) else (k6 ())) else (k7 ())
noncomputable def f_X7_areLike (A : Nat → Nat → Int32) (a1 : Int32) (a2 : Int32) (a3 : Int32) : Option (Int32) := gd (inr ((6 * a1) + a2) 30) <| gd (inr ((6 * a1) + a3) 30) <| if (A 321 (((6 * a1) + a2).toNatClampNeg)) = (A 321 (((6 * a1) + a3).toNatClampNeg)) then (bd (fun (_ : Unit) => some (0 : Int32)) fun k6 => bd (fun (_ : Unit) => bd (fun (_ : Unit) => some (0 : Int32)) fun k10 => bd (fun (_ : Unit) => some (1 : Int32)) fun k11 => f_X7_areLike_L76 a1 a2 a3 A k10 k11 FU 0) fun k7 => f_X7_areLike_L30 a1 a2 a3 A k6 k7 FU 0) else (some (0 : Int32))
noncomputable def f_X7_swap_L2 (s0 : Nat) (s1 : Nat) (k4 : (Nat → Nat → Int32) → Option ((Nat → Nat → Int32))) : Nat → (Int32) → (Nat → Nat → Int32) → Option ((Nat → Nat → Int32))
  | 0, _, _ => none
  | n + 1, v2, A3 => gd ((s0 < NS ∧ 318 ≤ s0) ∧ kd s0 = 8) <| if v2 < (nI (ln s0)) then (gd (inr v2 (ln s0)) <| gd ((s1 < NS ∧ 318 ≤ s1) ∧ kd s1 = 8) <| gd (inr v2 (ln s1)) <| bd (up2 A3 s0 v2.toNatClampNeg ((A3 s1 v2.toNatClampNeg))) fun A11 => bd (up2 A11 s1 v2.toNatClampNeg ((A3 s0 v2.toNatClampNeg))) fun A12 => f_X7_swap_L2 s0 s1 k4 n (v2 + 1) A12) else (k4 A3)
noncomputable def f_X7_swap (A : Nat → Nat → Int32) (s0 : Nat) (s1 : Nat) : Option ((Nat → Nat → Int32)) := bd (fun (A5 : Nat → Nat → Int32) => some A5) fun k4 => f_X7_swap_L2 s0 s1 k4 FU 0 A
noncomputable def f_X7_turnRound_L2 (s0 : Nat) (s1 : Nat) (k4 : (Nat → Nat → Int32) → Option ((Nat → Nat → Int32))) : Nat → (Int32) → (Nat → Nat → Int32) → Option ((Nat → Nat → Int32))
  | 0, _, _ => none
  | n + 1, v2, A3 => gd ((s0 < NS ∧ 318 ≤ s0) ∧ kd s0 = 11) <| if v2 < (nI (ln s0)) then (gd (inr v2 (ln s0)) <| gd ((s1 < NS ∧ 318 ≤ s1) ∧ kd s1 = 11) <| gd (inr v2 (ln s1)) <| bd (up2 A3 s0 v2.toNatClampNeg (vp_nar .boolean (A3 s1 v2.toNatClampNeg))) fun A11 => bd (up2 A11 s1 v2.toNatClampNeg (vp_nar .boolean (A3 s0 v2.toNatClampNeg))) fun A12 => f_X7_turnRound_L2 s0 s1 k4 n (v2 + 1) A12) else (k4 A3)
noncomputable def f_X7_turnRound (A : Nat → Nat → Int32) (s0 : Nat) (s1 : Nat) : Option ((Nat → Nat → Int32)) := bd (fun (A5 : Nat → Nat → Int32) => some A5) fun k4 => f_X7_turnRound_L2 s0 s1 k4 FU 0 A
noncomputable def f_X7_aside (I : Nat → Nat → Int32) (A : Nat → Nat → Int32) : Option ((Nat → Nat → Int32) × (Nat → Nat → Int32)) := bd (up2 I 318 29 (A 365 0)) fun I1 => bd (up2 I1 318 30 (A 365 1)) fun I2 => bd (up2 I2 318 31 (A 365 2)) fun I3 => bd (up2 A 365 0 ((I 318 29))) fun A4 => bd (up2 A4 365 1 ((I 318 30))) fun A5 => bd (up2 A5 365 2 ((I 318 31))) fun A6 => Option.bind (f_X7_swap A6 338 366) fun A7 => Option.bind (f_X7_swap A7 339 367) fun A9 => Option.bind (f_X7_swap A9 340 368) fun A11 => Option.bind (f_X7_swap A11 341 369) fun A13 => Option.bind (f_X7_swap A13 342 370) fun A15 => Option.bind (f_X7_swap A15 343 371) fun A17 => Option.bind (f_X7_turnRound A17 344 372) fun A19 => Option.bind (f_X7_turnRound A19 345 373) fun A21 => Option.bind (f_X7_swap A21 346 374) fun A23 => Option.bind (f_X7_swap A23 347 375) fun A25 => Option.bind (f_X7_swap A25 348 376) fun A27 => Option.bind (f_X7_swap A27 349 377) fun A29 => some (I3, A29)
noncomputable def f_X7_ask (I : Nat → Nat → Int32) (A : Nat → Nat → Int32) (a1 : Int32) : Option (Int32 × (Nat → Nat → Int32)) := bd (up2 I 318 0 0) fun I1 => Option.bind (f_X7_isProblem I1 a1) fun r2 => if r2 = 0 then (some (((-1) : Int32), I1)) else (bd (up2 I1 318 57 a1) fun I5 => gd (inr a1 5) <| bd (up2 I5 318 58 (A 329 a1.toNatClampNeg)) fun I7 => bd (up2 I7 318 59 0) fun I8 => some ((A 319 a1.toNatClampNeg), I8))
noncomputable def f_X7_isFalling_L2 (a1 : Int32) (A : Nat → Nat → Int32) (k3 : Unit → Option (Int32)) (k4 : Unit → Option (Int32)) : Nat → (Int32) → Option (Int32)
  | 0, _ => none
  | n + 1, v2 => gd (inr a1 40) <| if v2 < (A 326 a1.toNatClampNeg) then (gd (inr (((6 * a1) + v2) - 1) 240) <| gd (inr (A 327 ((((6 * a1) + v2) - 1).toNatClampNeg)) 6) <| gd (inr ((6 * a1) + v2) 240) <| gd (inr (A 327 (((6 * a1) + v2).toNatClampNeg)) 6) <| if (A 364 ((A 327 ((((6 * a1) + v2) - 1).toNatClampNeg)).toNatClampNeg)) = (-9) then (f_X7_isFalling_L2 a1 A k3 k4 n (v2 + 1)) else (if (A 364 ((A 327 (((6 * a1) + v2).toNatClampNeg)).toNatClampNeg)) = (-9) then (f_X7_isFalling_L2 a1 A k3 k4 n (v2 + 1)) else (if (A 364 ((A 327 (((6 * a1) + v2).toNatClampNeg)).toNatClampNeg)) < ((A 364 ((A 327 ((((6 * a1) + v2) - 1).toNatClampNeg)).toNatClampNeg)) + (A 325 a1.toNatClampNeg)) then (k3 ()) else (f_X7_isFalling_L2 a1 A k3 k4 n (v2 + 1))))) else (k4 ())
noncomputable def f_X7_isFalling (A : Nat → Nat → Int32) (a1 : Int32) : Option (Int32) := bd (fun (_ : Unit) => some (1 : Int32)) fun k3 => bd (fun (_ : Unit) => some (0 : Int32)) fun k4 => f_X7_isFalling_L2 a1 A k3 k4 FU 1
noncomputable def f_X7_isLoaded_L13 (v2 : Int32) (a1 : Int32) (A : Nat → Nat → Int32) (k9 : (Int32) → Option (Int32)) : Nat → (Int32) → (Int32) → Option (Int32)
  | 0, _, _ => none
  | n + 1, v7, v8 => gd (inr a1 40) <| if v7 < (A 326 a1.toNatClampNeg) then (gd (inr ((6 * a1) + v7) 240) <| gd (inr (A 327 (((6 * a1) + v7).toNatClampNeg)) 6) <| if (A 364 ((A 327 (((6 * a1) + v7).toNatClampNeg)).toNatClampNeg)) = v2 then (f_X7_isLoaded_L13 v2 a1 A k9 n (v7 + 1) (v8 + (A 328 (((6 * a1) + v7).toNatClampNeg)))) else (if (A 364 ((A 327 (((6 * a1) + v7).toNatClampNeg)).toNatClampNeg)) = (-9) then (if (A 328 (((6 * a1) + v7).toNatClampNeg)) < 0 then (f_X7_isLoaded_L13 v2 a1 A k9 n (v7 + 1) (v8 + (A 328 (((6 * a1) + v7).toNatClampNeg)))) else (f_X7_isLoaded_L13 v2 a1 A k9 n (v7 + 1) (v8 + 0))) else (f_X7_isLoaded_L13 v2 a1 A k9 n (v7 + 1) (v8 + 0)))) else (k9 v8)
noncomputable def f_X7_isLoaded_L2 (a1 : Int32) (A : Nat → Nat → Int32) (k3 : Unit → Option (Int32)) (k4 : Unit → Option (Int32)) : Nat → (Int32) → Option (Int32)
  | 0, _ => none
  | n + 1, v2 => if v2 < 6 then (bd (fun (v10 : Int32) => gd (inr a1 40) <| if (A 325 a1.toNatClampNeg) < v10 then (k3 ()) else (f_X7_isLoaded_L2 a1 A k3 k4 n (v2 + 1))) fun k9 => f_X7_isLoaded_L13 v2 a1 A k9 FU 0 0) else (k4 ())
noncomputable def f_X7_isLoaded (A : Nat → Nat → Int32) (a1 : Int32) : Option (Int32) := bd (fun (_ : Unit) => some (1 : Int32)) fun k3 => bd (fun (_ : Unit) => some (0 : Int32)) fun k4 => f_X7_isLoaded_L2 a1 A k3 k4 FU 0
noncomputable def f_X7_isNear_L15 (v2 : Int32) (a1 : Int32) (a2 : Int32) (A : Nat → Nat → Int32) (k9 : Unit → Option (Int32)) (k10 : Unit → Option (Int32)) : Nat → (Int32) → Option (Int32)
  | 0, _ => none
  | n + 1, v8 => if v8 < v2 then (gd (inr ((6 * a1) + v2) 240) <| gd (inr (A 327 (((6 * a1) + v2).toNatClampNeg)) 6) <| gd (inr ((6 * a1) + v8) 240) <| gd (inr (A 327 (((6 * a1) + v8).toNatClampNeg)) 6) <| bd (fun (z16 : Int32) => if (A 364 ((A 327 (((6 * a1) + v2).toNatClampNeg)).toNatClampNeg)) = (-9) then (f_X7_isNear_L15 v2 a1 a2 A k9 k10 n (v8 + 1)) else (if (A 364 ((A 327 (((6 * a1) + v8).toNatClampNeg)).toNatClampNeg)) = (-9) then (f_X7_isNear_L15 v2 a1 a2 A k9 k10 n (v8 + 1)) else (if z16 = 0 then (k9 ()) else (if a2 = 0 then (f_X7_isNear_L15 v2 a1 a2 A k9 k10 n (v8 + 1)) else (if z16 < (A 325 a1.toNatClampNeg) then (k9 ()) else (f_X7_isNear_L15 v2 a1 a2 A k9 k10 n (v8 + 1))))))) fun j17 => if (A 364 ((A 327 (((6 * a1) + v2).toNatClampNeg)).toNatClampNeg)) < (A 364 ((A 327 (((6 * a1) + v8).toNatClampNeg)).toNatClampNeg)) then (j17 ((A 364 ((A 327 (((6 * a1) + v8).toNatClampNeg)).toNatClampNeg)) - (A 364 ((A 327 (((6 * a1) + v2).toNatClampNeg)).toNatClampNeg)))) else (j17 ((A 364 ((A 327 (((6 * a1) + v2).toNatClampNeg)).toNatClampNeg)) - (A 364 ((A 327 (((6 * a1) + v8).toNatClampNeg)).toNatClampNeg))))) else (k10 ())
noncomputable def f_X7_isNear_L2 (a1 : Int32) (a2 : Int32) (A : Nat → Nat → Int32) (k3 : Unit → Option (Int32)) (k4 : Unit → Option (Int32)) : Nat → (Int32) → Option (Int32)
  | 0, _ => none
  | n + 1, v2 => gd (inr a1 40) <| if v2 < (A 326 a1.toNatClampNeg) then (bd (fun (_ : Unit) => k3 ()) fun k9 => bd (fun (_ : Unit) => f_X7_isNear_L2 a1 a2 A k3 k4 n (v2 + 1)) fun k10 => f_X7_isNear_L15 v2 a1 a2 A k9 k10 FU 0) else (k4 ())
noncomputable def f_X7_isNear (A : Nat → Nat → Int32) (a1 : Int32) (a2 : Int32) : Option (Int32) := bd (fun (_ : Unit) => some (1 : Int32)) fun k3 => bd (fun (_ : Unit) => some (0 : Int32)) fun k4 => f_X7_isNear_L2 a1 a2 A k3 k4 FU 0
noncomputable def f_X7_sumOf_L6 (a1 : Int32) (a2 : Int32) (a3 : Int32) (A : Nat → Nat → Int32) (k4 : (Int32) → Option (Int32)) : Nat → (Int32) → (Int32) → Option (Int32)
  | 0, _, _ => none
  | n + 1, v2, v3 => gd (inr a2 40) <| if v2 < (A 326 a2.toNatClampNeg) then (gd (inr ((6 * a2) + v2) 240) <| gd (inr (A 327 (((6 * a2) + v2).toNatClampNeg)) 6) <| gd (inr ((6 * a1) + (A 327 (((6 * a2) + v2).toNatClampNeg))) 30) <| if (A 364 ((A 327 (((6 * a2) + v2).toNatClampNeg)).toNatClampNeg)) = (-9) then (if (A 328 (((6 * a2) + v2).toNatClampNeg)) < 0 then (if 1 = a3 then (f_X7_sumOf_L6 a1 a2 a3 A k4 n (v2 + 1) (v3 + ((A 328 (((6 * a2) + v2).toNatClampNeg)) * ((A 321 (((6 * a1) + (A 327 (((6 * a2) + v2).toNatClampNeg))).toNatClampNeg)) - 1)))) else (f_X7_sumOf_L6 a1 a2 a3 A k4 n (v2 + 1) (v3 + 0))) else (if 0 = a3 then (f_X7_sumOf_L6 a1 a2 a3 A k4 n (v2 + 1) (v3 + ((A 328 (((6 * a2) + v2).toNatClampNeg)) * ((A 321 (((6 * a1) + (A 327 (((6 * a2) + v2).toNatClampNeg))).toNatClampNeg)) - 1)))) else (f_X7_sumOf_L6 a1 a2 a3 A k4 n (v2 + 1) (v3 + 0)))) else (f_X7_sumOf_L6 a1 a2 a3 A k4 n (v2 + 1) (v3 + ((A 328 (((6 * a2) + v2).toNatClampNeg)) * (A 364 ((A 327 (((6 * a2) + v2).toNatClampNeg)).toNatClampNeg)))))) else (k4 v3)
noncomputable def f_X7_sumOf (A : Nat → Nat → Int32) (a1 : Int32) (a2 : Int32) (a3 : Int32) : Option (Int32) := bd (fun (v5 : Int32) => some v5) fun k4 => f_X7_sumOf_L6 a1 a2 a3 A k4 FU 0 0
noncomputable def f_X7_isBroken_L162 (A : Nat → Nat → Int32) (k32 : (Int32) → (Int32) → Option (Int32)) : Nat → (Int32) → (Int32) → (Int32) → (Int32) → Option (Int32)
  | 0, _, _, _, _ => none
  | n + 1, v28, v29, v30, v31 => gd (inr v31 40) <| if v28 < (A 326 v31.toNatClampNeg) then (gd (inr ((6 * v31) + v28) 240) <| gd (inr (A 327 (((6 * v31) + v28).toNatClampNeg)) 6) <| if (A 364 ((A 327 (((6 * v31) + v28).toNatClampNeg)).toNatClampNeg)) = (-9) then (f_X7_isBroken_L162 A k32 n (v28 + 1) (v29 + 1) v30 v31) else (if (A 364 ((A 327 (((6 * v31) + v28).toNatClampNeg)).toNatClampNeg)) = (A 328 (((6 * v31) + v28).toNatClampNeg)) then (f_X7_isBroken_L162 A k32 n (v28 + 1) (v29 + 1) v30 v31) else (f_X7_isBroken_L162 A k32 n (v28 + 1) (v29 + 0) v30 v31))) else (k32 v30 v29)
noncomputable def f_X7_isBroken (A : Nat → Nat → Int32) (a1 : Int32) (a2 : Int32) : Option (Int32) := gd (inr ((8 * a1) + a2) 40) <| if (A 324 (((8 * a1) + a2).toNatClampNeg)) = 0 then (Option.bind (f_X7_isLoaded A ((8 * a1) + a2)) fun r3 => gd (r3 = 0 ∨ r3 = 1) <| some r3) else if (A 324 (((8 * a1) + a2).toNatClampNeg)) = 1 then (Option.bind (f_X7_sumOf A a1 ((8 * a1) + a2) 1) fun r6 => if (A 325 (((8 * a1) + a2).toNatClampNeg)) < r6 then (some (1 : Int32)) else (some (0 : Int32))) else if (A 324 (((8 * a1) + a2).toNatClampNeg)) = 2 then (Option.bind (f_X7_sumOf A a1 ((8 * a1) + a2) 0) fun r9 => if r9 < (A 325 (((8 * a1) + a2).toNatClampNeg)) then (some (1 : Int32)) else (some (0 : Int32))) else if (A 324 (((8 * a1) + a2).toNatClampNeg)) = 3 then (Option.bind (f_X7_sumOf A a1 ((8 * a1) + a2) 1) fun r12 => if (A 325 (((8 * a1) + a2).toNatClampNeg)) < r12 then (some (1 : Int32)) else (Option.bind (f_X7_sumOf A a1 ((8 * a1) + a2) 0) fun r15 => if r15 < (A 325 (((8 * a1) + a2).toNatClampNeg)) then (some (1 : Int32)) else (some (0 : Int32)))) else if (A 324 (((8 * a1) + a2).toNatClampNeg)) = 4 then (Option.bind (f_X7_isNear A ((8 * a1) + a2) 0) fun r18 => gd (r18 = 0 ∨ r18 = 1) <| some r18) else if (A 324 (((8 * a1) + a2).toNatClampNeg)) = 5 then (Option.bind (f_X7_isNear A ((8 * a1) + a2) 1) fun r21 => gd (r21 = 0 ∨ r21 = 1) <| some r21) else if (A 324 (((8 * a1) + a2).toNatClampNeg)) = 6 then (Option.bind (f_X7_isFalling A ((8 * a1) + a2)) fun r24 => gd (r24 = 0 ∨ r24 = 1) <| some r24) else (bd (fun (v33 : Int32) (v34 : Int32) => if v34 < v33 then (some (1 : Int32)) else (some (0 : Int32))) fun k32 => f_X7_isBroken_L162 A k32 FU 0 0 (A 325 (((8 * a1) + a2).toNatClampNeg)) ((8 * a1) + a2))
noncomputable def f_X7_brokenBy_L2 (a1 : Int32) (A : Nat → Nat → Int32) (k3 : (Int32) → Option (Int32)) (k5 : Unit → Option (Int32)) : Nat → (Int32) → Option (Int32)
  | 0, _ => none
  | n + 1, v2 => gd (inr a1 5) <| if v2 < (A 320 a1.toNatClampNeg) then (Option.bind (f_X7_isBroken A a1 v2) fun r8 => if r8 = 0 then (f_X7_brokenBy_L2 a1 A k3 k5 n (v2 + 1)) else (k3 v2)) else (k5 ())
noncomputable def f_X7_brokenBy (A : Nat → Nat → Int32) (a1 : Int32) : Option (Int32) := bd (fun (v4 : Int32) => some v4) fun k3 => bd (fun (_ : Unit) => some ((-9) : Int32)) fun k5 => f_X7_brokenBy_L2 a1 A k3 k5 FU 0
noncomputable def f_X7_isOut (A : Nat → Nat → Int32) (a1 : Int32) (a2 : Int32) (a3 : Int32) : Option (Int32 × (Nat → Nat → Int32)) := gd (inr a2 6) <| bd (up2 A 364 a2.toNatClampNeg a3) fun A2 => Option.bind (f_X7_brokenBy A2 a1) fun r3 => if r3 = (-9) then (bd (up2 A2 364 a2.toNatClampNeg ((A 364 a2.toNatClampNeg))) fun A6 => some ((0 : Int32), A6)) else (bd (up2 A2 364 a2.toNatClampNeg ((A 364 a2.toNatClampNeg))) fun A7 => some ((1 : Int32), A7))
noncomputable def f_X7_whatIs_L138 (v13 : Int32) (a1 : Int32) (a2 : Int32) (I14 : Nat → Nat → Int32) (k31 : (Int32) → (Nat → Nat → Int32) → Option (Int32 × (Nat → Nat → Int32) × (Nat → Nat → Int32))) : Nat → (Int32) → (Int32) → (Nat → Nat → Int32) → Option (Int32 × (Nat → Nat → Int32) × (Nat → Nat → Int32))
  | 0, _, _, _ => none
  | n + 1, v28, v29, A30 => gd (inr ((6 * a1) + v13) 30) <| if v28 < (A30 321 (((6 * a1) + v13).toNatClampNeg)) then (Option.bind (f_X7_isOut A30 a1 v13 v28) fun (r40, A41) => if r40 = 0 then (if v29 = (-9) then (f_X7_whatIs_L138 v13 a1 a2 I14 k31 n (v28 + 1) v28 A41) else (Option.bind (f_X7_costAt A41 a1 v13 v28) fun r45 => Option.bind (f_X7_costAt A41 a1 v13 v29) fun r47 => if r45 < r47 then (f_X7_whatIs_L138 v13 a1 a2 I14 k31 n (v28 + 1) v28 A41) else (f_X7_whatIs_L138 v13 a1 a2 I14 k31 n (v28 + 1) v29 A41))) else (f_X7_whatIs_L138 v13 a1 a2 I14 k31 n (v28 + 1) v29 A41)) else (k31 v29 A30)
noncomputable def f_X7_whatIs_L88 (a1 : Int32) (a2 : Int32) (k16 : (Int32) → (Nat → Nat → Int32) → (Nat → Nat → Int32) → Option (Int32 × (Nat → Nat → Int32) × (Nat → Nat → Int32))) (k21 : (Nat → Nat → Int32) → (Nat → Nat → Int32) → Option (Int32 × (Nat → Nat → Int32) × (Nat → Nat → Int32))) : Nat → (Int32) → (Nat → Nat → Int32) → (Nat → Nat → Int32) → Option (Int32 × (Nat → Nat → Int32) × (Nat → Nat → Int32))
  | 0, _, _, _ => none
  | n + 1, v13, I14, A15 => gd (inr a1 5) <| if v13 < (A15 319 a1.toNatClampNeg) then (if v13 < a2 then (gd (inr v13 6) <| Option.bind (f_X7_costAt A15 a1 v13 (A15 364 v13.toNatClampNeg)) fun r51 => bd (up2 I14 318 65 ((I14 318 65) + r51)) fun I53 => f_X7_whatIs_L88 a1 a2 k16 k21 n (v13 + 1) I53 A15) else (bd (fun (v32 : Int32) (A33 : Nat → Nat → Int32) => if v32 = (-9) then (k16 v13 I14 A33) else (Option.bind (f_X7_costAt A33 a1 v13 v32) fun r35 => bd (up2 I14 318 65 ((I14 318 65) + r35)) fun I37 => f_X7_whatIs_L88 a1 a2 k16 k21 n (v13 + 1) I37 A33)) fun k31 => f_X7_whatIs_L138 v13 a1 a2 I14 k31 FU 0 (-9) A15)) else (k21 I14 A15)
noncomputable def f_X7_whatIs_L23 (a1 : Int32) (a2 : Int32) (a3 : Int32) (I3 : Nat → Nat → Int32) (A : Nat → Nat → Int32) (k7 : (Int32) → Option (Int32 × (Nat → Nat → Int32) × (Nat → Nat → Int32))) (k10 : Unit → Option (Int32 × (Nat → Nat → Int32) × (Nat → Nat → Int32))) : Nat → (Int32) → Option (Int32 × (Nat → Nat → Int32) × (Nat → Nat → Int32))
  | 0, _ => none
  | n + 1, v6 => if (v6 + 1) < a2 then (if a3 = 0 then (k10 ()) else (gd (inr v6 6) <| gd (inr (a2 - 1) 6) <| if (A 364 ((a2 - 1).toNatClampNeg)) < (A 364 v6.toNatClampNeg) then (Option.bind (f_X7_areLike A a1 v6 (a2 - 1)) fun r59 => if r59 = 0 then (f_X7_whatIs_L23 a1 a2 a3 I3 A k7 k10 n (v6 + 1)) else (k7 v6)) else (f_X7_whatIs_L23 a1 a2 a3 I3 A k7 k10 n (v6 + 1)))) else (k10 ())
noncomputable def f_X7_whatIs (I : Nat → Nat → Int32) (A : Nat → Nat → Int32) (a1 : Int32) (a2 : Int32) (a3 : Int32) : Option (Int32 × (Nat → Nat → Int32) × (Nat → Nat → Int32)) := Option.bind (f_X7_brokenBy A a1) fun r1 => bd (up2 I 318 64 r1) fun I3 => if (I3 318 64) = (-9) then (bd (fun (v8 : Int32) => bd (up2 I3 318 64 v8) fun I9 => some ((2 : Int32), I9, A)) fun k7 => bd (fun (_ : Unit) => bd (up2 I3 318 65 0) fun I11 => bd (fun (v17 : Int32) (I18 : Nat → Nat → Int32) (A19 : Nat → Nat → Int32) => bd (up2 I18 318 64 v17) fun I20 => some ((3 : Int32), I20, A19)) fun k16 => bd (fun (I22 : Nat → Nat → Int32) (A23 : Nat → Nat → Int32) => some ((0 : Int32), I22, A23)) fun k21 => f_X7_whatIs_L88 a1 a2 k16 k21 FU 0 I11 A) fun k10 => f_X7_whatIs_L23 a1 a2 a3 I3 A k7 k10 FU 0) else (some ((1 : Int32), I3, A))
noncomputable def f_X7_begins_L17 (a1 : Int32) (a2 : Int32) (I3 : Nat → Nat → Int32) (k7 : (Nat → Nat → Int32) → Option ((Nat → Nat → Int32) × (Nat → Nat → Int32))) : Nat → (Int32) → (Nat → Nat → Int32) → Option ((Nat → Nat → Int32) × (Nat → Nat → Int32))
  | 0, _, _ => none
  | n + 1, v5, A6 => if v5 < 6 then (gd (inr v5 6) <| bd (up2 A6 364 v5.toNatClampNeg ((-9))) fun A19 => f_X7_begins_L17 a1 a2 I3 k7 n (v5 + 1) A19) else (k7 A6)
noncomputable def f_X7_begins (I : Nat → Nat → Int32) (A : Nat → Nat → Int32) (a1 : Int32) (a2 : Int32) : Option ((Nat → Nat → Int32) × (Nat → Nat → Int32)) := bd (up2 I 318 29 0) fun I1 => bd (up2 I1 318 30 0) fun I2 => bd (up2 I2 318 31 0) fun I3 => bd (fun (A8 : Nat → Nat → Int32) => Option.bind (f_X7_whatIs I3 A8 a1 0 a2) fun (r9, I10, A11) => if r9 = 0 then (Option.bind (f_X7_addNode I10 A11 0 (-9)) fun (I14, A15) => some (I14, A15)) else (some (I10, A11))) fun k7 => f_X7_begins_L17 a1 a2 I3 k7 FU 0 A
noncomputable def f_X7_changes (I : Nat → Nat → Int32) (A : Nat → Nat → Int32) (a1 : Int32) : Option ((Nat → Nat → Int32) × (Nat → Nat → Int32)) := bd (up2 I 318 14 ((I 318 14) + 1)) fun I1 => gd (inr a1 5) <| bd (up2 A 329 a1.toNatClampNeg ((I1 318 14))) fun A3 => bd (up2 A3 351 a1.toNatClampNeg (vp_nar .boolean 0)) fun A4 => bd (up2 A4 352 a1.toNatClampNeg (vp_nar .boolean 0)) fun A5 => some (I1, A5)
noncomputable def f_X7_closed (I : Nat → Nat → Int32) (A : Nat → Nat → Int32) (a1 : Int32) (a2 : Int32) (a3 : Int32) : Option (Int32 × (Nat → Nat → Int32)) := bd (up2 I 318 0 0) fun I1 => Option.bind (f_X7_in a3 0 1) fun r2 => if r2 = 0 then (some (((-1) : Int32), I1)) else (Option.bind (f_X7_in a1 0 ((I1 318 48) - 1)) fun r5 => if r5 = 0 then (some (((-9) : Int32), I1)) else (gd (inr a1 250) <| Option.bind (f_X7_in a2 0 ((A 359 a1.toNatClampNeg) - 1)) fun r9 => if r9 = 0 then (some (((-9) : Int32), I1)) else (if a3 = 0 then (gd (inr ((6 * a1) + a2) 1500) <| some ((A 360 (((6 * a1) + a2).toNatClampNeg)), I1)) else (gd (inr ((6 * a1) + a2) 1500) <| some ((A 361 (((6 * a1) + a2).toNatClampNeg)), I1)))))
noncomputable def f_X7_isValue (I : Nat → Nat → Int32) (A : Nat → Nat → Int32) (a1 : Int32) (a2 : Int32) (a3 : Int32) : Option (Int32) := Option.bind (f_X7_isProblem I a1) fun r1 => if r1 = 0 then (some (0 : Int32)) else (gd (inr a1 5) <| Option.bind (f_X7_in a2 0 ((A 319 a1.toNatClampNeg) - 1)) fun r5 => if r5 = 0 then (some (0 : Int32)) else (gd (inr ((6 * a1) + a2) 30) <| Option.bind (f_X7_in a3 0 ((A 321 (((6 * a1) + a2).toNatClampNeg)) - 1)) fun r9 => if r9 = 0 then (some (0 : Int32)) else (some (1 : Int32))))
noncomputable def f_X7_cost (I : Nat → Nat → Int32) (A : Nat → Nat → Int32) (a1 : Int32) (a2 : Int32) (a3 : Int32) (a4 : Int32) : Option (Int32 × (Nat → Nat → Int32) × (Nat → Nat → Int32)) := bd (up2 I 318 0 0) fun I1 => bd (up2 I1 318 1 0) fun I2 => Option.bind (f_X7_isValue I2 A a1 a2 a3) fun r3 => if r3 = 0 then (Option.bind (f_X7_no I2 (-1)) fun (r6, I7) => some (r6, I7, A)) else (Option.bind (f_X7_in a4 (-100000) 100000) fun r9 => if r9 = 0 then (Option.bind (f_X7_no I2 (-1)) fun (r29, I30) => some (r29, I30, A)) else (if (I2 318 23) = (-9) then (gd (inr ((6 * a1) + a2) 30) <| bd (fun (z16 : Int32) => gd (inr (((36 * a1) + (6 * a2)) + a3) 180) <| bd (up2 A 323 ((((36 * a1) + (6 * a2)) + a3).toNatClampNeg) z16) fun A19 => Option.bind (f_X7_changes I2 A19 a1) fun (I20, A21) => some (z16, I20, A21)) fun j17 => if (A 322 (((6 * a1) + a2).toNatClampNeg)) = 0 then (j17 a4.toInt8.toInt32) else (if (A 322 (((6 * a1) + a2).toNatClampNeg)) = 1 then (j17 a4.toInt16.toInt32) else (if (A 322 (((6 * a1) + a2).toNatClampNeg)) = 2 then (j17 (a4 &&& 65535)) else (j17 a4)))) else (Option.bind (f_X7_no I2 (-2)) fun (r26, I27) => some (r26, I27, A))))
noncomputable def f_X7_costs (I : Nat → Nat → Int32) (A : Nat → Nat → Int32) (a1 : Int32) (a2 : Int32) (a3 : Int32) : Option (Int32 × (Nat → Nat → Int32)) := bd (up2 I 318 0 0) fun I1 => bd (up2 I1 318 1 0) fun I2 => Option.bind (f_X7_isValue I2 A a1 a2 a3) fun r3 => if r3 = 0 then (Option.bind (f_X7_no I2 (-1)) fun (r6, I7) => some (r6, I7)) else (Option.bind (f_X7_costAt A a1 a2 a3) fun r9 => some (r9, I2))
noncomputable def f_X7_count (I : Nat → Nat → Int32) (a1 : Int32) : Option (Int32 × (Nat → Nat → Int32)) := bd (up2 I 318 0 0) fun I1 => if a1 = 0 then (some ((I1 318 2), I1)) else if a1 = 1 then (some ((I1 318 19), I1)) else if a1 = 2 then (some ((I1 318 15), I1)) else if a1 = 3 then (some ((I1 318 18), I1)) else if a1 = 4 then (some ((I1 318 23), I1)) else if a1 = 5 then (if (I1 318 23) = (-9) then (some ((0 : Int32), I1)) else (some ((I1 318 29), I1))) else if a1 = 6 then (if (I1 318 23) = (-9) then (some ((0 : Int32), I1)) else (some ((I1 318 30), I1))) else if a1 = 7 then (if (I1 318 23) = (-9) then (some ((0 : Int32), I1)) else (some ((I1 318 31), I1))) else (some (((-1) : Int32), I1))
noncomputable def f_X7_isAhead (A : Nat → Nat → Int32) (a1 : Int32) (a2 : Int32) : Option (Int32) := gd (inr a1 2000) <| gd (inr a2 2000) <| if (A 341 a1.toNatClampNeg) < (A 341 a2.toNatClampNeg) then (some (1 : Int32)) else (if (A 341 a1.toNatClampNeg) = (A 341 a2.toNatClampNeg) then (if (A 340 a1.toNatClampNeg) < (A 340 a2.toNatClampNeg) then (some (1 : Int32)) else (some (0 : Int32))) else (some (0 : Int32)))
noncomputable def f_X7_nextOf_L5 (I : Nat → Nat → Int32) (A : Nat → Nat → Int32) (k4 : (Int32) → Option (Int32)) : Nat → (Int32) → (Int32) → Option (Int32)
  | 0, _, _ => none
  | n + 1, v2, v3 => if v2 < (I 318 29) then (gd (inr v2 2000) <| bd (fun (z11 : Int32) => if z11 = 0 then (f_X7_nextOf_L5 I A k4 n (v2 + 1) v3) else (if v3 = (-9) then (f_X7_nextOf_L5 I A k4 n (v2 + 1) v2) else (Option.bind (f_X7_isAhead A v2 v3) fun r15 => if r15 = 0 then (f_X7_nextOf_L5 I A k4 n (v2 + 1) v3) else (f_X7_nextOf_L5 I A k4 n (v2 + 1) v2)))) fun j12 => if (A 345 v2.toNatClampNeg) = 0 then (if (A 342 v2.toNatClampNeg) = (-9) then (j12 1) else (gd (inr (A 342 v2.toNatClampNeg) 2000) <| if (A 345 ((A 342 v2.toNatClampNeg).toNatClampNeg)) = 0 then (j12 0) else (j12 1))) else (j12 0)) else (k4 v3)
noncomputable def f_X7_nextOf (I : Nat → Nat → Int32) (A : Nat → Nat → Int32) : Option (Int32) := bd (fun (v5 : Int32) => some v5) fun k4 => f_X7_nextOf_L5 I A k4 FU 0 (-9)
noncomputable def f_X7_endsAs_L357 (v44 : Int32) (a1 : Int32) (I42 : Nat → Nat → Int32) (k64 : (Nat → Nat → Int32) → Option ((Nat → Nat → Int32) × (Nat → Nat → Int32))) : Nat → (Int32) → (Int32) → (Nat → Nat → Int32) → Option ((Nat → Nat → Int32) × (Nat → Nat → Int32))
  | 0, _, _, _ => none
  | n + 1, v61, v62, A63 => if v61 < 6 then (gd (inr ((6 * v62) + v61) 12000) <| gd (inr ((6 * v44) + v61) 1500) <| bd (up2 A63 355 (((6 * v44) + v61).toNatClampNeg) ((A63 339 (((6 * v62) + v61).toNatClampNeg)))) fun A69 => bd (up2 A69 360 (((6 * v44) + v61).toNatClampNeg) ((A69 347 (((6 * v62) + v61).toNatClampNeg)))) fun A70 => bd (up2 A70 361 (((6 * v44) + v61).toNatClampNeg) ((A70 348 (((6 * v62) + v61).toNatClampNeg)))) fun A71 => f_X7_endsAs_L357 v44 a1 I42 k64 n (v61 + 1) v62 A71) else (k64 A63)
noncomputable def f_X7_endsAs_L236 (a1 : Int32) (I42 : Nat → Nat → Int32) (k46 : (Nat → Nat → Int32) → Option ((Nat → Nat → Int32) × (Nat → Nat → Int32))) : Nat → (Int32) → (Nat → Nat → Int32) → Option ((Nat → Nat → Int32) × (Nat → Nat → Int32))
  | 0, _, _ => none
  | n + 1, v44, A45 => if v44 < (I42 318 31) then (gd (inr v44 250) <| gd (inr (A45 346 v44.toNatClampNeg) 2000) <| bd (up2 A45 354 v44.toNatClampNeg ((A45 338 ((A45 346 v44.toNatClampNeg).toNatClampNeg)))) fun A52 => bd (up2 A52 356 v44.toNatClampNeg ((A52 341 ((A45 346 v44.toNatClampNeg).toNatClampNeg)))) fun A53 => bd (up2 A53 357 v44.toNatClampNeg ((A53 343 ((A45 346 v44.toNatClampNeg).toNatClampNeg)))) fun A54 => bd (up2 A54 358 v44.toNatClampNeg ((A54 349 ((A45 346 v44.toNatClampNeg).toNatClampNeg)))) fun A55 => bd (fun (z57 : Int32) => bd (up2 A55 359 v44.toNatClampNeg z57) fun A59 => bd (fun (A65 : Nat → Nat → Int32) => f_X7_endsAs_L236 a1 I42 k46 n (v44 + 1) A65) fun k64 => f_X7_endsAs_L357 v44 a1 I42 k64 FU 0 (A45 346 v44.toNatClampNeg) A59) fun j58 => if (A55 338 ((A45 346 v44.toNatClampNeg).toNatClampNeg)) < (A55 319 a1.toNatClampNeg) then (gd (inr ((6 * a1) + (A55 338 ((A45 346 v44.toNatClampNeg).toNatClampNeg))) 30) <| j58 (A55 321 (((6 * a1) + (A55 338 ((A45 346 v44.toNatClampNeg).toNatClampNeg))).toNatClampNeg))) else (j58 0)) else (k46 A45)
noncomputable def f_X7_endsAs_L187 (z4 : Int32) (a1 : Int32) (I : Nat → Nat → Int32) (k78 : (Nat → Nat → Int32) → Option ((Nat → Nat → Int32) × (Nat → Nat → Int32))) : Nat → (Int32) → (Nat → Nat → Int32) → Option ((Nat → Nat → Int32) × (Nat → Nat → Int32))
  | 0, _, _ => none
  | n + 1, v76, A77 => if v76 < 6 then (gd (inr ((6 * z4) + v76) 12000) <| gd (inr ((6 * a1) + v76) 30) <| bd (up2 A77 353 (((6 * a1) + v76).toNatClampNeg) ((A77 339 (((6 * z4) + v76).toNatClampNeg)))) fun A83 => f_X7_endsAs_L187 z4 a1 I k78 n (v76 + 1) A83) else (k78 A77)
noncomputable def f_X7_endsAs (I : Nat → Nat → Int32) (A : Nat → Nat → Int32) (a1 : Int32) (a2 : Int32) : Option ((Nat → Nat → Int32) × (Nat → Nat → Int32)) := Option.bind (f_X7_nextOf I A) fun r1 => bd (fun (z4 : Int32) => gd (inr (6 * a1) 30) <| bd (up2 A 350 ((6 * a1).toNatClampNeg) a2) fun A7 => gd (inr ((6 * a1) + 1) 30) <| bd (up2 A7 350 (((6 * a1) + 1).toNatClampNeg) ((I 318 31))) fun A9 => gd (inr ((6 * a1) + 2) 30) <| bd (up2 A9 350 (((6 * a1) + 2).toNatClampNeg) ((I 318 30))) fun A11 => gd (inr ((6 * a1) + 3) 30) <| bd (up2 A11 350 (((6 * a1) + 3).toNatClampNeg) ((I 318 28))) fun A13 => bd (fun (z15 : Int32) => gd (inr ((6 * a1) + 4) 30) <| bd (up2 A13 350 (((6 * a1) + 4).toNatClampNeg) z15) fun A18 => bd (fun (z22 : Int32) => gd (inr ((6 * a1) + 5) 30) <| bd (up2 A18 350 (((6 * a1) + 5).toNatClampNeg) z22) fun A25 => gd (inr a1 5) <| bd (up2 A25 351 a1.toNatClampNeg (vp_nar .boolean 1)) fun A27 => bd (fun (z28 : Int32) => bd (up2 A27 352 a1.toNatClampNeg (vp_nar .boolean z28)) fun A30 => bd (fun (A40 : Nat → Nat → Int32) => bd (up2 I 318 48 (I 318 31)) fun I42 => bd (fun (A47 : Nat → Nat → Int32) => bd (up2 I42 318 23 (-9)) fun I48 => some (I48, A47)) fun k46 => f_X7_endsAs_L236 a1 I42 k46 FU 0 A40) fun j41 => if a2 = 1 then (bd (fun (A79 : Nat → Nat → Int32) => j41 A79) fun k78 => f_X7_endsAs_L187 z4 a1 I k78 FU 0 A30) else (j41 A30)) fun j29 => if a2 = 1 then (j29 1) else (j29 0)) fun j23 => if a2 = 1 then (gd (inr z4 2000) <| j23 (A18 341 z4.toNatClampNeg)) else (if r1 = (-9) then (j23 (-1000000)) else (gd (inr r1 2000) <| j23 (A18 341 r1.toNatClampNeg)))) fun j16 => if a2 = 1 then (gd (inr z4 2000) <| j16 (A13 341 z4.toNatClampNeg)) else (j16 (-1000000))) fun j5 => if 0 < (I 318 31) then (gd (inr ((I 318 31) - 1) 250) <| j5 (A 346 (((I 318 31) - 1).toNatClampNeg))) else (j5 (-9))
noncomputable def f_X7_fail (I : Nat → Nat → Int32) (A : Nat → Nat → Int32) (a1 : Int32) (a2 : Int32) : Option (Int32 × (Nat → Nat → Int32) × (Nat → Nat → Int32)) := bd (up2 I 318 0 0) fun I1 => Option.bind (f_X7_in a1 0 ((I1 318 15) - 1)) fun r2 => if r2 = 0 then (some (((-1) : Int32), I1, A)) else (Option.bind (f_X7_in a2 0 200) fun r5 => if r5 = 0 then (some (((-1) : Int32), I1, A)) else (if (I1 318 23) = (-9) then (gd (inr a1 5) <| bd (up2 A 330 a1.toNatClampNeg a2) fun A10 => some ((1 : Int32), I1, A10)) else (some (((-2) : Int32), I1, A))))
noncomputable def f_X7_giveUp (I : Nat → Nat → Int32) : Option (Int32 × (Nat → Nat → Int32)) := bd (up2 I 318 0 0) fun I1 => if (I1 318 23) = (-9) then (some (((-2) : Int32), I1)) else (bd (up2 I1 318 23 (-9)) fun I3 => some ((I1 318 23), I3))
noncomputable def f_X7_helper (I : Nat → Nat → Int32) (A : Nat → Nat → Int32) (a1 : Int32) (a2 : Int32) : Option (Int32 × (Nat → Nat → Int32)) := bd (up2 I 318 0 0) fun I1 => Option.bind (f_X7_in a1 0 4) fun r2 => if r2 = 0 then (some (((-1) : Int32), I1)) else (Option.bind (f_X7_in a2 0 2) fun r5 => if r5 = 0 then (some (((-1) : Int32), I1)) else (if a2 = 0 then (gd (inr a1 5) <| some ((A 334 a1.toNatClampNeg), I1)) else (if a2 = 1 then (gd (inr a1 5) <| some ((A 332 a1.toNatClampNeg), I1)) else (gd (inr a1 5) <| some ((A 333 a1.toNatClampNeg), I1)))))
noncomputable def f_X7_helpers_L40 (I6 : Nat → Nat → Int32) (k11 : (Int32) → (Nat → Nat → Int32) → Option (Int32 × (Nat → Nat → Int32) × (Nat → Nat → Int32))) : Nat → (Int32) → (Int32) → (Nat → Nat → Int32) → Option (Int32 × (Nat → Nat → Int32) × (Nat → Nat → Int32))
  | 0, _, _, _ => none
  | n + 1, v8, v9, A10 => if v8 < 5 then (gd (inr v8 5) <| bd (up2 A10 330 v8.toNatClampNeg 0) fun A16 => f_X7_helpers_L40 I6 k11 n (v8 + 1) v9 A16) else (k11 v9 A10)
noncomputable def f_X7_helpers (I : Nat → Nat → Int32) (A : Nat → Nat → Int32) (a1 : Int32) : Option (Int32 × (Nat → Nat → Int32) × (Nat → Nat → Int32)) := bd (up2 I 318 0 0) fun I1 => Option.bind (f_X7_in a1 1 5) fun r2 => if r2 = 0 then (some (((-1) : Int32), I1, A)) else (if (I1 318 23) = (-9) then (bd (up2 I1 318 15 a1) fun I6 => bd (fun (v12 : Int32) (A13 : Nat → Nat → Int32) => some (v12, I6, A13)) fun k11 => f_X7_helpers_L40 I6 k11 FU 0 (I1 318 15) A) else (some (((-2) : Int32), I1, A)))
noncomputable def f_X7_limit (I : Nat → Nat → Int32) (a1 : Int32) : Option (Int32 × (Nat → Nat → Int32)) := bd (up2 I 318 0 0) fun I1 => Option.bind (f_X7_in a1 0 1000) fun r2 => if r2 = 0 then (some (((-1) : Int32), I1)) else (if (I1 318 23) = (-9) then (bd (up2 I1 318 19 a1) fun I6 => some ((I1 318 19), I6)) else (some (((-2) : Int32), I1)))
noncomputable def f_X7_node_L53 (a1 : Int32) (a2 : Int32) (a3 : Int32) (I1 : Nat → Nat → Int32) (k12 : (Int32) → (Nat → Nat → Int32) → Option (Int32 × (Nat → Nat → Int32) × (Nat → Nat → Int32))) : Nat → (Int32) → (Int32) → (Nat → Nat → Int32) → Option (Int32 × (Nat → Nat → Int32) × (Nat → Nat → Int32))
  | 0, _, _, _ => none
  | n + 1, v9, v10, A11 => if v9 < 6 then (if v9 < (I1 318 59) then (gd (inr v9 6) <| bd (up2 A11 364 v9.toNatClampNeg ((A11 362 v9.toNatClampNeg))) fun A44 => f_X7_node_L53 a1 a2 a3 I1 k12 n (v9 + 1) v10 A44) else (gd (inr v9 6) <| bd (up2 A11 364 v9.toNatClampNeg ((-9))) fun A42 => f_X7_node_L53 a1 a2 a3 I1 k12 n (v9 + 1) v10 A42)) else (k12 v10 A11)
noncomputable def f_X7_node (I : Nat → Nat → Int32) (A : Nat → Nat → Int32) (a1 : Int32) (a2 : Int32) (a3 : Int32) : Option (Int32 × (Nat → Nat → Int32) × (Nat → Nat → Int32)) := bd (up2 I 318 0 0) fun I1 => Option.bind (f_X7_in a1 0 4) fun r2 => if r2 = 0 then (some (((-1) : Int32), I1, A)) else (if (I1 318 57) = (-9) then (some (((-2) : Int32), I1, A)) else (gd (inr (I1 318 57) 5) <| if (A 329 ((I1 318 57).toNatClampNeg)) = (I1 318 58) then (bd (fun (v13 : Int32) (A14 : Nat → Nat → Int32) => if a1 = 0 then (Option.bind (f_X7_isRule I1 A14 v13 a2) fun r33 => if r33 = 0 then (some (((-1) : Int32), I1, A14)) else (Option.bind (f_X7_isBroken A14 v13 a2) fun r36 => if r36 = 0 then (some ((0 : Int32), I1, A14)) else (some ((1 : Int32), I1, A14)))) else (if a1 = 1 then (Option.bind (f_X7_isValue I1 A14 v13 a2 a3) fun r25 => if r25 = 0 then (some (((-1) : Int32), I1, A14)) else (if a2 < (I1 318 59) then (some ((0 : Int32), I1, A14)) else (Option.bind (f_X7_isOut A14 v13 a2 a3) fun (r29, A30) => if r29 = 0 then (some ((0 : Int32), I1, A30)) else (some ((1 : Int32), I1, A30))))) else (Option.bind (f_X7_whatIs I1 A14 v13 (I1 318 59) 1) fun (r17, I18, A19) => if a1 = 2 then (some (r17, I18, A19)) else (if a1 = 3 then (if r17 = 0 then (some ((I18 318 65), I18, A19)) else (some (((-1000000) : Int32), I18, A19))) else (if r17 = 0 then (some (((-9) : Int32), I18, A19)) else (some ((I18 318 64), I18, A19))))))) fun k12 => f_X7_node_L53 a1 a2 a3 I1 k12 FU 0 (I1 318 57) A) else (some (((-2) : Int32), I1, A))))
noncomputable def f_X7_number (I : Nat → Nat → Int32) (A : Nat → Nat → Int32) (a1 : Int32) (a2 : Int32) (a3 : Int32) : Option (Int32 × (Nat → Nat → Int32) × (Nat → Nat → Int32)) := bd (up2 I 318 0 0) fun I1 => bd (up2 I1 318 1 0) fun I2 => Option.bind (f_X7_isRule I2 A a1 a2) fun r3 => if r3 = 0 then (Option.bind (f_X7_no I2 (-1)) fun (r6, I7) => some (r6, I7, A)) else (Option.bind (f_X7_in a3 (-1000) 1000) fun r9 => if r9 = 0 then (Option.bind (f_X7_no I2 (-1)) fun (r21, I22) => some (r21, I22, A)) else (if (I2 318 23) = (-9) then (gd (inr ((8 * a1) + a2) 40) <| bd (up2 A 325 (((8 * a1) + a2).toNatClampNeg) a3) fun A14 => Option.bind (f_X7_changes I2 A14 a1) fun (I15, A16) => some ((A 325 (((8 * a1) + a2).toNatClampNeg)), I15, A16)) else (Option.bind (f_X7_no I2 (-2)) fun (r18, I19) => some (r18, I19, A))))
noncomputable def f_X7_rowOf_L2 (a1 : Int32) (k4 : (Nat → Nat → Int32) → Option ((Nat → Nat → Int32))) : Nat → (Int32) → (Nat → Nat → Int32) → Option ((Nat → Nat → Int32))
  | 0, _, _ => none
  | n + 1, v2, A3 => if v2 < 6 then (gd (inr ((6 * a1) + v2) 12000) <| gd (inr v2 6) <| bd (up2 A3 364 v2.toNatClampNeg ((A3 339 (((6 * a1) + v2).toNatClampNeg)))) fun A9 => f_X7_rowOf_L2 a1 k4 n (v2 + 1) A9) else (k4 A3)
noncomputable def f_X7_rowOf (A : Nat → Nat → Int32) (a1 : Int32) : Option ((Nat → Nat → Int32)) := bd (fun (A5 : Nat → Nat → Int32) => some A5) fun k4 => f_X7_rowOf_L2 a1 k4 FU 0 A
noncomputable def f_X7_opens_L40 (a1 : Int32) (a2 : Int32) (a3 : Int32) (k11 : (Nat → Nat → Int32) → (Nat → Nat → Int32) → Option ((Nat → Nat → Int32) × (Nat → Nat → Int32))) : Nat → (Int32) → (Int32) → (Nat → Nat → Int32) → (Nat → Nat → Int32) → Option ((Nat → Nat → Int32) × (Nat → Nat → Int32))
  | 0, _, _, _, _ => none
  | n + 1, v7, v8, I9, A10 => gd (inr ((6 * a1) + v8) 30) <| if v7 < (A10 321 (((6 * a1) + v8).toNatClampNeg)) then (Option.bind (f_X7_rowOf A10 a2) fun A16 => gd (inr v8 6) <| bd (up2 A16 364 v8.toNatClampNeg v7) fun A19 => Option.bind (f_X7_whatIs I9 A19 a1 (v8 + 1) a3) fun (r20, I21, A22) => gd (inr ((6 * a2) + v7) 12000) <| bd (up2 A22 347 (((6 * a2) + v7).toNatClampNeg) r20) fun A25 => bd (fun (z26 : Int32) => bd (up2 A25 348 (((6 * a2) + v7).toNatClampNeg) z26) fun A28 => if r20 = 0 then (Option.bind (f_X7_addNode I21 A28 (v8 + 1) a2) fun (I30, A31) => bd (up2 A31 349 a2.toNatClampNeg (((A31 349 a2.toNatClampNeg) + 1))) fun A33 => f_X7_opens_L40 a1 a2 a3 k11 n (v7 + 1) v8 I30 A33) else (f_X7_opens_L40 a1 a2 a3 k11 n (v7 + 1) v8 I21 A28)) fun j27 => if r20 = 0 then (j27 (-9)) else (j27 (I21 318 64))) else (k11 I9 A10)
noncomputable def f_X7_opens (I : Nat → Nat → Int32) (A : Nat → Nat → Int32) (a1 : Int32) (a2 : Int32) (a3 : Int32) : Option ((Nat → Nat → Int32) × (Nat → Nat → Int32)) := gd (inr a2 2000) <| bd (up2 A 344 a2.toNatClampNeg (vp_nar .boolean 1)) fun A2 => bd (up2 I 318 30 ((I 318 30) + 1)) fun I3 => gd (inr a1 5) <| if (A2 338 a2.toNatClampNeg) = (A2 319 a1.toNatClampNeg) then (some (I3, A2)) else (bd (fun (I12 : Nat → Nat → Int32) (A13 : Nat → Nat → Int32) => some (I12, A13)) fun k11 => f_X7_opens_L40 a1 a2 a3 k11 FU 0 (A2 338 a2.toNatClampNeg) I3 A2)
noncomputable def f_X7_part (I : Nat → Nat → Int32) (A : Nat → Nat → Int32) (a1 : Int32) (a2 : Int32) (a3 : Int32) (a4 : Int32) : Option (Int32 × (Nat → Nat → Int32) × (Nat → Nat → Int32)) := bd (up2 I 318 0 0) fun I1 => Option.bind (f_X7_isRule I1 A a1 a2) fun r2 => if r2 = 0 then (some (((-1) : Int32), I1, A)) else (gd (inr a1 5) <| Option.bind (f_X7_in a3 0 ((A 319 a1.toNatClampNeg) - 1)) fun r6 => if r6 = 0 then (some (((-1) : Int32), I1, A)) else (Option.bind (f_X7_in a4 (-50) 50) fun r9 => if r9 = 0 then (some (((-1) : Int32), I1, A)) else (if (I1 318 23) = (-9) then (Option.bind (f_X7_partAt A a1 a2 a3) fun r13 => if r13 = (-9) then (gd (inr ((8 * a1) + a2) 40) <| gd (inr ((6 * ((8 * a1) + a2)) + (A 326 (((8 * a1) + a2).toNatClampNeg))) 240) <| bd (up2 A 327 (((6 * ((8 * a1) + a2)) + (A 326 (((8 * a1) + a2).toNatClampNeg))).toNatClampNeg) a3) fun A18 => gd (inr ((6 * ((8 * a1) + a2)) + (A18 326 (((8 * a1) + a2).toNatClampNeg))) 240) <| bd (up2 A18 328 (((6 * ((8 * a1) + a2)) + (A18 326 (((8 * a1) + a2).toNatClampNeg))).toNatClampNeg) a4) fun A20 => bd (up2 A20 326 (((8 * a1) + a2).toNatClampNeg) (((A20 326 (((8 * a1) + a2).toNatClampNeg)) + 1))) fun A21 => Option.bind (f_X7_changes I1 A21 a1) fun (I22, A23) => some ((A23 326 (((8 * a1) + a2).toNatClampNeg)), I22, A23)) else (some (((-2) : Int32), I1, A))) else (some (((-2) : Int32), I1, A)))))
noncomputable def f_X7_plain (I : Nat → Nat → Int32) : Option (Int32 × (Nat → Nat → Int32)) := bd (up2 I 318 0 0) fun I1 => if (I1 318 23) = (-9) then (bd (up2 I1 318 18 0) fun I3 => some ((I1 318 18), I3)) else (some (((-2) : Int32), I1))
noncomputable def f_X7_problem (I : Nat → Nat → Int32) : Option (Int32 × (Nat → Nat → Int32)) := bd (up2 I 318 0 0) fun I1 => if (I1 318 23) = (-9) then (if (I1 318 2) = 5 then (some (((-3) : Int32), I1)) else (bd (up2 I1 318 2 ((I1 318 2) + 1)) fun I4 => some (((I4 318 2) - 1), I4))) else (some (((-2) : Int32), I1))
noncomputable def f_X7_row (I : Nat → Nat → Int32) (A : Nat → Nat → Int32) (a1 : Int32) : Option (Int32 × (Nat → Nat → Int32)) := bd (up2 I 318 0 0) fun I1 => if (I1 318 61) = (-9) then (some (((-9) : Int32), I1)) else (Option.bind (f_X7_in a1 0 ((I1 318 61) - 1)) fun r3 => if r3 = 0 then (some (((-9) : Int32), I1)) else (gd (inr a1 6) <| some ((A 363 a1.toNatClampNeg), I1)))
noncomputable def f_X7_rule (I : Nat → Nat → Int32) (A : Nat → Nat → Int32) (a1 : Int32) (a2 : Int32) (a3 : Int32) : Option (Int32 × (Nat → Nat → Int32) × (Nat → Nat → Int32)) := bd (up2 I 318 0 0) fun I1 => Option.bind (f_X7_isProblem I1 a1) fun r2 => if r2 = 0 then (some (((-1) : Int32), I1, A)) else (Option.bind (f_X7_in a2 0 7) fun r5 => if r5 = 0 then (some (((-1) : Int32), I1, A)) else (Option.bind (f_X7_in a3 (-1000) 1000) fun r8 => if r8 = 0 then (some (((-1) : Int32), I1, A)) else (if (I1 318 23) = (-9) then (gd (inr a1 5) <| if (A 320 a1.toNatClampNeg) = 8 then (some (((-3) : Int32), I1, A)) else (gd (inr ((8 * a1) + (A 320 a1.toNatClampNeg)) 40) <| bd (up2 A 324 (((8 * a1) + (A 320 a1.toNatClampNeg)).toNatClampNeg) a2) fun A15 => bd (up2 A15 325 (((8 * a1) + (A 320 a1.toNatClampNeg)).toNatClampNeg) a3) fun A16 => bd (up2 A16 320 a1.toNatClampNeg (((A16 320 a1.toNatClampNeg) + 1))) fun A17 => Option.bind (f_X7_changes I1 A17 a1) fun (I18, A19) => some ((A 320 a1.toNatClampNeg), I18, A19))) else (some (((-2) : Int32), I1, A)))))
noncomputable def f_X7_same (I : Nat → Nat → Int32) (a1 : Int32) (a2 : Int32) : Option (Int32 × (Nat → Nat → Int32)) := bd (up2 I 318 0 0) fun I1 => Option.bind (f_X7_isProblem I1 a1) fun r2 => if r2 = 0 then (some (((-1) : Int32), I1)) else (Option.bind (f_X7_in a2 1 5) fun r5 => if r5 = 0 then (some (((-1) : Int32), I1)) else (if (I1 318 23) = (-9) then (some ((1 : Int32), I1)) else (some (((-2) : Int32), I1))))
noncomputable def f_X7_takes (I : Nat → Nat → Int32) (A : Nat → Nat → Int32) (a1 : Int32) : Option ((Nat → Nat → Int32) × (Nat → Nat → Int32)) := gd (inr a1 2000) <| bd (up2 A 345 a1.toNatClampNeg (vp_nar .boolean 1)) fun A2 => gd (inr (I 318 31) 250) <| bd (up2 A2 346 ((I 318 31).toNatClampNeg) a1) fun A4 => bd (up2 I 318 31 ((I 318 31) + 1)) fun I5 => some (I5, A4)
noncomputable def f_X7_second_L188 (z33 : Int32) (v23 : Int32) (I30 : Nat → Nat → Int32) (k38 : (Nat → Nat → Int32) → Option (Int32 × (Nat → Nat → Int32) × (Nat → Nat → Int32))) : Nat → (Int32) → (Nat → Nat → Int32) → Option (Int32 × (Nat → Nat → Int32) × (Nat → Nat → Int32))
  | 0, _, _ => none
  | n + 1, v36, A37 => if v36 < 6 then (if v23 = (-9) then (k38 A37) else (gd (inr ((6 * v23) + v36) 12000) <| gd (inr v36 6) <| bd (up2 A37 363 v36.toNatClampNeg ((A37 339 (((6 * v23) + v36).toNatClampNeg)))) fun A47 => f_X7_second_L188 z33 v23 I30 k38 n (v36 + 1) A47)) else (k38 A37)
noncomputable def f_X7_second_L49 (a1 : Int32) (a2 : Int32) (k22 : (Int32) → (Int32) → (Nat → Nat → Int32) → (Nat → Nat → Int32) → Option (Int32 × (Nat → Nat → Int32) × (Nat → Nat → Int32))) : Nat → (Int32) → (Int32) → (Int32) → (Nat → Nat → Int32) → (Nat → Nat → Int32) → Option (Int32 × (Nat → Nat → Int32) × (Nat → Nat → Int32))
  | 0, _, _, _, _, _ => none
  | n + 1, v17, v18, v19, I20, A21 => if v17 = (-9) then (k22 v18 v17 I20 A21) else (if (I20 318 31) < 250 then (if v18 = (-9) then (Option.bind (f_X7_takes I20 A21 v17) fun (I56, A57) => Option.bind (f_X7_opens I56 A57 a1 v17 0) fun (I59, A60) => gd (inr v17 2000) <| gd (inr a1 5) <| if (A60 338 v17.toNatClampNeg) = (A60 319 a1.toNatClampNeg) then (if v19 = a2 then (Option.bind (f_X7_nextOf I59 A60) fun r70 => f_X7_second_L49 a1 a2 k22 n r70 v17 (v19 + 1) I59 A60) else (Option.bind (f_X7_nextOf I59 A60) fun r68 => f_X7_second_L49 a1 a2 k22 n r68 (-9) (v19 + 1) I59 A60)) else (Option.bind (f_X7_nextOf I59 A60) fun r65 => f_X7_second_L49 a1 a2 k22 n r65 v18 v19 I59 A60)) else (k22 v18 v17 I20 A21)) else (k22 v18 v17 I20 A21))
noncomputable def f_X7_second (I : Nat → Nat → Int32) (A : Nat → Nat → Int32) (a1 : Int32) (a2 : Int32) : Option (Int32 × (Nat → Nat → Int32) × (Nat → Nat → Int32)) := bd (up2 I 318 0 0) fun I1 => Option.bind (f_X7_isProblem I1 a1) fun r2 => if r2 = 0 then (some (((-1000002) : Int32), I1, A)) else (Option.bind (f_X7_in a2 0 60) fun r5 => if r5 = 0 then (some (((-1000002) : Int32), I1, A)) else (Option.bind (f_X7_aside I1 A) fun (I8, A9) => Option.bind (f_X7_begins I8 A9 a1 0) fun (I11, A12) => Option.bind (f_X7_nextOf I11 A12) fun r14 => bd (fun (v23 : Int32) (v24 : Int32) (I25 : Nat → Nat → Int32) (A26 : Nat → Nat → Int32) => bd (fun (z28 : Int32) => bd (up2 I25 318 61 z28) fun I30 => bd (fun (z33 : Int32) => bd (fun (A39 : Nat → Nat → Int32) => Option.bind (f_X7_aside I30 A39) fun (I40, A41) => some (z33, I40, A41)) fun k38 => f_X7_second_L188 z33 v23 I30 k38 FU 0 A26) fun j34 => if v23 = (-9) then (if v24 = (-9) then (j34 (-1000000)) else (j34 (-1000001))) else (gd (inr v23 2000) <| j34 (A26 341 v23.toNatClampNeg))) fun j29 => if v23 = (-9) then (j29 (-9)) else (gd (inr a1 5) <| j29 (A26 319 a1.toNatClampNeg))) fun k22 => f_X7_second_L49 a1 a2 k22 FU r14 (-9) 0 I11 A12))
noncomputable def f_X7_turnOf_L17 (a2 : Int32) (I : Nat → Nat → Int32) (A : Nat → Nat → Int32) (k21 : (Int32) → Option ((Nat → Nat → Int32) × (Nat → Nat → Int32))) : Nat → (Int32) → (Int32) → Option ((Nat → Nat → Int32) × (Nat → Nat → Int32))
  | 0, _, _ => none
  | n + 1, v19, v20 => if v19 < (I 318 29) then (gd (inr v19 2000) <| if (A 343 v19.toNatClampNeg) = (-9) then (if v20 = (-9) then (f_X7_turnOf_L17 a2 I A k21 n (v19 + 1) v19) else (Option.bind (f_X7_isAhead A v19 v20) fun r35 => if r35 = 0 then (f_X7_turnOf_L17 a2 I A k21 n (v19 + 1) v20) else (f_X7_turnOf_L17 a2 I A k21 n (v19 + 1) v19))) else (f_X7_turnOf_L17 a2 I A k21 n (v19 + 1) v20)) else (k21 v20)
noncomputable def f_X7_turnOf (I : Nat → Nat → Int32) (A : Nat → Nat → Int32) (a1 : Int32) (a2 : Int32) : Option ((Nat → Nat → Int32) × (Nat → Nat → Int32)) := gd (inr a2 5) <| if (A 337 a2.toNatClampNeg) = (-9) then (bd (fun (v22 : Int32) => if v22 = (-9) then (bd (up2 A 332 a2.toNatClampNeg (((A 332 a2.toNatClampNeg) + 1))) fun A24 => some (I, A24)) else (if ((I 318 30) - (I 318 31)) < 30 then (bd (up2 A 337 a2.toNatClampNeg v22) fun A26 => gd (inr v22 2000) <| bd (up2 A26 343 v22.toNatClampNeg a2) fun A28 => bd (up2 A28 336 a2.toNatClampNeg (((A28 336 a2.toNatClampNeg) + 1))) fun A29 => some (I, A29)) else (bd (up2 A 332 a2.toNatClampNeg (((A 332 a2.toNatClampNeg) + 1))) fun A30 => some (I, A30)))) fun k21 => f_X7_turnOf_L17 a2 I A k21 FU 0 (-9)) else (bd (up2 A 337 a2.toNatClampNeg ((-9))) fun A3 => if 0 < (A3 335 a2.toNatClampNeg) then (if (A3 336 a2.toNatClampNeg) = (A3 335 a2.toNatClampNeg) then (gd (inr (A 337 a2.toNatClampNeg) 2000) <| bd (up2 A3 343 ((A 337 a2.toNatClampNeg).toNatClampNeg) ((-9))) fun A15 => bd (up2 A15 335 a2.toNatClampNeg 0) fun A16 => bd (up2 A16 333 a2.toNatClampNeg (((A16 333 a2.toNatClampNeg) + 1))) fun A17 => some (I, A17)) else (bd (up2 A3 334 a2.toNatClampNeg (((A3 334 a2.toNatClampNeg) + 1))) fun A10 => Option.bind (f_X7_opens I A10 a1 (A 337 a2.toNatClampNeg) 1) fun (I11, A12) => some (I11, A12))) else (bd (up2 A3 334 a2.toNatClampNeg (((A3 334 a2.toNatClampNeg) + 1))) fun A5 => Option.bind (f_X7_opens I A5 a1 (A 337 a2.toNatClampNeg) 1) fun (I6, A7) => some (I6, A7)))
noncomputable def f_X7_walks_L5 (a1 : Int32) (k7 : (Nat → Nat → Int32) → (Nat → Nat → Int32) → Option (Int32 × (Nat → Nat → Int32) × (Nat → Nat → Int32))) (k10 : (Nat → Nat → Int32) → (Nat → Nat → Int32) → Option (Int32 × (Nat → Nat → Int32) × (Nat → Nat → Int32))) (k13 : (Nat → Nat → Int32) → (Nat → Nat → Int32) → Option (Int32 × (Nat → Nat → Int32) × (Nat → Nat → Int32))) (k16 : (Int32) → (Nat → Nat → Int32) → (Nat → Nat → Int32) → Option (Int32 × (Nat → Nat → Int32) × (Nat → Nat → Int32))) : Nat → (Int32) → (Nat → Nat → Int32) → (Nat → Nat → Int32) → Option (Int32 × (Nat → Nat → Int32) × (Nat → Nat → Int32))
  | 0, _, _, _ => none
  | n + 1, v4, I5, A6 => if v4 = (-9) then (k16 v4 I5 A6) else (gd (inr v4 2000) <| if (A6 344 v4.toNatClampNeg) = 0 then (k16 v4 I5 A6) else (Option.bind (f_X7_takes I5 A6 v4) fun (I24, A25) => gd (inr a1 5) <| if (A25 338 v4.toNatClampNeg) = (A25 319 a1.toNatClampNeg) then (k7 I24 A25) else (if (I24 318 31) = 250 then (k10 I24 A25) else (if (I24 318 31) = (I24 318 24) then (k13 I24 A25) else (Option.bind (f_X7_nextOf I24 A25) fun r31 => f_X7_walks_L5 a1 k7 k10 k13 k16 n r31 I24 A25)))))
noncomputable def f_X7_walks (I : Nat → Nat → Int32) (A : Nat → Nat → Int32) (a1 : Int32) : Option (Int32 × (Nat → Nat → Int32) × (Nat → Nat → Int32)) := Option.bind (f_X7_nextOf I A) fun r1 => bd (fun (I8 : Nat → Nat → Int32) (A9 : Nat → Nat → Int32) => some ((1 : Int32), I8, A9)) fun k7 => bd (fun (I11 : Nat → Nat → Int32) (A12 : Nat → Nat → Int32) => some ((4 : Int32), I11, A12)) fun k10 => bd (fun (I14 : Nat → Nat → Int32) (A15 : Nat → Nat → Int32) => some ((3 : Int32), I14, A15)) fun k13 => bd (fun (v17 : Int32) (I18 : Nat → Nat → Int32) (A19 : Nat → Nat → Int32) => if v17 = (-9) then (some ((2 : Int32), I18, A19)) else (some ((0 : Int32), I18, A19))) fun k16 => f_X7_walks_L5 a1 k7 k10 k13 k16 FU r1 I A
noncomputable def f_X7_solve_L143 (a1 : Int32) (a2 : Int32) (k38 : (Int32) → (Nat → Nat → Int32) → (Nat → Nat → Int32) → Option (Int32 × (Nat → Nat → Int32) × (Nat → Nat → Int32))) (k45 : (Nat → Nat → Int32) → (Nat → Nat → Int32) → Option (Int32 × (Nat → Nat → Int32) × (Nat → Nat → Int32))) : Nat → (Int32) → (Nat → Nat → Int32) → (Nat → Nat → Int32) → Option (Int32 × (Nat → Nat → Int32) × (Nat → Nat → Int32))
  | 0, _, _, _ => none
  | n + 1, v35, I36, A37 => if v35 < a2 then (bd (fun (z51 : Int32) => bd (up2 I36 318 28 ((I36 318 28) + 1)) fun I53 => if z51 < (I53 318 15) then (Option.bind (f_X7_turnOf I53 A37 a1 z51) fun (I63, A64) => Option.bind (f_X7_walks I63 A64 a1) fun (r66, I67, A68) => if 0 < r66 then (k38 r66 I67 A68) else (f_X7_solve_L143 a1 a2 k38 k45 n (v35 + 1) I67 A68)) else (Option.bind (f_X7_turnOf I53 A37 a1 0) fun (I55, A56) => Option.bind (f_X7_walks I55 A56 a1) fun (r58, I59, A60) => if 0 < r58 then (k38 r58 I59 A60) else (f_X7_solve_L143 a1 a2 k38 k45 n (v35 + 1) I59 A60))) fun j52 => if (I36 318 28) < (I36 318 18) then (gd (inr (I36 318 28) 200) <| j52 (A37 331 ((I36 318 28).toNatClampNeg))) else (gd (¬ (I36 318 15) = 0) <| j52 (((I36 318 28) - (I36 318 18)) - ((I36 318 28) - (I36 318 18)) / (I36 318 15) * (I36 318 15)))) else (k45 I36 A37)
noncomputable def f_X7_solve_L75 (a1 : Int32) (a2 : Int32) (I77 : Nat → Nat → Int32) (k81 : (Nat → Nat → Int32) → Option (Int32 × (Nat → Nat → Int32) × (Nat → Nat → Int32))) : Nat → (Int32) → (Nat → Nat → Int32) → Option (Int32 × (Nat → Nat → Int32) × (Nat → Nat → Int32))
  | 0, _, _ => none
  | n + 1, v79, A80 => if v79 < 5 then (gd (inr v79 5) <| bd (up2 A80 335 v79.toNatClampNeg ((A80 330 v79.toNatClampNeg))) fun A92 => bd (up2 A92 336 v79.toNatClampNeg 0) fun A93 => bd (up2 A93 334 v79.toNatClampNeg 0) fun A94 => bd (up2 A94 337 v79.toNatClampNeg ((-9))) fun A95 => f_X7_solve_L75 a1 a2 I77 k81 n (v79 + 1) A95) else (k81 A80)
noncomputable def f_X7_solve (I : Nat → Nat → Int32) (A : Nat → Nat → Int32) (a1 : Int32) (a2 : Int32) : Option (Int32 × (Nat → Nat → Int32) × (Nat → Nat → Int32)) := bd (up2 I 318 0 0) fun I1 => Option.bind (f_X7_isProblem I1 a1) fun r2 => if r2 = 0 then (some (((-1) : Int32), I1, A)) else (Option.bind (f_X7_in a2 1 500) fun r5 => if r5 = 0 then (some (((-1) : Int32), I1, A)) else (bd (fun (_ : Unit) => bd (fun (I31 : Nat → Nat → Int32) (A32 : Nat → Nat → Int32) => bd (fun (v39 : Int32) (I40 : Nat → Nat → Int32) (A41 : Nat → Nat → Int32) => Option.bind (f_X7_endsAs I40 A41 a1 v39) fun (I42, A43) => some (v39, I42, A43)) fun k38 => bd (fun (I46 : Nat → Nat → Int32) (A47 : Nat → Nat → Int32) => some ((0 : Int32), I46, A47)) fun k45 => f_X7_solve_L143 a1 a2 k38 k45 FU 0 I31 A32) fun j33 => if (I1 318 23) = (-9) then (bd (up2 I1 318 23 a1) fun I75 => bd (up2 I75 318 24 (I75 318 19)) fun I76 => bd (up2 I76 318 28 0) fun I77 => bd (fun (A82 : Nat → Nat → Int32) => Option.bind (f_X7_begins I77 A82 a1 1) fun (I83, A84) => if (I83 318 29) = 0 then (Option.bind (f_X7_endsAs I83 A84 a1 2) fun (I87, A88) => some ((2 : Int32), I87, A88)) else (j33 I83 A84)) fun k81 => f_X7_solve_L75 a1 a2 I77 k81 FU 0 A) else (j33 I1 A)) fun j9 => if (I1 318 23) = (-9) then (j9 ()) else (if (I1 318 23) = a1 then (j9 ()) else (some (((-2) : Int32), I1, A)))))
noncomputable def f_X7_status (I : Nat → Nat → Int32) : Option (Int32 × (Nat → Nat → Int32)) := bd (up2 I 318 0 0) fun I1 => some ((I1 318 1), I1)
noncomputable def f_X7_told (I : Nat → Nat → Int32) (A : Nat → Nat → Int32) (a1 : Int32) (a2 : Int32) : Option (Int32 × (Nat → Nat → Int32)) := bd (up2 I 318 0 0) fun I1 => Option.bind (f_X7_isProblem I1 a1) fun r2 => if r2 = 0 then (some (((-1) : Int32), I1)) else (Option.bind (f_X7_in a2 0 5) fun r5 => if r5 = 0 then (some (((-1) : Int32), I1)) else (gd (inr a1 5) <| if (A 351 a1.toNatClampNeg) = 0 then (some (((-9) : Int32), I1)) else (gd (inr ((6 * a1) + a2) 30) <| some ((A 350 (((6 * a1) + a2).toNatClampNeg)), I1))))
noncomputable def f_X7_turn (I : Nat → Nat → Int32) (A : Nat → Nat → Int32) (a1 : Int32) : Option (Int32 × (Nat → Nat → Int32) × (Nat → Nat → Int32)) := bd (up2 I 318 0 0) fun I1 => Option.bind (f_X7_in a1 0 4) fun r2 => if r2 = 0 then (some (((-1) : Int32), I1, A)) else (if (I1 318 23) = (-9) then (if (I1 318 18) = 200 then (some (((-3) : Int32), I1, A)) else (gd (inr (I1 318 18) 200) <| bd (up2 A 331 ((I1 318 18).toNatClampNeg) a1) fun A8 => bd (up2 I1 318 18 ((I1 318 18) + 1)) fun I9 => some ((I9 318 18), I9, A8))) else (some (((-2) : Int32), I1, A)))
noncomputable def f_X7_variable (I : Nat → Nat → Int32) (A : Nat → Nat → Int32) (a1 : Int32) (a2 : Int32) (a3 : Int32) : Option (Int32 × (Nat → Nat → Int32) × (Nat → Nat → Int32)) := bd (up2 I 318 0 0) fun I1 => Option.bind (f_X7_isProblem I1 a1) fun r2 => if r2 = 0 then (some (((-1) : Int32), I1, A)) else (Option.bind (f_X7_in a2 1 6) fun r5 => if r5 = 0 then (some (((-1) : Int32), I1, A)) else (Option.bind (f_X7_in a3 0 3) fun r8 => if r8 = 0 then (some (((-1) : Int32), I1, A)) else (if (I1 318 23) = (-9) then (gd (inr a1 5) <| if (A 319 a1.toNatClampNeg) = 6 then (some (((-3) : Int32), I1, A)) else (gd (inr ((6 * a1) + (A 319 a1.toNatClampNeg)) 30) <| bd (up2 A 321 (((6 * a1) + (A 319 a1.toNatClampNeg)).toNatClampNeg) a2) fun A15 => bd (up2 A15 322 (((6 * a1) + (A 319 a1.toNatClampNeg)).toNatClampNeg) a3) fun A16 => bd (up2 A16 319 a1.toNatClampNeg (((A16 319 a1.toNatClampNeg) + 1))) fun A17 => Option.bind (f_X7_changes I1 A17 a1) fun (I18, A19) => some ((A 319 a1.toNatClampNeg), I18, A19))) else (some (((-2) : Int32), I1, A)))))
noncomputable def f_X7_walked (I : Nat → Nat → Int32) (A : Nat → Nat → Int32) (a1 : Int32) (a2 : Int32) : Option (Int32 × (Nat → Nat → Int32)) := bd (up2 I 318 0 0) fun I1 => Option.bind (f_X7_in a2 0 9) fun r2 => if r2 = 0 then (some (((-1) : Int32), I1)) else (Option.bind (f_X7_in a1 0 ((I1 318 48) - 1)) fun r5 => if r5 = 0 then (some (((-9) : Int32), I1)) else (if a2 = 0 then (gd (inr a1 250) <| some ((A 354 a1.toNatClampNeg), I1)) else (if a2 < 7 then (gd (inr (((6 * a1) + a2) - 1) 1500) <| some ((A 355 ((((6 * a1) + a2) - 1).toNatClampNeg)), I1)) else (if a2 = 7 then (gd (inr a1 250) <| some ((A 356 a1.toNatClampNeg), I1)) else (if a2 = 8 then (gd (inr a1 250) <| some ((A 357 a1.toNatClampNeg), I1)) else (gd (inr a1 250) <| some ((A 358 a1.toNatClampNeg), I1)))))))
noncomputable def f_X7_with (I : Nat → Nat → Int32) (A : Nat → Nat → Int32) (a1 : Int32) : Option (Int32 × (Nat → Nat → Int32) × (Nat → Nat → Int32)) := bd (up2 I 318 0 0) fun I1 => if (I1 318 57) = (-9) then (some (((-1) : Int32), I1, A)) else (gd (inr (I1 318 57) 5) <| if (I1 318 59) = (A 319 ((I1 318 57).toNatClampNeg)) then (some (((-1) : Int32), I1, A)) else (gd (inr ((6 * (I1 318 57)) + (I1 318 59)) 30) <| Option.bind (f_X7_in a1 0 ((A 321 (((6 * (I1 318 57)) + (I1 318 59)).toNatClampNeg)) - 1)) fun r6 => if r6 = 0 then (some (((-1) : Int32), I1, A)) else (gd (inr (I1 318 59) 6) <| bd (up2 A 362 ((I1 318 59).toNatClampNeg) a1) fun A10 => bd (up2 I1 318 59 ((I1 318 59) + 1)) fun I11 => some ((I11 318 59), I11, A10))))
