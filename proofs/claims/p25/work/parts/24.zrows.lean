set_option maxRecDepth 20000 in
theorem ggX0_look_X1_firstBroken : GoodIn wsX0_look wsX1_firstBroken := goodIn_g _ [(11, 48), (85, 9), (97, 7)] rfl (by decide +kernel)
set_option maxRecDepth 20000 in
theorem gX0_look_X1_firstBroken : GoodIn wsX0_look (wsV RX0 22 RX1 yX1_firstBroken wsX1_firstBroken) := goodIn_app (goodIn_of _ (by decide +kernel)) ggX0_look_X1_firstBroken
set_option maxRecDepth 20000 in
theorem ggX0_look_X0_close : GoodIn wsX0_look wsX0_close := goodIn_g _ [(63, 1), (4, 2), (3, 1), (6, 1), (94, 3)] rfl (by decide +kernel)
set_option maxRecDepth 20000 in
theorem gX0_look_X0_close : GoodIn wsX0_look (wsV RX0 28 RX0 yX0_close wsX0_close) := goodIn_app (goodIn_of _ (by decide +kernel)) ggX0_look_X0_close
set_option maxRecDepth 20000 in
theorem ggX0_look_X1_firstTwin : GoodIn wsX0_look wsX1_firstTwin := goodIn_g _ [(67, 4), (10, 1), (71, 1), (14, 1), (72, 1), (12, 2), (73, 3), (18, 1), (76, 2), (20, 1), (78, 1), (85, 9), (97, 7)] rfl (by decide +kernel)
set_option maxRecDepth 20000 in
theorem gX0_look_X1_firstTwin : GoodIn wsX0_look (wsV RX0 32 RX1 yX1_firstTwin wsX1_firstTwin) := goodIn_app (goodIn_of _ (by decide +kernel)) ggX0_look_X1_firstTwin
set_option maxRecDepth 20000 in
theorem ggX0_look_X1_leastCost : GoodIn wsX0_look wsX1_leastCost := goodIn_g _ [(82, 2), (14, 1), (12, 2), (84, 1), (72, 1), (15, 44), (85, 9), (97, 7)] rfl (by decide +kernel)
set_option maxRecDepth 20000 in
theorem gX0_look_X1_leastCost : GoodIn wsX0_look (wsV RX0 43 RX1 yX1_leastCost wsX1_leastCost) := goodIn_app (goodIn_of _ (by decide +kernel)) ggX0_look_X1_leastCost
theorem dX0_look_0 : decode cX0_look 0 = .ok (.aload_n 1, 1) := by decide +kernel
theorem dX0_look_1 : decode cX0_look 1 = .ok (.aload_n 2, 1) := by decide +kernel
theorem dX0_look_2 : decode cX0_look 2 = .ok (.invokevirtual 22, 3) := by decide +kernel
theorem dX0_look_5 : decode cX0_look 5 = .ok (.istore 5, 2) := by decide +kernel
theorem dX0_look_7 : decode cX0_look 7 = .ok (.iload 5, 2) := by decide +kernel
theorem dX0_look_9 : decode cX0_look 9 = .ok (.bipush (-9), 2) := by decide +kernel
theorem dX0_look_11 : decode cX0_look 11 = .ok (.if_icmp .eq 11, 3) := by decide +kernel
theorem dX0_look_14 : decode cX0_look 14 = .ok (.aload_n 0, 1) := by decide +kernel
theorem dX0_look_15 : decode cX0_look 15 = .ok (.iconst 1, 1) := by decide +kernel
theorem dX0_look_16 : decode cX0_look 16 = .ok (.iload 5, 2) := by decide +kernel
theorem dX0_look_18 : decode cX0_look 18 = .ok (.invokevirtual 28, 3) := by decide +kernel
theorem dX0_look_21 : decode cX0_look 21 = .ok (.return_, 1) := by decide +kernel
theorem dX0_look_22 : decode cX0_look 22 = .ok (.iload 4, 2) := by decide +kernel
theorem dX0_look_24 : decode cX0_look 24 = .ok (.ifCond .eq 14, 3) := by decide +kernel
theorem dX0_look_27 : decode cX0_look 27 = .ok (.aload_n 1, 1) := by decide +kernel
theorem dX0_look_28 : decode cX0_look 28 = .ok (.aload_n 2, 1) := by decide +kernel
theorem dX0_look_29 : decode cX0_look 29 = .ok (.iload_n 3, 1) := by decide +kernel
theorem dX0_look_30 : decode cX0_look 30 = .ok (.iconst 1, 1) := by decide +kernel
theorem dX0_look_31 : decode cX0_look 31 = .ok (.isub, 1) := by decide +kernel
theorem dX0_look_32 : decode cX0_look 32 = .ok (.invokevirtual 32, 3) := by decide +kernel
theorem dX0_look_35 : decode cX0_look 35 = .ok (.goto 5, 3) := by decide +kernel
theorem dX0_look_38 : decode cX0_look 38 = .ok (.bipush (-9), 2) := by decide +kernel
theorem dX0_look_40 : decode cX0_look 40 = .ok (.istore 6, 2) := by decide +kernel
theorem dX0_look_42 : decode cX0_look 42 = .ok (.iload 6, 2) := by decide +kernel
theorem dX0_look_44 : decode cX0_look 44 = .ok (.bipush (-9), 2) := by decide +kernel
theorem dX0_look_46 : decode cX0_look 46 = .ok (.if_icmp .eq 11, 3) := by decide +kernel
theorem dX0_look_49 : decode cX0_look 49 = .ok (.aload_n 0, 1) := by decide +kernel
theorem dX0_look_50 : decode cX0_look 50 = .ok (.iconst 2, 1) := by decide +kernel
theorem dX0_look_51 : decode cX0_look 51 = .ok (.iload 6, 2) := by decide +kernel
theorem dX0_look_53 : decode cX0_look 53 = .ok (.invokevirtual 28, 3) := by decide +kernel
theorem dX0_look_56 : decode cX0_look 56 = .ok (.return_, 1) := by decide +kernel
theorem dX0_look_57 : decode cX0_look 57 = .ok (.iconst 0, 1) := by decide +kernel
theorem dX0_look_58 : decode cX0_look 58 = .ok (.istore 7, 2) := by decide +kernel
theorem dX0_look_60 : decode cX0_look 60 = .ok (.iconst 0, 1) := by decide +kernel
theorem dX0_look_61 : decode cX0_look 61 = .ok (.istore 8, 2) := by decide +kernel
theorem dX0_look_63 : decode cX0_look 63 = .ok (.iload 8, 2) := by decide +kernel
theorem dX0_look_65 : decode cX0_look 65 = .ok (.aload_n 1, 1) := by decide +kernel
theorem dX0_look_66 : decode cX0_look 66 = .ok (.getfield 36, 3) := by decide +kernel
theorem dX0_look_69 : decode cX0_look 69 = .ok (.if_icmp .ge 61, 3) := by decide +kernel
theorem dX0_look_72 : decode cX0_look 72 = .ok (.iload 8, 2) := by decide +kernel
theorem dX0_look_74 : decode cX0_look 74 = .ok (.iload_n 3, 1) := by decide +kernel
theorem dX0_look_75 : decode cX0_look 75 = .ok (.if_icmp .ge 18, 3) := by decide +kernel
theorem dX0_look_78 : decode cX0_look 78 = .ok (.aload_n 1, 1) := by decide +kernel
theorem dX0_look_79 : decode cX0_look 79 = .ok (.getfield 39, 3) := by decide +kernel
theorem dX0_look_82 : decode cX0_look 82 = .ok (.iload 8, 2) := by decide +kernel
theorem dX0_look_84 : decode cX0_look 84 = .ok (.aaload, 1) := by decide +kernel
theorem dX0_look_85 : decode cX0_look 85 = .ok (.aload_n 2, 1) := by decide +kernel
theorem dX0_look_86 : decode cX0_look 86 = .ok (.iload 8, 2) := by decide +kernel
theorem dX0_look_88 : decode cX0_look 88 = .ok (.iaload, 1) := by decide +kernel
theorem dX0_look_89 : decode cX0_look 89 = .ok (.iaload, 1) := by decide +kernel
theorem dX0_look_90 : decode cX0_look 90 = .ok (.goto 10, 3) := by decide +kernel
theorem dX0_look_93 : decode cX0_look 93 = .ok (.aload_n 1, 1) := by decide +kernel
theorem dX0_look_94 : decode cX0_look 94 = .ok (.aload_n 2, 1) := by decide +kernel
theorem dX0_look_95 : decode cX0_look 95 = .ok (.iload 8, 2) := by decide +kernel
theorem dX0_look_97 : decode cX0_look 97 = .ok (.invokevirtual 43, 3) := by decide +kernel
theorem dX0_look_100 : decode cX0_look 100 = .ok (.istore 9, 2) := by decide +kernel
theorem dX0_look_102 : decode cX0_look 102 = .ok (.iload 9, 2) := by decide +kernel
theorem dX0_look_104 : decode cX0_look 104 = .ok (.ldc 18, 2) := by decide +kernel
theorem dX0_look_106 : decode cX0_look 106 = .ok (.if_icmp .ne 11, 3) := by decide +kernel
theorem dX0_look_109 : decode cX0_look 109 = .ok (.aload_n 0, 1) := by decide +kernel
theorem dX0_look_110 : decode cX0_look 110 = .ok (.iconst 3, 1) := by decide +kernel
theorem dX0_look_111 : decode cX0_look 111 = .ok (.iload 8, 2) := by decide +kernel
theorem dX0_look_113 : decode cX0_look 113 = .ok (.invokevirtual 28, 3) := by decide +kernel
theorem dX0_look_116 : decode cX0_look 116 = .ok (.return_, 1) := by decide +kernel
theorem dX0_look_117 : decode cX0_look 117 = .ok (.iload 7, 2) := by decide +kernel
theorem dX0_look_119 : decode cX0_look 119 = .ok (.iload 9, 2) := by decide +kernel
theorem dX0_look_121 : decode cX0_look 121 = .ok (.iadd, 1) := by decide +kernel
theorem dX0_look_122 : decode cX0_look 122 = .ok (.istore 7, 2) := by decide +kernel
theorem dX0_look_124 : decode cX0_look 124 = .ok (.iinc 8 1, 3) := by decide +kernel
theorem dX0_look_127 : decode cX0_look 127 = .ok (.goto (-64), 3) := by decide +kernel
theorem dX0_look_130 : decode cX0_look 130 = .ok (.aload_n 0, 1) := by decide +kernel
theorem dX0_look_131 : decode cX0_look 131 = .ok (.iconst 0, 1) := by decide +kernel
theorem dX0_look_132 : decode cX0_look 132 = .ok (.putfield 9, 3) := by decide +kernel
theorem dX0_look_135 : decode cX0_look 135 = .ok (.aload_n 0, 1) := by decide +kernel
theorem dX0_look_136 : decode cX0_look 136 = .ok (.bipush (-9), 2) := by decide +kernel
theorem dX0_look_138 : decode cX0_look 138 = .ok (.putfield 15, 3) := by decide +kernel
theorem dX0_look_141 : decode cX0_look 141 = .ok (.aload_n 0, 1) := by decide +kernel
theorem dX0_look_142 : decode cX0_look 142 = .ok (.iload 7, 2) := by decide +kernel
theorem dX0_look_144 : decode cX0_look 144 = .ok (.putfield 19, 3) := by decide +kernel
theorem dX0_look_147 : decode cX0_look 147 = .ok (.return_, 1) := by decide +kernel
theorem dX0_close_0 : decode cX0_close 0 = .ok (.aload_n 0, 1) := by decide +kernel
theorem dX0_close_1 : decode cX0_close 1 = .ok (.iload_n 1, 1) := by decide +kernel
theorem dX0_close_2 : decode cX0_close 2 = .ok (.putfield 9, 3) := by decide +kernel
theorem dX0_close_5 : decode cX0_close 5 = .ok (.aload_n 0, 1) := by decide +kernel
theorem dX0_close_6 : decode cX0_close 6 = .ok (.iload_n 2, 1) := by decide +kernel
theorem dX0_close_7 : decode cX0_close 7 = .ok (.putfield 15, 3) := by decide +kernel
theorem dX0_close_10 : decode cX0_close 10 = .ok (.aload_n 0, 1) := by decide +kernel
theorem dX0_close_11 : decode cX0_close 11 = .ok (.ldc 18, 2) := by decide +kernel
theorem dX0_close_13 : decode cX0_close 13 = .ok (.putfield 19, 3) := by decide +kernel
theorem dX0_close_16 : decode cX0_close 16 = .ok (.return_, 1) := by decide +kernel
