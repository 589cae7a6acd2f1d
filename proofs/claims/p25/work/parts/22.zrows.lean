theorem dX2_add_0 : decode cX2_add 0 = .ok (.aload_n 0, 1) := by decide +kernel
theorem dX2_add_1 : decode cX2_add 1 = .ok (.getfield 21, 3) := by decide +kernel
theorem dX2_add_4 : decode cX2_add 4 = .ok (.aload_n 0, 1) := by decide +kernel
theorem dX2_add_5 : decode cX2_add 5 = .ok (.getfield 18, 3) := by decide +kernel
theorem dX2_add_8 : decode cX2_add 8 = .ok (.iload_n 1, 1) := by decide +kernel
theorem dX2_add_9 : decode cX2_add 9 = .ok (.iastore, 1) := by decide +kernel
theorem dX2_add_10 : decode cX2_add 10 = .ok (.aload_n 0, 1) := by decide +kernel
theorem dX2_add_11 : decode cX2_add 11 = .ok (.getfield 25, 3) := by decide +kernel
theorem dX2_add_14 : decode cX2_add 14 = .ok (.aload_n 0, 1) := by decide +kernel
theorem dX2_add_15 : decode cX2_add 15 = .ok (.getfield 18, 3) := by decide +kernel
theorem dX2_add_18 : decode cX2_add 18 = .ok (.iload_n 2, 1) := by decide +kernel
theorem dX2_add_19 : decode cX2_add 19 = .ok (.iastore, 1) := by decide +kernel
theorem dX2_add_20 : decode cX2_add 20 = .ok (.aload_n 0, 1) := by decide +kernel
theorem dX2_add_21 : decode cX2_add 21 = .ok (.getfield 28, 3) := by decide +kernel
theorem dX2_add_24 : decode cX2_add 24 = .ok (.iload_n 1, 1) := by decide +kernel
theorem dX2_add_25 : decode cX2_add 25 = .ok (.iconst 1, 1) := by decide +kernel
theorem dX2_add_26 : decode cX2_add 26 = .ok (.bastore, 1) := by decide +kernel
theorem dX2_add_27 : decode cX2_add 27 = .ok (.aload_n 0, 1) := by decide +kernel
theorem dX2_add_28 : decode cX2_add 28 = .ok (.getfield 32, 3) := by decide +kernel
theorem dX2_add_31 : decode cX2_add 31 = .ok (.iload_n 1, 1) := by decide +kernel
theorem dX2_add_32 : decode cX2_add 32 = .ok (.iload_n 2, 1) := by decide +kernel
theorem dX2_add_33 : decode cX2_add 33 = .ok (.iastore, 1) := by decide +kernel
theorem dX2_add_34 : decode cX2_add 34 = .ok (.aload_n 0, 1) := by decide +kernel
theorem dX2_add_35 : decode cX2_add 35 = .ok (.dup, 1) := by decide +kernel
theorem dX2_add_36 : decode cX2_add 36 = .ok (.getfield 18, 3) := by decide +kernel
theorem dX2_add_39 : decode cX2_add 39 = .ok (.iconst 1, 1) := by decide +kernel
theorem dX2_add_40 : decode cX2_add 40 = .ok (.iadd, 1) := by decide +kernel
theorem dX2_add_41 : decode cX2_add 41 = .ok (.putfield 18, 3) := by decide +kernel
theorem dX2_add_44 : decode cX2_add 44 = .ok (.return_, 1) := by decide +kernel
theorem dX2_tell_0 : decode cX2_tell 0 = .ok (.iload_n 1, 1) := by decide +kernel
theorem dX2_tell_1 : decode cX2_tell 1 = .ok (.iconst 2, 1) := by decide +kernel
theorem dX2_tell_2 : decode cX2_tell 2 = .ok (.if_icmp .ne 8, 3) := by decide +kernel
theorem dX2_tell_5 : decode cX2_tell 5 = .ok (.aload_n 0, 1) := by decide +kernel
theorem dX2_tell_6 : decode cX2_tell 6 = .ok (.getfield 9, 3) := by decide +kernel
theorem dX2_tell_9 : decode cX2_tell 9 = .ok (.ireturn, 1) := by decide +kernel
theorem dX2_tell_10 : decode cX2_tell 10 = .ok (.iload_n 1, 1) := by decide +kernel
theorem dX2_tell_11 : decode cX2_tell 11 = .ok (.iconst 3, 1) := by decide +kernel
theorem dX2_tell_12 : decode cX2_tell 12 = .ok (.if_icmp .ne 10, 3) := by decide +kernel
theorem dX2_tell_15 : decode cX2_tell 15 = .ok (.aload_n 0, 1) := by decide +kernel
theorem dX2_tell_16 : decode cX2_tell 16 = .ok (.getfield 15, 3) := by decide +kernel
theorem dX2_tell_19 : decode cX2_tell 19 = .ok (.goto 7, 3) := by decide +kernel
theorem dX2_tell_22 : decode cX2_tell 22 = .ok (.aload_n 0, 1) := by decide +kernel
theorem dX2_tell_23 : decode cX2_tell 23 = .ok (.getfield 18, 3) := by decide +kernel
theorem dX2_tell_26 : decode cX2_tell 26 = .ok (.ireturn, 1) := by decide +kernel
set_option maxRecDepth 20000 in
theorem ggX2_isBroken_X2_isOverloaded : GoodIn wsX2_isBroken wsX2_isOverloaded := goodIn_g _ [(11, 6), (5, 1), (17, 1), (2, 1), (41, 7)] rfl (by decide +kernel)
set_option maxRecDepth 20000 in
theorem gX2_isBroken_X2_isOverloaded : GoodIn wsX2_isBroken (wsV RX2 35 RX2 yX2_isOverloaded wsX2_isOverloaded) := goodIn_app (goodIn_of _ (by decide +kernel)) ggX2_isBroken_X2_isOverloaded
set_option maxRecDepth 20000 in
theorem ggX2_isBroken_X2_leastSum : GoodIn wsX2_isBroken wsX2_leastSum := goodIn_g _ [(21, 1), (12, 5), (5, 1), (17, 1), (41, 7)] rfl (by decide +kernel)
set_option maxRecDepth 20000 in
theorem gX2_isBroken_X2_leastSum : GoodIn wsX2_isBroken (wsV RX2 39 RX2 yX2_leastSum wsX2_leastSum) := goodIn_app (goodIn_of _ (by decide +kernel)) ggX2_isBroken_X2_leastSum
set_option maxRecDepth 20000 in
theorem ggX2_isBroken_X2_greatestSum : GoodIn wsX2_isBroken wsX2_greatestSum := goodIn_g _ [(25, 1), (12, 3), (3, 4), (41, 7)] rfl (by decide +kernel)
set_option maxRecDepth 20000 in
theorem gX2_isBroken_X2_greatestSum : GoodIn wsX2_isBroken (wsV RX2 43 RX2 yX2_greatestSum wsX2_greatestSum) := goodIn_app (goodIn_of _ (by decide +kernel)) ggX2_isBroken_X2_greatestSum
set_option maxRecDepth 20000 in
theorem ggX2_isBroken_X2_hasNear : GoodIn wsX2_isBroken wsX2_hasNear := goodIn_g _ [(29, 1), (12, 2), (30, 2), (5, 1), (32, 1), (41, 7)] rfl (by decide +kernel)
set_option maxRecDepth 20000 in
theorem gX2_isBroken_X2_hasNear : GoodIn wsX2_isBroken (wsV RX2 46 RX2 yX2_hasNear wsX2_hasNear) := goodIn_app (goodIn_of _ (by decide +kernel)) ggX2_isBroken_X2_hasNear
set_option maxRecDepth 20000 in
theorem ggX2_isBroken_X2_hasStepBelow : GoodIn wsX2_isBroken wsX2_hasStepBelow := goodIn_g _ [(36, 1), (12, 2), (2, 1), (41, 7)] rfl (by decide +kernel)
set_option maxRecDepth 20000 in
theorem gX2_isBroken_X2_hasStepBelow : GoodIn wsX2_isBroken (wsV RX2 56 RX2 yX2_hasStepBelow wsX2_hasStepBelow) := goodIn_app (goodIn_of _ (by decide +kernel)) ggX2_isBroken_X2_hasStepBelow
set_option maxRecDepth 20000 in
theorem ggX2_isBroken_X2_willing : GoodIn wsX2_isBroken wsX2_willing := goodIn_g _ [(40, 1), (12, 3), (41, 7)] rfl (by decide +kernel)
set_option maxRecDepth 20000 in
theorem gX2_isBroken_X2_willing : GoodIn wsX2_isBroken (wsV RX2 59 RX2 yX2_willing wsX2_willing) := goodIn_app (goodIn_of _ (by decide +kernel)) ggX2_isBroken_X2_willing
theorem dX2_isBroken_0 : decode cX2_isBroken 0 = .ok (.aload_n 0, 1) := by decide +kernel
theorem dX2_isBroken_1 : decode cX2_isBroken 1 = .ok (.getfield 9, 3) := by decide +kernel
theorem dX2_isBroken_4 : decode cX2_isBroken 4 = .ok (.tableswitch 169 0 7 #[48, 54, 73, 92, 124, 131, 145, 151], 48) := by decide +kernel
theorem dX2_isBroken_52 : decode cX2_isBroken 52 = .ok (.aload_n 0, 1) := by decide +kernel
theorem dX2_isBroken_53 : decode cX2_isBroken 53 = .ok (.aload_n 1, 1) := by decide +kernel
theorem dX2_isBroken_54 : decode cX2_isBroken 54 = .ok (.invokevirtual 35, 3) := by decide +kernel
theorem dX2_isBroken_57 : decode cX2_isBroken 57 = .ok (.ireturn, 1) := by decide +kernel
theorem dX2_isBroken_58 : decode cX2_isBroken 58 = .ok (.aload_n 0, 1) := by decide +kernel
theorem dX2_isBroken_59 : decode cX2_isBroken 59 = .ok (.aload_n 1, 1) := by decide +kernel
theorem dX2_isBroken_60 : decode cX2_isBroken 60 = .ok (.aload_n 2, 1) := by decide +kernel
theorem dX2_isBroken_61 : decode cX2_isBroken 61 = .ok (.invokevirtual 39, 3) := by decide +kernel
theorem dX2_isBroken_64 : decode cX2_isBroken 64 = .ok (.aload_n 0, 1) := by decide +kernel
theorem dX2_isBroken_65 : decode cX2_isBroken 65 = .ok (.getfield 15, 3) := by decide +kernel
theorem dX2_isBroken_68 : decode cX2_isBroken 68 = .ok (.if_icmp .le 7, 3) := by decide +kernel
theorem dX2_isBroken_71 : decode cX2_isBroken 71 = .ok (.iconst 1, 1) := by decide +kernel
theorem dX2_isBroken_72 : decode cX2_isBroken 72 = .ok (.goto 4, 3) := by decide +kernel
theorem dX2_isBroken_75 : decode cX2_isBroken 75 = .ok (.iconst 0, 1) := by decide +kernel
theorem dX2_isBroken_76 : decode cX2_isBroken 76 = .ok (.ireturn, 1) := by decide +kernel
theorem dX2_isBroken_77 : decode cX2_isBroken 77 = .ok (.aload_n 0, 1) := by decide +kernel
theorem dX2_isBroken_78 : decode cX2_isBroken 78 = .ok (.aload_n 1, 1) := by decide +kernel
theorem dX2_isBroken_79 : decode cX2_isBroken 79 = .ok (.aload_n 2, 1) := by decide +kernel
theorem dX2_isBroken_80 : decode cX2_isBroken 80 = .ok (.invokevirtual 43, 3) := by decide +kernel
theorem dX2_isBroken_83 : decode cX2_isBroken 83 = .ok (.aload_n 0, 1) := by decide +kernel
theorem dX2_isBroken_84 : decode cX2_isBroken 84 = .ok (.getfield 15, 3) := by decide +kernel
theorem dX2_isBroken_87 : decode cX2_isBroken 87 = .ok (.if_icmp .ge 7, 3) := by decide +kernel
theorem dX2_isBroken_90 : decode cX2_isBroken 90 = .ok (.iconst 1, 1) := by decide +kernel
theorem dX2_isBroken_91 : decode cX2_isBroken 91 = .ok (.goto 4, 3) := by decide +kernel
theorem dX2_isBroken_94 : decode cX2_isBroken 94 = .ok (.iconst 0, 1) := by decide +kernel
theorem dX2_isBroken_95 : decode cX2_isBroken 95 = .ok (.ireturn, 1) := by decide +kernel
theorem dX2_isBroken_96 : decode cX2_isBroken 96 = .ok (.aload_n 0, 1) := by decide +kernel
theorem dX2_isBroken_97 : decode cX2_isBroken 97 = .ok (.aload_n 1, 1) := by decide +kernel
theorem dX2_isBroken_98 : decode cX2_isBroken 98 = .ok (.aload_n 2, 1) := by decide +kernel
theorem dX2_isBroken_99 : decode cX2_isBroken 99 = .ok (.invokevirtual 39, 3) := by decide +kernel
theorem dX2_isBroken_102 : decode cX2_isBroken 102 = .ok (.aload_n 0, 1) := by decide +kernel
theorem dX2_isBroken_103 : decode cX2_isBroken 103 = .ok (.getfield 15, 3) := by decide +kernel
theorem dX2_isBroken_106 : decode cX2_isBroken 106 = .ok (.if_icmp .gt 16, 3) := by decide +kernel
theorem dX2_isBroken_109 : decode cX2_isBroken 109 = .ok (.aload_n 0, 1) := by decide +kernel
theorem dX2_isBroken_110 : decode cX2_isBroken 110 = .ok (.aload_n 1, 1) := by decide +kernel
theorem dX2_isBroken_111 : decode cX2_isBroken 111 = .ok (.aload_n 2, 1) := by decide +kernel
theorem dX2_isBroken_112 : decode cX2_isBroken 112 = .ok (.invokevirtual 43, 3) := by decide +kernel
theorem dX2_isBroken_115 : decode cX2_isBroken 115 = .ok (.aload_n 0, 1) := by decide +kernel
theorem dX2_isBroken_116 : decode cX2_isBroken 116 = .ok (.getfield 15, 3) := by decide +kernel
theorem dX2_isBroken_119 : decode cX2_isBroken 119 = .ok (.if_icmp .ge 7, 3) := by decide +kernel
theorem dX2_isBroken_122 : decode cX2_isBroken 122 = .ok (.iconst 1, 1) := by decide +kernel
theorem dX2_isBroken_123 : decode cX2_isBroken 123 = .ok (.goto 4, 3) := by decide +kernel
theorem dX2_isBroken_126 : decode cX2_isBroken 126 = .ok (.iconst 0, 1) := by decide +kernel
theorem dX2_isBroken_127 : decode cX2_isBroken 127 = .ok (.ireturn, 1) := by decide +kernel
theorem dX2_isBroken_128 : decode cX2_isBroken 128 = .ok (.aload_n 0, 1) := by decide +kernel
theorem dX2_isBroken_129 : decode cX2_isBroken 129 = .ok (.aload_n 1, 1) := by decide +kernel
theorem dX2_isBroken_130 : decode cX2_isBroken 130 = .ok (.iconst 1, 1) := by decide +kernel
theorem dX2_isBroken_131 : decode cX2_isBroken 131 = .ok (.invokevirtual 46, 3) := by decide +kernel
theorem dX2_isBroken_134 : decode cX2_isBroken 134 = .ok (.ireturn, 1) := by decide +kernel
theorem dX2_isBroken_135 : decode cX2_isBroken 135 = .ok (.aload_n 0, 1) := by decide +kernel
theorem dX2_isBroken_136 : decode cX2_isBroken 136 = .ok (.aload_n 1, 1) := by decide +kernel
theorem dX2_isBroken_137 : decode cX2_isBroken 137 = .ok (.iconst 1, 1) := by decide +kernel
theorem dX2_isBroken_138 : decode cX2_isBroken 138 = .ok (.aload_n 0, 1) := by decide +kernel
theorem dX2_isBroken_139 : decode cX2_isBroken 139 = .ok (.getfield 15, 3) := by decide +kernel
theorem dX2_isBroken_142 : decode cX2_isBroken 142 = .ok (.invokestatic 50, 3) := by decide +kernel
theorem dX2_isBroken_145 : decode cX2_isBroken 145 = .ok (.invokevirtual 46, 3) := by decide +kernel
theorem dX2_isBroken_148 : decode cX2_isBroken 148 = .ok (.ireturn, 1) := by decide +kernel
theorem dX2_isBroken_149 : decode cX2_isBroken 149 = .ok (.aload_n 0, 1) := by decide +kernel
theorem dX2_isBroken_150 : decode cX2_isBroken 150 = .ok (.aload_n 1, 1) := by decide +kernel
theorem dX2_isBroken_151 : decode cX2_isBroken 151 = .ok (.invokevirtual 56, 3) := by decide +kernel
theorem dX2_isBroken_154 : decode cX2_isBroken 154 = .ok (.ireturn, 1) := by decide +kernel
theorem dX2_isBroken_155 : decode cX2_isBroken 155 = .ok (.aload_n 0, 1) := by decide +kernel
theorem dX2_isBroken_156 : decode cX2_isBroken 156 = .ok (.aload_n 1, 1) := by decide +kernel
theorem dX2_isBroken_157 : decode cX2_isBroken 157 = .ok (.invokevirtual 59, 3) := by decide +kernel
theorem dX2_isBroken_160 : decode cX2_isBroken 160 = .ok (.aload_n 0, 1) := by decide +kernel
theorem dX2_isBroken_161 : decode cX2_isBroken 161 = .ok (.getfield 15, 3) := by decide +kernel
theorem dX2_isBroken_164 : decode cX2_isBroken 164 = .ok (.if_icmp .ge 7, 3) := by decide +kernel
theorem dX2_isBroken_167 : decode cX2_isBroken 167 = .ok (.iconst 1, 1) := by decide +kernel
theorem dX2_isBroken_168 : decode cX2_isBroken 168 = .ok (.goto 4, 3) := by decide +kernel
theorem dX2_isBroken_171 : decode cX2_isBroken 171 = .ok (.iconst 0, 1) := by decide +kernel
theorem dX2_isBroken_172 : decode cX2_isBroken 172 = .ok (.ireturn, 1) := by decide +kernel
theorem dX2_isBroken_173 : decode cX2_isBroken 173 = .ok (.iconst 0, 1) := by decide +kernel
theorem dX2_isBroken_174 : decode cX2_isBroken 174 = .ok (.ireturn, 1) := by decide +kernel
theorem dX2_isOverloaded_0 : decode cX2_isOverloaded 0 = .ok (.iconst 0, 1) := by decide +kernel
theorem dX2_isOverloaded_1 : decode cX2_isOverloaded 1 = .ok (.istore_n 2, 1) := by decide +kernel
theorem dX2_isOverloaded_2 : decode cX2_isOverloaded 2 = .ok (.iconst 0, 1) := by decide +kernel
theorem dX2_isOverloaded_3 : decode cX2_isOverloaded 3 = .ok (.istore_n 3, 1) := by decide +kernel
theorem dX2_isOverloaded_4 : decode cX2_isOverloaded 4 = .ok (.iload_n 3, 1) := by decide +kernel
theorem dX2_isOverloaded_5 : decode cX2_isOverloaded 5 = .ok (.aload_n 0, 1) := by decide +kernel
theorem dX2_isOverloaded_6 : decode cX2_isOverloaded 6 = .ok (.getfield 18, 3) := by decide +kernel
theorem dX2_isOverloaded_9 : decode cX2_isOverloaded 9 = .ok (.if_icmp .ge 34, 3) := by decide +kernel
theorem dX2_isOverloaded_12 : decode cX2_isOverloaded 12 = .ok (.aload_n 1, 1) := by decide +kernel
theorem dX2_isOverloaded_13 : decode cX2_isOverloaded 13 = .ok (.aload_n 0, 1) := by decide +kernel
theorem dX2_isOverloaded_14 : decode cX2_isOverloaded 14 = .ok (.getfield 21, 3) := by decide +kernel
theorem dX2_isOverloaded_17 : decode cX2_isOverloaded 17 = .ok (.iload_n 3, 1) := by decide +kernel
theorem dX2_isOverloaded_18 : decode cX2_isOverloaded 18 = .ok (.iaload, 1) := by decide +kernel
theorem dX2_isOverloaded_19 : decode cX2_isOverloaded 19 = .ok (.iaload, 1) := by decide +kernel
theorem dX2_isOverloaded_20 : decode cX2_isOverloaded 20 = .ok (.iconst (-1), 1) := by decide +kernel
theorem dX2_isOverloaded_21 : decode cX2_isOverloaded 21 = .ok (.if_icmp .ne 16, 3) := by decide +kernel
theorem dX2_isOverloaded_24 : decode cX2_isOverloaded 24 = .ok (.iload_n 2, 1) := by decide +kernel
theorem dX2_isOverloaded_25 : decode cX2_isOverloaded 25 = .ok (.iconst 0, 1) := by decide +kernel
theorem dX2_isOverloaded_26 : decode cX2_isOverloaded 26 = .ok (.aload_n 0, 1) := by decide +kernel
theorem dX2_isOverloaded_27 : decode cX2_isOverloaded 27 = .ok (.getfield 25, 3) := by decide +kernel
theorem dX2_isOverloaded_30 : decode cX2_isOverloaded 30 = .ok (.iload_n 3, 1) := by decide +kernel
theorem dX2_isOverloaded_31 : decode cX2_isOverloaded 31 = .ok (.iaload, 1) := by decide +kernel
theorem dX2_isOverloaded_32 : decode cX2_isOverloaded 32 = .ok (.invokestatic 63, 3) := by decide +kernel
theorem dX2_isOverloaded_35 : decode cX2_isOverloaded 35 = .ok (.iadd, 1) := by decide +kernel
theorem dX2_isOverloaded_36 : decode cX2_isOverloaded 36 = .ok (.istore_n 2, 1) := by decide +kernel
theorem dX2_isOverloaded_37 : decode cX2_isOverloaded 37 = .ok (.iinc 3 1, 3) := by decide +kernel
theorem dX2_isOverloaded_40 : decode cX2_isOverloaded 40 = .ok (.goto (-36), 3) := by decide +kernel
theorem dX2_isOverloaded_43 : decode cX2_isOverloaded 43 = .ok (.iconst 0, 1) := by decide +kernel
theorem dX2_isOverloaded_44 : decode cX2_isOverloaded 44 = .ok (.istore_n 3, 1) := by decide +kernel
theorem dX2_isOverloaded_45 : decode cX2_isOverloaded 45 = .ok (.iload_n 3, 1) := by decide +kernel
theorem dX2_isOverloaded_46 : decode cX2_isOverloaded 46 = .ok (.bipush 6, 2) := by decide +kernel
theorem dX2_isOverloaded_48 : decode cX2_isOverloaded 48 = .ok (.if_icmp .ge 66, 3) := by decide +kernel
theorem dX2_isOverloaded_51 : decode cX2_isOverloaded 51 = .ok (.iload_n 2, 1) := by decide +kernel
theorem dX2_isOverloaded_52 : decode cX2_isOverloaded 52 = .ok (.istore 4, 2) := by decide +kernel
theorem dX2_isOverloaded_54 : decode cX2_isOverloaded 54 = .ok (.iconst 0, 1) := by decide +kernel
theorem dX2_isOverloaded_55 : decode cX2_isOverloaded 55 = .ok (.istore 5, 2) := by decide +kernel
theorem dX2_isOverloaded_57 : decode cX2_isOverloaded 57 = .ok (.iload 5, 2) := by decide +kernel
theorem dX2_isOverloaded_59 : decode cX2_isOverloaded 59 = .ok (.aload_n 0, 1) := by decide +kernel
theorem dX2_isOverloaded_60 : decode cX2_isOverloaded 60 = .ok (.getfield 18, 3) := by decide +kernel
theorem dX2_isOverloaded_63 : decode cX2_isOverloaded 63 = .ok (.if_icmp .ge 34, 3) := by decide +kernel
theorem dX2_isOverloaded_66 : decode cX2_isOverloaded 66 = .ok (.aload_n 1, 1) := by decide +kernel
theorem dX2_isOverloaded_67 : decode cX2_isOverloaded 67 = .ok (.aload_n 0, 1) := by decide +kernel
theorem dX2_isOverloaded_68 : decode cX2_isOverloaded 68 = .ok (.getfield 21, 3) := by decide +kernel
theorem dX2_isOverloaded_71 : decode cX2_isOverloaded 71 = .ok (.iload 5, 2) := by decide +kernel
theorem dX2_isOverloaded_73 : decode cX2_isOverloaded 73 = .ok (.iaload, 1) := by decide +kernel
theorem dX2_isOverloaded_74 : decode cX2_isOverloaded 74 = .ok (.iaload, 1) := by decide +kernel
theorem dX2_isOverloaded_75 : decode cX2_isOverloaded 75 = .ok (.iload_n 3, 1) := by decide +kernel
theorem dX2_isOverloaded_76 : decode cX2_isOverloaded 76 = .ok (.if_icmp .ne 15, 3) := by decide +kernel
theorem dX2_isOverloaded_79 : decode cX2_isOverloaded 79 = .ok (.iload 4, 2) := by decide +kernel
theorem dX2_isOverloaded_81 : decode cX2_isOverloaded 81 = .ok (.aload_n 0, 1) := by decide +kernel
theorem dX2_isOverloaded_82 : decode cX2_isOverloaded 82 = .ok (.getfield 25, 3) := by decide +kernel
theorem dX2_isOverloaded_85 : decode cX2_isOverloaded 85 = .ok (.iload 5, 2) := by decide +kernel
theorem dX2_isOverloaded_87 : decode cX2_isOverloaded 87 = .ok (.iaload, 1) := by decide +kernel
theorem dX2_isOverloaded_88 : decode cX2_isOverloaded 88 = .ok (.iadd, 1) := by decide +kernel
theorem dX2_isOverloaded_89 : decode cX2_isOverloaded 89 = .ok (.istore 4, 2) := by decide +kernel
theorem dX2_isOverloaded_91 : decode cX2_isOverloaded 91 = .ok (.iinc 5 1, 3) := by decide +kernel
theorem dX2_isOverloaded_94 : decode cX2_isOverloaded 94 = .ok (.goto (-37), 3) := by decide +kernel
theorem dX2_isOverloaded_97 : decode cX2_isOverloaded 97 = .ok (.iload 4, 2) := by decide +kernel
theorem dX2_isOverloaded_99 : decode cX2_isOverloaded 99 = .ok (.aload_n 0, 1) := by decide +kernel
theorem dX2_isOverloaded_100 : decode cX2_isOverloaded 100 = .ok (.getfield 15, 3) := by decide +kernel
theorem dX2_isOverloaded_103 : decode cX2_isOverloaded 103 = .ok (.if_icmp .le 5, 3) := by decide +kernel
theorem dX2_isOverloaded_106 : decode cX2_isOverloaded 106 = .ok (.iconst 1, 1) := by decide +kernel
theorem dX2_isOverloaded_107 : decode cX2_isOverloaded 107 = .ok (.ireturn, 1) := by decide +kernel
theorem dX2_isOverloaded_108 : decode cX2_isOverloaded 108 = .ok (.iinc 3 1, 3) := by decide +kernel
theorem dX2_isOverloaded_111 : decode cX2_isOverloaded 111 = .ok (.goto (-66), 3) := by decide +kernel
theorem dX2_isOverloaded_114 : decode cX2_isOverloaded 114 = .ok (.iconst 0, 1) := by decide +kernel
theorem dX2_isOverloaded_115 : decode cX2_isOverloaded 115 = .ok (.ireturn, 1) := by decide +kernel
theorem dX2_leastSum_0 : decode cX2_leastSum 0 = .ok (.iconst 0, 1) := by decide +kernel
theorem dX2_leastSum_1 : decode cX2_leastSum 1 = .ok (.istore_n 3, 1) := by decide +kernel
theorem dX2_leastSum_2 : decode cX2_leastSum 2 = .ok (.iconst 0, 1) := by decide +kernel
theorem dX2_leastSum_3 : decode cX2_leastSum 3 = .ok (.istore 4, 2) := by decide +kernel
theorem dX2_leastSum_5 : decode cX2_leastSum 5 = .ok (.iload 4, 2) := by decide +kernel
theorem dX2_leastSum_7 : decode cX2_leastSum 7 = .ok (.aload_n 0, 1) := by decide +kernel
theorem dX2_leastSum_8 : decode cX2_leastSum 8 = .ok (.getfield 18, 3) := by decide +kernel
theorem dX2_leastSum_11 : decode cX2_leastSum 11 = .ok (.if_icmp .ge 69, 3) := by decide +kernel
theorem dX2_leastSum_14 : decode cX2_leastSum 14 = .ok (.aload_n 1, 1) := by decide +kernel
theorem dX2_leastSum_15 : decode cX2_leastSum 15 = .ok (.aload_n 0, 1) := by decide +kernel
theorem dX2_leastSum_16 : decode cX2_leastSum 16 = .ok (.getfield 21, 3) := by decide +kernel
theorem dX2_leastSum_19 : decode cX2_leastSum 19 = .ok (.iload 4, 2) := by decide +kernel
theorem dX2_leastSum_21 : decode cX2_leastSum 21 = .ok (.iaload, 1) := by decide +kernel
theorem dX2_leastSum_22 : decode cX2_leastSum 22 = .ok (.iaload, 1) := by decide +kernel
theorem dX2_leastSum_23 : decode cX2_leastSum 23 = .ok (.istore 5, 2) := by decide +kernel
theorem dX2_leastSum_25 : decode cX2_leastSum 25 = .ok (.aload_n 2, 1) := by decide +kernel
theorem dX2_leastSum_26 : decode cX2_leastSum 26 = .ok (.aload_n 0, 1) := by decide +kernel
theorem dX2_leastSum_27 : decode cX2_leastSum 27 = .ok (.getfield 21, 3) := by decide +kernel
theorem dX2_leastSum_30 : decode cX2_leastSum 30 = .ok (.iload 4, 2) := by decide +kernel
theorem dX2_leastSum_32 : decode cX2_leastSum 32 = .ok (.iaload, 1) := by decide +kernel
theorem dX2_leastSum_33 : decode cX2_leastSum 33 = .ok (.iaload, 1) := by decide +kernel
theorem dX2_leastSum_34 : decode cX2_leastSum 34 = .ok (.iconst 1, 1) := by decide +kernel
theorem dX2_leastSum_35 : decode cX2_leastSum 35 = .ok (.isub, 1) := by decide +kernel
theorem dX2_leastSum_36 : decode cX2_leastSum 36 = .ok (.istore 6, 2) := by decide +kernel
theorem dX2_leastSum_38 : decode cX2_leastSum 38 = .ok (.iload_n 3, 1) := by decide +kernel
theorem dX2_leastSum_39 : decode cX2_leastSum 39 = .ok (.iload 5, 2) := by decide +kernel
theorem dX2_leastSum_41 : decode cX2_leastSum 41 = .ok (.iconst (-1), 1) := by decide +kernel
theorem dX2_leastSum_42 : decode cX2_leastSum 42 = .ok (.if_icmp .ne 20, 3) := by decide +kernel
theorem dX2_leastSum_45 : decode cX2_leastSum 45 = .ok (.iconst 0, 1) := by decide +kernel
theorem dX2_leastSum_46 : decode cX2_leastSum 46 = .ok (.aload_n 0, 1) := by decide +kernel
theorem dX2_leastSum_47 : decode cX2_leastSum 47 = .ok (.getfield 25, 3) := by decide +kernel
theorem dX2_leastSum_50 : decode cX2_leastSum 50 = .ok (.iload 4, 2) := by decide +kernel
theorem dX2_leastSum_52 : decode cX2_leastSum 52 = .ok (.iaload, 1) := by decide +kernel
theorem dX2_leastSum_53 : decode cX2_leastSum 53 = .ok (.iload 6, 2) := by decide +kernel
theorem dX2_leastSum_55 : decode cX2_leastSum 55 = .ok (.imul, 1) := by decide +kernel
theorem dX2_leastSum_56 : decode cX2_leastSum 56 = .ok (.invokestatic 63, 3) := by decide +kernel
theorem dX2_leastSum_59 : decode cX2_leastSum 59 = .ok (.goto 13, 3) := by decide +kernel
theorem dX2_leastSum_62 : decode cX2_leastSum 62 = .ok (.aload_n 0, 1) := by decide +kernel
theorem dX2_leastSum_63 : decode cX2_leastSum 63 = .ok (.getfield 25, 3) := by decide +kernel
theorem dX2_leastSum_66 : decode cX2_leastSum 66 = .ok (.iload 4, 2) := by decide +kernel
theorem dX2_leastSum_68 : decode cX2_leastSum 68 = .ok (.iaload, 1) := by decide +kernel
theorem dX2_leastSum_69 : decode cX2_leastSum 69 = .ok (.iload 5, 2) := by decide +kernel
theorem dX2_leastSum_71 : decode cX2_leastSum 71 = .ok (.imul, 1) := by decide +kernel
theorem dX2_leastSum_72 : decode cX2_leastSum 72 = .ok (.iadd, 1) := by decide +kernel
theorem dX2_leastSum_73 : decode cX2_leastSum 73 = .ok (.istore_n 3, 1) := by decide +kernel
theorem dX2_leastSum_74 : decode cX2_leastSum 74 = .ok (.iinc 4 1, 3) := by decide +kernel
theorem dX2_leastSum_77 : decode cX2_leastSum 77 = .ok (.goto (-72), 3) := by decide +kernel
theorem dX2_leastSum_80 : decode cX2_leastSum 80 = .ok (.iload_n 3, 1) := by decide +kernel
theorem dX2_leastSum_81 : decode cX2_leastSum 81 = .ok (.ireturn, 1) := by decide +kernel
theorem dX2_greatestSum_0 : decode cX2_greatestSum 0 = .ok (.iconst 0, 1) := by decide +kernel
theorem dX2_greatestSum_1 : decode cX2_greatestSum 1 = .ok (.istore_n 3, 1) := by decide +kernel
theorem dX2_greatestSum_2 : decode cX2_greatestSum 2 = .ok (.iconst 0, 1) := by decide +kernel
theorem dX2_greatestSum_3 : decode cX2_greatestSum 3 = .ok (.istore 4, 2) := by decide +kernel
theorem dX2_greatestSum_5 : decode cX2_greatestSum 5 = .ok (.iload 4, 2) := by decide +kernel
theorem dX2_greatestSum_7 : decode cX2_greatestSum 7 = .ok (.aload_n 0, 1) := by decide +kernel
theorem dX2_greatestSum_8 : decode cX2_greatestSum 8 = .ok (.getfield 18, 3) := by decide +kernel
theorem dX2_greatestSum_11 : decode cX2_greatestSum 11 = .ok (.if_icmp .ge 69, 3) := by decide +kernel
theorem dX2_greatestSum_14 : decode cX2_greatestSum 14 = .ok (.aload_n 1, 1) := by decide +kernel
theorem dX2_greatestSum_15 : decode cX2_greatestSum 15 = .ok (.aload_n 0, 1) := by decide +kernel
theorem dX2_greatestSum_16 : decode cX2_greatestSum 16 = .ok (.getfield 21, 3) := by decide +kernel
theorem dX2_greatestSum_19 : decode cX2_greatestSum 19 = .ok (.iload 4, 2) := by decide +kernel
theorem dX2_greatestSum_21 : decode cX2_greatestSum 21 = .ok (.iaload, 1) := by decide +kernel
theorem dX2_greatestSum_22 : decode cX2_greatestSum 22 = .ok (.iaload, 1) := by decide +kernel
theorem dX2_greatestSum_23 : decode cX2_greatestSum 23 = .ok (.istore 5, 2) := by decide +kernel
theorem dX2_greatestSum_25 : decode cX2_greatestSum 25 = .ok (.aload_n 2, 1) := by decide +kernel
theorem dX2_greatestSum_26 : decode cX2_greatestSum 26 = .ok (.aload_n 0, 1) := by decide +kernel
theorem dX2_greatestSum_27 : decode cX2_greatestSum 27 = .ok (.getfield 21, 3) := by decide +kernel
theorem dX2_greatestSum_30 : decode cX2_greatestSum 30 = .ok (.iload 4, 2) := by decide +kernel
theorem dX2_greatestSum_32 : decode cX2_greatestSum 32 = .ok (.iaload, 1) := by decide +kernel
theorem dX2_greatestSum_33 : decode cX2_greatestSum 33 = .ok (.iaload, 1) := by decide +kernel
theorem dX2_greatestSum_34 : decode cX2_greatestSum 34 = .ok (.iconst 1, 1) := by decide +kernel
theorem dX2_greatestSum_35 : decode cX2_greatestSum 35 = .ok (.isub, 1) := by decide +kernel
theorem dX2_greatestSum_36 : decode cX2_greatestSum 36 = .ok (.istore 6, 2) := by decide +kernel
theorem dX2_greatestSum_38 : decode cX2_greatestSum 38 = .ok (.iload_n 3, 1) := by decide +kernel
theorem dX2_greatestSum_39 : decode cX2_greatestSum 39 = .ok (.iload 5, 2) := by decide +kernel
theorem dX2_greatestSum_41 : decode cX2_greatestSum 41 = .ok (.iconst (-1), 1) := by decide +kernel
theorem dX2_greatestSum_42 : decode cX2_greatestSum 42 = .ok (.if_icmp .ne 20, 3) := by decide +kernel
theorem dX2_greatestSum_45 : decode cX2_greatestSum 45 = .ok (.iconst 0, 1) := by decide +kernel
theorem dX2_greatestSum_46 : decode cX2_greatestSum 46 = .ok (.aload_n 0, 1) := by decide +kernel
theorem dX2_greatestSum_47 : decode cX2_greatestSum 47 = .ok (.getfield 25, 3) := by decide +kernel
theorem dX2_greatestSum_50 : decode cX2_greatestSum 50 = .ok (.iload 4, 2) := by decide +kernel
theorem dX2_greatestSum_52 : decode cX2_greatestSum 52 = .ok (.iaload, 1) := by decide +kernel
theorem dX2_greatestSum_53 : decode cX2_greatestSum 53 = .ok (.iload 6, 2) := by decide +kernel
theorem dX2_greatestSum_55 : decode cX2_greatestSum 55 = .ok (.imul, 1) := by decide +kernel
theorem dX2_greatestSum_56 : decode cX2_greatestSum 56 = .ok (.invokestatic 50, 3) := by decide +kernel
theorem dX2_greatestSum_59 : decode cX2_greatestSum 59 = .ok (.goto 13, 3) := by decide +kernel
theorem dX2_greatestSum_62 : decode cX2_greatestSum 62 = .ok (.aload_n 0, 1) := by decide +kernel
theorem dX2_greatestSum_63 : decode cX2_greatestSum 63 = .ok (.getfield 25, 3) := by decide +kernel
theorem dX2_greatestSum_66 : decode cX2_greatestSum 66 = .ok (.iload 4, 2) := by decide +kernel
theorem dX2_greatestSum_68 : decode cX2_greatestSum 68 = .ok (.iaload, 1) := by decide +kernel
theorem dX2_greatestSum_69 : decode cX2_greatestSum 69 = .ok (.iload 5, 2) := by decide +kernel
theorem dX2_greatestSum_71 : decode cX2_greatestSum 71 = .ok (.imul, 1) := by decide +kernel
theorem dX2_greatestSum_72 : decode cX2_greatestSum 72 = .ok (.iadd, 1) := by decide +kernel
theorem dX2_greatestSum_73 : decode cX2_greatestSum 73 = .ok (.istore_n 3, 1) := by decide +kernel
theorem dX2_greatestSum_74 : decode cX2_greatestSum 74 = .ok (.iinc 4 1, 3) := by decide +kernel
theorem dX2_greatestSum_77 : decode cX2_greatestSum 77 = .ok (.goto (-72), 3) := by decide +kernel
theorem dX2_greatestSum_80 : decode cX2_greatestSum 80 = .ok (.iload_n 3, 1) := by decide +kernel
theorem dX2_greatestSum_81 : decode cX2_greatestSum 81 = .ok (.ireturn, 1) := by decide +kernel
theorem dX2_hasNear_0 : decode cX2_hasNear 0 = .ok (.iconst 0, 1) := by decide +kernel
theorem dX2_hasNear_1 : decode cX2_hasNear 1 = .ok (.istore_n 3, 1) := by decide +kernel
theorem dX2_hasNear_2 : decode cX2_hasNear 2 = .ok (.iload_n 3, 1) := by decide +kernel
theorem dX2_hasNear_3 : decode cX2_hasNear 3 = .ok (.aload_n 0, 1) := by decide +kernel
theorem dX2_hasNear_4 : decode cX2_hasNear 4 = .ok (.getfield 18, 3) := by decide +kernel
theorem dX2_hasNear_7 : decode cX2_hasNear 7 = .ok (.if_icmp .ge 76, 3) := by decide +kernel
theorem dX2_hasNear_10 : decode cX2_hasNear 10 = .ok (.aload_n 1, 1) := by decide +kernel
theorem dX2_hasNear_11 : decode cX2_hasNear 11 = .ok (.aload_n 0, 1) := by decide +kernel
theorem dX2_hasNear_12 : decode cX2_hasNear 12 = .ok (.getfield 21, 3) := by decide +kernel
theorem dX2_hasNear_15 : decode cX2_hasNear 15 = .ok (.iload_n 3, 1) := by decide +kernel
theorem dX2_hasNear_16 : decode cX2_hasNear 16 = .ok (.iaload, 1) := by decide +kernel
theorem dX2_hasNear_17 : decode cX2_hasNear 17 = .ok (.iaload, 1) := by decide +kernel
theorem dX2_hasNear_18 : decode cX2_hasNear 18 = .ok (.istore 4, 2) := by decide +kernel
theorem dX2_hasNear_20 : decode cX2_hasNear 20 = .ok (.iload_n 3, 1) := by decide +kernel
theorem dX2_hasNear_21 : decode cX2_hasNear 21 = .ok (.iconst 1, 1) := by decide +kernel
theorem dX2_hasNear_22 : decode cX2_hasNear 22 = .ok (.iadd, 1) := by decide +kernel
theorem dX2_hasNear_23 : decode cX2_hasNear 23 = .ok (.istore 5, 2) := by decide +kernel
theorem dX2_hasNear_25 : decode cX2_hasNear 25 = .ok (.iload 5, 2) := by decide +kernel
theorem dX2_hasNear_27 : decode cX2_hasNear 27 = .ok (.aload_n 0, 1) := by decide +kernel
theorem dX2_hasNear_28 : decode cX2_hasNear 28 = .ok (.getfield 18, 3) := by decide +kernel
theorem dX2_hasNear_31 : decode cX2_hasNear 31 = .ok (.if_icmp .ge 46, 3) := by decide +kernel
theorem dX2_hasNear_34 : decode cX2_hasNear 34 = .ok (.iload 4, 2) := by decide +kernel
theorem dX2_hasNear_36 : decode cX2_hasNear 36 = .ok (.iconst (-1), 1) := by decide +kernel
theorem dX2_hasNear_37 : decode cX2_hasNear 37 = .ok (.if_icmp .eq 40, 3) := by decide +kernel
theorem dX2_hasNear_40 : decode cX2_hasNear 40 = .ok (.aload_n 1, 1) := by decide +kernel
theorem dX2_hasNear_41 : decode cX2_hasNear 41 = .ok (.aload_n 0, 1) := by decide +kernel
theorem dX2_hasNear_42 : decode cX2_hasNear 42 = .ok (.getfield 21, 3) := by decide +kernel
theorem dX2_hasNear_45 : decode cX2_hasNear 45 = .ok (.iload 5, 2) := by decide +kernel
theorem dX2_hasNear_47 : decode cX2_hasNear 47 = .ok (.iaload, 1) := by decide +kernel
theorem dX2_hasNear_48 : decode cX2_hasNear 48 = .ok (.iaload, 1) := by decide +kernel
theorem dX2_hasNear_49 : decode cX2_hasNear 49 = .ok (.istore 6, 2) := by decide +kernel
theorem dX2_hasNear_51 : decode cX2_hasNear 51 = .ok (.iload 6, 2) := by decide +kernel
theorem dX2_hasNear_53 : decode cX2_hasNear 53 = .ok (.iconst (-1), 1) := by decide +kernel
theorem dX2_hasNear_54 : decode cX2_hasNear 54 = .ok (.if_icmp .eq 17, 3) := by decide +kernel
theorem dX2_hasNear_57 : decode cX2_hasNear 57 = .ok (.iload 4, 2) := by decide +kernel
theorem dX2_hasNear_59 : decode cX2_hasNear 59 = .ok (.iload 6, 2) := by decide +kernel
theorem dX2_hasNear_61 : decode cX2_hasNear 61 = .ok (.isub, 1) := by decide +kernel
theorem dX2_hasNear_62 : decode cX2_hasNear 62 = .ok (.invokestatic 66, 3) := by decide +kernel
theorem dX2_hasNear_65 : decode cX2_hasNear 65 = .ok (.iload_n 2, 1) := by decide +kernel
theorem dX2_hasNear_66 : decode cX2_hasNear 66 = .ok (.if_icmp .ge 5, 3) := by decide +kernel
theorem dX2_hasNear_69 : decode cX2_hasNear 69 = .ok (.iconst 1, 1) := by decide +kernel
theorem dX2_hasNear_70 : decode cX2_hasNear 70 = .ok (.ireturn, 1) := by decide +kernel
theorem dX2_hasNear_71 : decode cX2_hasNear 71 = .ok (.iinc 5 1, 3) := by decide +kernel
theorem dX2_hasNear_74 : decode cX2_hasNear 74 = .ok (.goto (-49), 3) := by decide +kernel
theorem dX2_hasNear_77 : decode cX2_hasNear 77 = .ok (.iinc 3 1, 3) := by decide +kernel
theorem dX2_hasNear_80 : decode cX2_hasNear 80 = .ok (.goto (-78), 3) := by decide +kernel
theorem dX2_hasNear_83 : decode cX2_hasNear 83 = .ok (.iconst 0, 1) := by decide +kernel
theorem dX2_hasNear_84 : decode cX2_hasNear 84 = .ok (.ireturn, 1) := by decide +kernel
theorem dX2_hasStepBelow_0 : decode cX2_hasStepBelow 0 = .ok (.iconst 1, 1) := by decide +kernel
theorem dX2_hasStepBelow_1 : decode cX2_hasStepBelow 1 = .ok (.istore_n 2, 1) := by decide +kernel
theorem dX2_hasStepBelow_2 : decode cX2_hasStepBelow 2 = .ok (.iload_n 2, 1) := by decide +kernel
theorem dX2_hasStepBelow_3 : decode cX2_hasStepBelow 3 = .ok (.aload_n 0, 1) := by decide +kernel
theorem dX2_hasStepBelow_4 : decode cX2_hasStepBelow 4 = .ok (.getfield 18, 3) := by decide +kernel
theorem dX2_hasStepBelow_7 : decode cX2_hasStepBelow 7 = .ok (.if_icmp .ge 54, 3) := by decide +kernel
theorem dX2_hasStepBelow_10 : decode cX2_hasStepBelow 10 = .ok (.aload_n 1, 1) := by decide +kernel
theorem dX2_hasStepBelow_11 : decode cX2_hasStepBelow 11 = .ok (.aload_n 0, 1) := by decide +kernel
theorem dX2_hasStepBelow_12 : decode cX2_hasStepBelow 12 = .ok (.getfield 21, 3) := by decide +kernel
theorem dX2_hasStepBelow_15 : decode cX2_hasStepBelow 15 = .ok (.iload_n 2, 1) := by decide +kernel
theorem dX2_hasStepBelow_16 : decode cX2_hasStepBelow 16 = .ok (.iconst 1, 1) := by decide +kernel
theorem dX2_hasStepBelow_17 : decode cX2_hasStepBelow 17 = .ok (.isub, 1) := by decide +kernel
theorem dX2_hasStepBelow_18 : decode cX2_hasStepBelow 18 = .ok (.iaload, 1) := by decide +kernel
theorem dX2_hasStepBelow_19 : decode cX2_hasStepBelow 19 = .ok (.iaload, 1) := by decide +kernel
theorem dX2_hasStepBelow_20 : decode cX2_hasStepBelow 20 = .ok (.istore_n 3, 1) := by decide +kernel
theorem dX2_hasStepBelow_21 : decode cX2_hasStepBelow 21 = .ok (.aload_n 1, 1) := by decide +kernel
theorem dX2_hasStepBelow_22 : decode cX2_hasStepBelow 22 = .ok (.aload_n 0, 1) := by decide +kernel
theorem dX2_hasStepBelow_23 : decode cX2_hasStepBelow 23 = .ok (.getfield 21, 3) := by decide +kernel
theorem dX2_hasStepBelow_26 : decode cX2_hasStepBelow 26 = .ok (.iload_n 2, 1) := by decide +kernel
theorem dX2_hasStepBelow_27 : decode cX2_hasStepBelow 27 = .ok (.iaload, 1) := by decide +kernel
theorem dX2_hasStepBelow_28 : decode cX2_hasStepBelow 28 = .ok (.iaload, 1) := by decide +kernel
theorem dX2_hasStepBelow_29 : decode cX2_hasStepBelow 29 = .ok (.istore 4, 2) := by decide +kernel
theorem dX2_hasStepBelow_31 : decode cX2_hasStepBelow 31 = .ok (.iload_n 3, 1) := by decide +kernel
theorem dX2_hasStepBelow_32 : decode cX2_hasStepBelow 32 = .ok (.iconst (-1), 1) := by decide +kernel
theorem dX2_hasStepBelow_33 : decode cX2_hasStepBelow 33 = .ok (.if_icmp .eq 22, 3) := by decide +kernel
theorem dX2_hasStepBelow_36 : decode cX2_hasStepBelow 36 = .ok (.iload 4, 2) := by decide +kernel
theorem dX2_hasStepBelow_38 : decode cX2_hasStepBelow 38 = .ok (.iconst (-1), 1) := by decide +kernel
theorem dX2_hasStepBelow_39 : decode cX2_hasStepBelow 39 = .ok (.if_icmp .eq 16, 3) := by decide +kernel
theorem dX2_hasStepBelow_42 : decode cX2_hasStepBelow 42 = .ok (.iload 4, 2) := by decide +kernel
theorem dX2_hasStepBelow_44 : decode cX2_hasStepBelow 44 = .ok (.iload_n 3, 1) := by decide +kernel
theorem dX2_hasStepBelow_45 : decode cX2_hasStepBelow 45 = .ok (.aload_n 0, 1) := by decide +kernel
theorem dX2_hasStepBelow_46 : decode cX2_hasStepBelow 46 = .ok (.getfield 15, 3) := by decide +kernel
theorem dX2_hasStepBelow_49 : decode cX2_hasStepBelow 49 = .ok (.iadd, 1) := by decide +kernel
theorem dX2_hasStepBelow_50 : decode cX2_hasStepBelow 50 = .ok (.if_icmp .ge 5, 3) := by decide +kernel
theorem dX2_hasStepBelow_53 : decode cX2_hasStepBelow 53 = .ok (.iconst 1, 1) := by decide +kernel
theorem dX2_hasStepBelow_54 : decode cX2_hasStepBelow 54 = .ok (.ireturn, 1) := by decide +kernel
theorem dX2_hasStepBelow_55 : decode cX2_hasStepBelow 55 = .ok (.iinc 2 1, 3) := by decide +kernel
theorem dX2_hasStepBelow_58 : decode cX2_hasStepBelow 58 = .ok (.goto (-56), 3) := by decide +kernel
theorem dX2_hasStepBelow_61 : decode cX2_hasStepBelow 61 = .ok (.iconst 0, 1) := by decide +kernel
theorem dX2_hasStepBelow_62 : decode cX2_hasStepBelow 62 = .ok (.ireturn, 1) := by decide +kernel
theorem dX2_willing_0 : decode cX2_willing 0 = .ok (.iconst 0, 1) := by decide +kernel
theorem dX2_willing_1 : decode cX2_willing 1 = .ok (.istore_n 2, 1) := by decide +kernel
theorem dX2_willing_2 : decode cX2_willing 2 = .ok (.iconst 0, 1) := by decide +kernel
theorem dX2_willing_3 : decode cX2_willing 3 = .ok (.istore_n 3, 1) := by decide +kernel
theorem dX2_willing_4 : decode cX2_willing 4 = .ok (.iload_n 3, 1) := by decide +kernel
theorem dX2_willing_5 : decode cX2_willing 5 = .ok (.aload_n 0, 1) := by decide +kernel
theorem dX2_willing_6 : decode cX2_willing 6 = .ok (.getfield 18, 3) := by decide +kernel
theorem dX2_willing_9 : decode cX2_willing 9 = .ok (.if_icmp .ge 39, 3) := by decide +kernel
theorem dX2_willing_12 : decode cX2_willing 12 = .ok (.aload_n 1, 1) := by decide +kernel
theorem dX2_willing_13 : decode cX2_willing 13 = .ok (.aload_n 0, 1) := by decide +kernel
theorem dX2_willing_14 : decode cX2_willing 14 = .ok (.getfield 21, 3) := by decide +kernel
theorem dX2_willing_17 : decode cX2_willing 17 = .ok (.iload_n 3, 1) := by decide +kernel
theorem dX2_willing_18 : decode cX2_willing 18 = .ok (.iaload, 1) := by decide +kernel
theorem dX2_willing_19 : decode cX2_willing 19 = .ok (.iaload, 1) := by decide +kernel
theorem dX2_willing_20 : decode cX2_willing 20 = .ok (.istore 4, 2) := by decide +kernel
theorem dX2_willing_22 : decode cX2_willing 22 = .ok (.iload 4, 2) := by decide +kernel
theorem dX2_willing_24 : decode cX2_willing 24 = .ok (.iconst (-1), 1) := by decide +kernel
theorem dX2_willing_25 : decode cX2_willing 25 = .ok (.if_icmp .eq 14, 3) := by decide +kernel
theorem dX2_willing_28 : decode cX2_willing 28 = .ok (.iload 4, 2) := by decide +kernel
theorem dX2_willing_30 : decode cX2_willing 30 = .ok (.aload_n 0, 1) := by decide +kernel
theorem dX2_willing_31 : decode cX2_willing 31 = .ok (.getfield 25, 3) := by decide +kernel
theorem dX2_willing_34 : decode cX2_willing 34 = .ok (.iload_n 3, 1) := by decide +kernel
theorem dX2_willing_35 : decode cX2_willing 35 = .ok (.iaload, 1) := by decide +kernel
theorem dX2_willing_36 : decode cX2_willing 36 = .ok (.if_icmp .ne 6, 3) := by decide +kernel
theorem dX2_willing_39 : decode cX2_willing 39 = .ok (.iinc 2 1, 3) := by decide +kernel
theorem dX2_willing_42 : decode cX2_willing 42 = .ok (.iinc 3 1, 3) := by decide +kernel
theorem dX2_willing_45 : decode cX2_willing 45 = .ok (.goto (-41), 3) := by decide +kernel
theorem dX2_willing_48 : decode cX2_willing 48 = .ok (.iload_n 2, 1) := by decide +kernel
theorem dX2_willing_49 : decode cX2_willing 49 = .ok (.ireturn, 1) := by decide +kernel
theorem dX2_treatsAlike_0 : decode cX2_treatsAlike 0 = .ok (.aload_n 0, 1) := by decide +kernel
theorem dX2_treatsAlike_1 : decode cX2_treatsAlike 1 = .ok (.getfield 28, 3) := by decide +kernel
theorem dX2_treatsAlike_4 : decode cX2_treatsAlike 4 = .ok (.iload_n 1, 1) := by decide +kernel
theorem dX2_treatsAlike_5 : decode cX2_treatsAlike 5 = .ok (.baload, 1) := by decide +kernel
theorem dX2_treatsAlike_6 : decode cX2_treatsAlike 6 = .ok (.ifCond .ne 14, 3) := by decide +kernel
theorem dX2_treatsAlike_9 : decode cX2_treatsAlike 9 = .ok (.aload_n 0, 1) := by decide +kernel
theorem dX2_treatsAlike_10 : decode cX2_treatsAlike 10 = .ok (.getfield 28, 3) := by decide +kernel
theorem dX2_treatsAlike_13 : decode cX2_treatsAlike 13 = .ok (.iload_n 2, 1) := by decide +kernel
theorem dX2_treatsAlike_14 : decode cX2_treatsAlike 14 = .ok (.baload, 1) := by decide +kernel
theorem dX2_treatsAlike_15 : decode cX2_treatsAlike 15 = .ok (.ifCond .ne 5, 3) := by decide +kernel
theorem dX2_treatsAlike_18 : decode cX2_treatsAlike 18 = .ok (.iconst 1, 1) := by decide +kernel
theorem dX2_treatsAlike_19 : decode cX2_treatsAlike 19 = .ok (.ireturn, 1) := by decide +kernel
theorem dX2_treatsAlike_20 : decode cX2_treatsAlike 20 = .ok (.aload_n 0, 1) := by decide +kernel
theorem dX2_treatsAlike_21 : decode cX2_treatsAlike 21 = .ok (.getfield 9, 3) := by decide +kernel
theorem dX2_treatsAlike_24 : decode cX2_treatsAlike 24 = .ok (.bipush 6, 2) := by decide +kernel
theorem dX2_treatsAlike_26 : decode cX2_treatsAlike 26 = .ok (.if_icmp .eq 40, 3) := by decide +kernel
theorem dX2_treatsAlike_29 : decode cX2_treatsAlike 29 = .ok (.aload_n 0, 1) := by decide +kernel
theorem dX2_treatsAlike_30 : decode cX2_treatsAlike 30 = .ok (.getfield 28, 3) := by decide +kernel
theorem dX2_treatsAlike_33 : decode cX2_treatsAlike 33 = .ok (.iload_n 1, 1) := by decide +kernel
theorem dX2_treatsAlike_34 : decode cX2_treatsAlike 34 = .ok (.baload, 1) := by decide +kernel
theorem dX2_treatsAlike_35 : decode cX2_treatsAlike 35 = .ok (.ifCond .eq 31, 3) := by decide +kernel
theorem dX2_treatsAlike_38 : decode cX2_treatsAlike 38 = .ok (.aload_n 0, 1) := by decide +kernel
theorem dX2_treatsAlike_39 : decode cX2_treatsAlike 39 = .ok (.getfield 28, 3) := by decide +kernel
theorem dX2_treatsAlike_42 : decode cX2_treatsAlike 42 = .ok (.iload_n 2, 1) := by decide +kernel
theorem dX2_treatsAlike_43 : decode cX2_treatsAlike 43 = .ok (.baload, 1) := by decide +kernel
theorem dX2_treatsAlike_44 : decode cX2_treatsAlike 44 = .ok (.ifCond .eq 22, 3) := by decide +kernel
theorem dX2_treatsAlike_47 : decode cX2_treatsAlike 47 = .ok (.aload_n 0, 1) := by decide +kernel
theorem dX2_treatsAlike_48 : decode cX2_treatsAlike 48 = .ok (.getfield 32, 3) := by decide +kernel
theorem dX2_treatsAlike_51 : decode cX2_treatsAlike 51 = .ok (.iload_n 1, 1) := by decide +kernel
theorem dX2_treatsAlike_52 : decode cX2_treatsAlike 52 = .ok (.iaload, 1) := by decide +kernel
theorem dX2_treatsAlike_53 : decode cX2_treatsAlike 53 = .ok (.aload_n 0, 1) := by decide +kernel
theorem dX2_treatsAlike_54 : decode cX2_treatsAlike 54 = .ok (.getfield 32, 3) := by decide +kernel
theorem dX2_treatsAlike_57 : decode cX2_treatsAlike 57 = .ok (.iload_n 2, 1) := by decide +kernel
theorem dX2_treatsAlike_58 : decode cX2_treatsAlike 58 = .ok (.iaload, 1) := by decide +kernel
theorem dX2_treatsAlike_59 : decode cX2_treatsAlike 59 = .ok (.if_icmp .ne 7, 3) := by decide +kernel
theorem dX2_treatsAlike_62 : decode cX2_treatsAlike 62 = .ok (.iconst 1, 1) := by decide +kernel
theorem dX2_treatsAlike_63 : decode cX2_treatsAlike 63 = .ok (.goto 4, 3) := by decide +kernel
theorem dX2_treatsAlike_66 : decode cX2_treatsAlike 66 = .ok (.iconst 0, 1) := by decide +kernel
theorem dX2_treatsAlike_67 : decode cX2_treatsAlike 67 = .ok (.ireturn, 1) := by decide +kernel
