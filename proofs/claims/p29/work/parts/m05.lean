/-! part 39.zrows -/
theorem dX6_problem_0 : decode cX6_problem 0 = .ok (.aload_n 0, 1) := by decide +kernel
theorem dX6_problem_1 : decode cX6_problem 1 = .ok (.getfield 29, 3) := by decide +kernel
theorem dX6_problem_4 : decode cX6_problem 4 = .ok (.bipush (-9), 2) := by decide +kernel
theorem dX6_problem_6 : decode cX6_problem 6 = .ok (.if_icmp .eq 6, 3) := by decide +kernel
theorem dX6_problem_9 : decode cX6_problem 9 = .ok (.bipush (-2), 2) := by decide +kernel
theorem dX6_problem_11 : decode cX6_problem 11 = .ok (.ireturn, 1) := by decide +kernel
theorem dX6_problem_12 : decode cX6_problem 12 = .ok (.aload_n 0, 1) := by decide +kernel
theorem dX6_problem_13 : decode cX6_problem 13 = .ok (.getfield 15, 3) := by decide +kernel
theorem dX6_problem_16 : decode cX6_problem 16 = .ok (.iconst 5, 1) := by decide +kernel
theorem dX6_problem_17 : decode cX6_problem 17 = .ok (.if_icmp .lt 6, 3) := by decide +kernel
theorem dX6_problem_20 : decode cX6_problem 20 = .ok (.bipush (-3), 2) := by decide +kernel
theorem dX6_problem_22 : decode cX6_problem 22 = .ok (.ireturn, 1) := by decide +kernel
theorem dX6_problem_23 : decode cX6_problem 23 = .ok (.aload_n 0, 1) := by decide +kernel
theorem dX6_problem_24 : decode cX6_problem 24 = .ok (.dup, 1) := by decide +kernel
theorem dX6_problem_25 : decode cX6_problem 25 = .ok (.getfield 15, 3) := by decide +kernel
theorem dX6_problem_28 : decode cX6_problem 28 = .ok (.dup_x1, 1) := by decide +kernel
theorem dX6_problem_29 : decode cX6_problem 29 = .ok (.iconst 1, 1) := by decide +kernel
theorem dX6_problem_30 : decode cX6_problem 30 = .ok (.iadd, 1) := by decide +kernel
theorem dX6_problem_31 : decode cX6_problem 31 = .ok (.putfield 15, 3) := by decide +kernel
theorem dX6_problem_34 : decode cX6_problem 34 = .ok (.ireturn, 1) := by decide +kernel
set_option maxRecDepth 20000 in
theorem ggX6_helpers_X6_isWithin : GoodIn wsX6_helpers wsX6_isWithin := goodIn_g _ [(7, 1)] rfl (by decide +kernel)
set_option maxRecDepth 20000 in
theorem gX6_helpers_X6_isWithin : GoodIn wsX6_helpers (va_wsS RX6 99 yX6_isWithin wsX6_isWithin) := goodIn_app (goodIn_of _ (by decide +kernel)) ggX6_helpers_X6_isWithin
set_option maxRecDepth 20000 in
theorem ggX6_helpers_X4_become : GoodIn wsX6_helpers wsX4_become := goodIn_g _ [(12, 7), (37, 7)] rfl (by decide +kernel)
set_option maxRecDepth 20000 in
theorem gX6_helpers_X4_become : GoodIn wsX6_helpers (wsV RX6 161 RX4 yX4_become wsX4_become) := goodIn_app (goodIn_of _ (by decide +kernel)) ggX6_helpers_X4_become
theorem dX6_helpers_0 : decode cX6_helpers 0 = .ok (.iload_n 1, 1) := by decide +kernel
theorem dX6_helpers_1 : decode cX6_helpers 1 = .ok (.iconst 1, 1) := by decide +kernel
theorem dX6_helpers_2 : decode cX6_helpers 2 = .ok (.iconst 5, 1) := by decide +kernel
theorem dX6_helpers_3 : decode cX6_helpers 3 = .ok (.invokestatic 99, 3) := by decide +kernel
theorem dX6_helpers_6 : decode cX6_helpers 6 = .ok (.ifCond .ne 5, 3) := by decide +kernel
theorem dX6_helpers_9 : decode cX6_helpers 9 = .ok (.iconst (-1), 1) := by decide +kernel
theorem dX6_helpers_10 : decode cX6_helpers 10 = .ok (.ireturn, 1) := by decide +kernel
theorem dX6_helpers_11 : decode cX6_helpers 11 = .ok (.aload_n 0, 1) := by decide +kernel
theorem dX6_helpers_12 : decode cX6_helpers 12 = .ok (.getfield 29, 3) := by decide +kernel
theorem dX6_helpers_15 : decode cX6_helpers 15 = .ok (.bipush (-9), 2) := by decide +kernel
theorem dX6_helpers_17 : decode cX6_helpers 17 = .ok (.if_icmp .eq 6, 3) := by decide +kernel
theorem dX6_helpers_20 : decode cX6_helpers 20 = .ok (.bipush (-2), 2) := by decide +kernel
theorem dX6_helpers_22 : decode cX6_helpers 22 = .ok (.ireturn, 1) := by decide +kernel
theorem dX6_helpers_23 : decode cX6_helpers 23 = .ok (.aload_n 0, 1) := by decide +kernel
theorem dX6_helpers_24 : decode cX6_helpers 24 = .ok (.getfield 22, 3) := by decide +kernel
theorem dX6_helpers_27 : decode cX6_helpers 27 = .ok (.getfield 158, 3) := by decide +kernel
theorem dX6_helpers_30 : decode cX6_helpers 30 = .ok (.istore_n 2, 1) := by decide +kernel
theorem dX6_helpers_31 : decode cX6_helpers 31 = .ok (.aload_n 0, 1) := by decide +kernel
theorem dX6_helpers_32 : decode cX6_helpers 32 = .ok (.getfield 22, 3) := by decide +kernel
theorem dX6_helpers_35 : decode cX6_helpers 35 = .ok (.iload_n 1, 1) := by decide +kernel
theorem dX6_helpers_36 : decode cX6_helpers 36 = .ok (.invokevirtual 161, 3) := by decide +kernel
theorem dX6_helpers_39 : decode cX6_helpers 39 = .ok (.iload_n 2, 1) := by decide +kernel
theorem dX6_helpers_40 : decode cX6_helpers 40 = .ok (.ireturn, 1) := by decide +kernel
set_option maxRecDepth 20000 in
theorem ggX6_fail_X6_isWithin : GoodIn wsX6_fail wsX6_isWithin := goodIn_g _ [(8, 1)] rfl (by decide +kernel)
set_option maxRecDepth 20000 in
theorem gX6_fail_X6_isWithin : GoodIn wsX6_fail (va_wsS RX6 99 yX6_isWithin wsX6_isWithin) := goodIn_app (goodIn_of _ (by decide +kernel)) ggX6_fail_X6_isWithin
theorem dX6_fail_0 : decode cX6_fail 0 = .ok (.iload_n 1, 1) := by decide +kernel
theorem dX6_fail_1 : decode cX6_fail 1 = .ok (.iconst 0, 1) := by decide +kernel
theorem dX6_fail_2 : decode cX6_fail 2 = .ok (.aload_n 0, 1) := by decide +kernel
theorem dX6_fail_3 : decode cX6_fail 3 = .ok (.getfield 22, 3) := by decide +kernel
theorem dX6_fail_6 : decode cX6_fail 6 = .ok (.getfield 158, 3) := by decide +kernel
theorem dX6_fail_9 : decode cX6_fail 9 = .ok (.iconst 1, 1) := by decide +kernel
theorem dX6_fail_10 : decode cX6_fail 10 = .ok (.isub, 1) := by decide +kernel
theorem dX6_fail_11 : decode cX6_fail 11 = .ok (.invokestatic 99, 3) := by decide +kernel
theorem dX6_fail_14 : decode cX6_fail 14 = .ok (.ifCond .eq 14, 3) := by decide +kernel
theorem dX6_fail_17 : decode cX6_fail 17 = .ok (.iload_n 2, 1) := by decide +kernel
theorem dX6_fail_18 : decode cX6_fail 18 = .ok (.iconst 0, 1) := by decide +kernel
theorem dX6_fail_19 : decode cX6_fail 19 = .ok (.sipush 200, 3) := by decide +kernel
theorem dX6_fail_22 : decode cX6_fail 22 = .ok (.invokestatic 99, 3) := by decide +kernel
theorem dX6_fail_25 : decode cX6_fail 25 = .ok (.ifCond .ne 5, 3) := by decide +kernel
theorem dX6_fail_28 : decode cX6_fail 28 = .ok (.iconst (-1), 1) := by decide +kernel
theorem dX6_fail_29 : decode cX6_fail 29 = .ok (.ireturn, 1) := by decide +kernel
theorem dX6_fail_30 : decode cX6_fail 30 = .ok (.aload_n 0, 1) := by decide +kernel
theorem dX6_fail_31 : decode cX6_fail 31 = .ok (.getfield 29, 3) := by decide +kernel
theorem dX6_fail_34 : decode cX6_fail 34 = .ok (.bipush (-9), 2) := by decide +kernel
theorem dX6_fail_36 : decode cX6_fail 36 = .ok (.if_icmp .eq 6, 3) := by decide +kernel
theorem dX6_fail_39 : decode cX6_fail 39 = .ok (.bipush (-2), 2) := by decide +kernel
theorem dX6_fail_41 : decode cX6_fail 41 = .ok (.ireturn, 1) := by decide +kernel
theorem dX6_fail_42 : decode cX6_fail 42 = .ok (.aload_n 0, 1) := by decide +kernel
theorem dX6_fail_43 : decode cX6_fail 43 = .ok (.getfield 22, 3) := by decide +kernel
theorem dX6_fail_46 : decode cX6_fail 46 = .ok (.getfield 165, 3) := by decide +kernel
theorem dX6_fail_49 : decode cX6_fail 49 = .ok (.iload_n 1, 1) := by decide +kernel
theorem dX6_fail_50 : decode cX6_fail 50 = .ok (.iload_n 2, 1) := by decide +kernel
theorem dX6_fail_51 : decode cX6_fail 51 = .ok (.iastore, 1) := by decide +kernel
theorem dX6_fail_52 : decode cX6_fail 52 = .ok (.iconst 1, 1) := by decide +kernel
theorem dX6_fail_53 : decode cX6_fail 53 = .ok (.ireturn, 1) := by decide +kernel
set_option maxRecDepth 20000 in
theorem ggX6_turn_X6_isWithin : GoodIn wsX6_turn wsX6_isWithin := goodIn_g _ [(8, 1)] rfl (by decide +kernel)
set_option maxRecDepth 20000 in
theorem gX6_turn_X6_isWithin : GoodIn wsX6_turn (va_wsS RX6 99 yX6_isWithin wsX6_isWithin) := goodIn_app (goodIn_of _ (by decide +kernel)) ggX6_turn_X6_isWithin
theorem dX6_turn_0 : decode cX6_turn 0 = .ok (.iload_n 1, 1) := by decide +kernel
theorem dX6_turn_1 : decode cX6_turn 1 = .ok (.iconst 0, 1) := by decide +kernel
theorem dX6_turn_2 : decode cX6_turn 2 = .ok (.iconst 4, 1) := by decide +kernel
theorem dX6_turn_3 : decode cX6_turn 3 = .ok (.invokestatic 99, 3) := by decide +kernel
theorem dX6_turn_6 : decode cX6_turn 6 = .ok (.ifCond .ne 5, 3) := by decide +kernel
theorem dX6_turn_9 : decode cX6_turn 9 = .ok (.iconst (-1), 1) := by decide +kernel
theorem dX6_turn_10 : decode cX6_turn 10 = .ok (.ireturn, 1) := by decide +kernel
theorem dX6_turn_11 : decode cX6_turn 11 = .ok (.aload_n 0, 1) := by decide +kernel
theorem dX6_turn_12 : decode cX6_turn 12 = .ok (.getfield 29, 3) := by decide +kernel
theorem dX6_turn_15 : decode cX6_turn 15 = .ok (.bipush (-9), 2) := by decide +kernel
theorem dX6_turn_17 : decode cX6_turn 17 = .ok (.if_icmp .eq 6, 3) := by decide +kernel
theorem dX6_turn_20 : decode cX6_turn 20 = .ok (.bipush (-2), 2) := by decide +kernel
theorem dX6_turn_22 : decode cX6_turn 22 = .ok (.ireturn, 1) := by decide +kernel
theorem dX6_turn_23 : decode cX6_turn 23 = .ok (.aload_n 0, 1) := by decide +kernel
theorem dX6_turn_24 : decode cX6_turn 24 = .ok (.getfield 22, 3) := by decide +kernel
theorem dX6_turn_27 : decode cX6_turn 27 = .ok (.getfield 168, 3) := by decide +kernel
theorem dX6_turn_30 : decode cX6_turn 30 = .ok (.sipush 200, 3) := by decide +kernel
theorem dX6_turn_33 : decode cX6_turn 33 = .ok (.if_icmp .lt 6, 3) := by decide +kernel
theorem dX6_turn_36 : decode cX6_turn 36 = .ok (.bipush (-3), 2) := by decide +kernel
theorem dX6_turn_38 : decode cX6_turn 38 = .ok (.ireturn, 1) := by decide +kernel
theorem dX6_turn_39 : decode cX6_turn 39 = .ok (.aload_n 0, 1) := by decide +kernel
theorem dX6_turn_40 : decode cX6_turn 40 = .ok (.getfield 22, 3) := by decide +kernel
theorem dX6_turn_43 : decode cX6_turn 43 = .ok (.getfield 171, 3) := by decide +kernel
theorem dX6_turn_46 : decode cX6_turn 46 = .ok (.aload_n 0, 1) := by decide +kernel
theorem dX6_turn_47 : decode cX6_turn 47 = .ok (.getfield 22, 3) := by decide +kernel
theorem dX6_turn_50 : decode cX6_turn 50 = .ok (.getfield 168, 3) := by decide +kernel
theorem dX6_turn_53 : decode cX6_turn 53 = .ok (.iload_n 1, 1) := by decide +kernel
theorem dX6_turn_54 : decode cX6_turn 54 = .ok (.iastore, 1) := by decide +kernel
theorem dX6_turn_55 : decode cX6_turn 55 = .ok (.aload_n 0, 1) := by decide +kernel
theorem dX6_turn_56 : decode cX6_turn 56 = .ok (.getfield 22, 3) := by decide +kernel
theorem dX6_turn_59 : decode cX6_turn 59 = .ok (.dup, 1) := by decide +kernel
theorem dX6_turn_60 : decode cX6_turn 60 = .ok (.getfield 168, 3) := by decide +kernel
theorem dX6_turn_63 : decode cX6_turn 63 = .ok (.iconst 1, 1) := by decide +kernel
theorem dX6_turn_64 : decode cX6_turn 64 = .ok (.iadd, 1) := by decide +kernel
theorem dX6_turn_65 : decode cX6_turn 65 = .ok (.putfield 168, 3) := by decide +kernel
theorem dX6_turn_68 : decode cX6_turn 68 = .ok (.aload_n 0, 1) := by decide +kernel
theorem dX6_turn_69 : decode cX6_turn 69 = .ok (.getfield 22, 3) := by decide +kernel
theorem dX6_turn_72 : decode cX6_turn 72 = .ok (.getfield 168, 3) := by decide +kernel
theorem dX6_turn_75 : decode cX6_turn 75 = .ok (.ireturn, 1) := by decide +kernel
theorem dX6_plain_0 : decode cX6_plain 0 = .ok (.aload_n 0, 1) := by decide +kernel
theorem dX6_plain_1 : decode cX6_plain 1 = .ok (.getfield 29, 3) := by decide +kernel
theorem dX6_plain_4 : decode cX6_plain 4 = .ok (.bipush (-9), 2) := by decide +kernel
theorem dX6_plain_6 : decode cX6_plain 6 = .ok (.if_icmp .eq 6, 3) := by decide +kernel
theorem dX6_plain_9 : decode cX6_plain 9 = .ok (.bipush (-2), 2) := by decide +kernel
theorem dX6_plain_11 : decode cX6_plain 11 = .ok (.ireturn, 1) := by decide +kernel
theorem dX6_plain_12 : decode cX6_plain 12 = .ok (.aload_n 0, 1) := by decide +kernel
theorem dX6_plain_13 : decode cX6_plain 13 = .ok (.getfield 22, 3) := by decide +kernel
theorem dX6_plain_16 : decode cX6_plain 16 = .ok (.getfield 168, 3) := by decide +kernel
theorem dX6_plain_19 : decode cX6_plain 19 = .ok (.istore_n 1, 1) := by decide +kernel
theorem dX6_plain_20 : decode cX6_plain 20 = .ok (.aload_n 0, 1) := by decide +kernel
theorem dX6_plain_21 : decode cX6_plain 21 = .ok (.getfield 22, 3) := by decide +kernel
theorem dX6_plain_24 : decode cX6_plain 24 = .ok (.iconst 0, 1) := by decide +kernel
theorem dX6_plain_25 : decode cX6_plain 25 = .ok (.putfield 168, 3) := by decide +kernel
theorem dX6_plain_28 : decode cX6_plain 28 = .ok (.iload_n 1, 1) := by decide +kernel
theorem dX6_plain_29 : decode cX6_plain 29 = .ok (.ireturn, 1) := by decide +kernel
set_option maxRecDepth 20000 in
theorem ggX6_limit_X6_isWithin : GoodIn wsX6_limit wsX6_isWithin := goodIn_g _ [(6, 1)] rfl (by decide +kernel)
set_option maxRecDepth 20000 in
theorem gX6_limit_X6_isWithin : GoodIn wsX6_limit (va_wsS RX6 99 yX6_isWithin wsX6_isWithin) := goodIn_app (goodIn_of _ (by decide +kernel)) ggX6_limit_X6_isWithin
theorem dX6_limit_0 : decode cX6_limit 0 = .ok (.iload_n 1, 1) := by decide +kernel
theorem dX6_limit_1 : decode cX6_limit 1 = .ok (.iconst 0, 1) := by decide +kernel
theorem dX6_limit_2 : decode cX6_limit 2 = .ok (.sipush 1000, 3) := by decide +kernel
theorem dX6_limit_5 : decode cX6_limit 5 = .ok (.invokestatic 99, 3) := by decide +kernel
theorem dX6_limit_8 : decode cX6_limit 8 = .ok (.ifCond .ne 5, 3) := by decide +kernel
theorem dX6_limit_11 : decode cX6_limit 11 = .ok (.iconst (-1), 1) := by decide +kernel
theorem dX6_limit_12 : decode cX6_limit 12 = .ok (.ireturn, 1) := by decide +kernel
theorem dX6_limit_13 : decode cX6_limit 13 = .ok (.aload_n 0, 1) := by decide +kernel
theorem dX6_limit_14 : decode cX6_limit 14 = .ok (.getfield 29, 3) := by decide +kernel
theorem dX6_limit_17 : decode cX6_limit 17 = .ok (.bipush (-9), 2) := by decide +kernel
theorem dX6_limit_19 : decode cX6_limit 19 = .ok (.if_icmp .eq 6, 3) := by decide +kernel
theorem dX6_limit_22 : decode cX6_limit 22 = .ok (.bipush (-2), 2) := by decide +kernel
theorem dX6_limit_24 : decode cX6_limit 24 = .ok (.ireturn, 1) := by decide +kernel
theorem dX6_limit_25 : decode cX6_limit 25 = .ok (.aload_n 0, 1) := by decide +kernel
theorem dX6_limit_26 : decode cX6_limit 26 = .ok (.getfield 26, 3) := by decide +kernel
theorem dX6_limit_29 : decode cX6_limit 29 = .ok (.istore_n 2, 1) := by decide +kernel
theorem dX6_limit_30 : decode cX6_limit 30 = .ok (.aload_n 0, 1) := by decide +kernel
theorem dX6_limit_31 : decode cX6_limit 31 = .ok (.iload_n 1, 1) := by decide +kernel
theorem dX6_limit_32 : decode cX6_limit 32 = .ok (.putfield 26, 3) := by decide +kernel
theorem dX6_limit_35 : decode cX6_limit 35 = .ok (.iload_n 2, 1) := by decide +kernel
theorem dX6_limit_36 : decode cX6_limit 36 = .ok (.ireturn, 1) := by decide +kernel
theorem dX6_giveUp_0 : decode cX6_giveUp 0 = .ok (.aload_n 0, 1) := by decide +kernel
theorem dX6_giveUp_1 : decode cX6_giveUp 1 = .ok (.getfield 29, 3) := by decide +kernel
theorem dX6_giveUp_4 : decode cX6_giveUp 4 = .ok (.bipush (-9), 2) := by decide +kernel
theorem dX6_giveUp_6 : decode cX6_giveUp 6 = .ok (.if_icmp .ne 6, 3) := by decide +kernel
theorem dX6_giveUp_9 : decode cX6_giveUp 9 = .ok (.bipush (-2), 2) := by decide +kernel
theorem dX6_giveUp_11 : decode cX6_giveUp 11 = .ok (.ireturn, 1) := by decide +kernel
theorem dX6_giveUp_12 : decode cX6_giveUp 12 = .ok (.aload_n 0, 1) := by decide +kernel
theorem dX6_giveUp_13 : decode cX6_giveUp 13 = .ok (.getfield 29, 3) := by decide +kernel
theorem dX6_giveUp_16 : decode cX6_giveUp 16 = .ok (.istore_n 1, 1) := by decide +kernel
theorem dX6_giveUp_17 : decode cX6_giveUp 17 = .ok (.aload_n 0, 1) := by decide +kernel
theorem dX6_giveUp_18 : decode cX6_giveUp 18 = .ok (.bipush (-9), 2) := by decide +kernel
theorem dX6_giveUp_20 : decode cX6_giveUp 20 = .ok (.putfield 29, 3) := by decide +kernel
theorem dX6_giveUp_23 : decode cX6_giveUp 23 = .ok (.iload_n 1, 1) := by decide +kernel
theorem dX6_giveUp_24 : decode cX6_giveUp 24 = .ok (.ireturn, 1) := by decide +kernel
set_option maxRecDepth 20000 in
theorem ggX6_helper_X6_isWithin : GoodIn wsX6_helper wsX6_isWithin := goodIn_g _ [(8, 1)] rfl (by decide +kernel)
set_option maxRecDepth 20000 in
theorem gX6_helper_X6_isWithin : GoodIn wsX6_helper (va_wsS RX6 99 yX6_isWithin wsX6_isWithin) := goodIn_app (goodIn_of _ (by decide +kernel)) ggX6_helper_X6_isWithin
theorem dX6_helper_0 : decode cX6_helper 0 = .ok (.iload_n 1, 1) := by decide +kernel
theorem dX6_helper_1 : decode cX6_helper 1 = .ok (.iconst 0, 1) := by decide +kernel
theorem dX6_helper_2 : decode cX6_helper 2 = .ok (.iconst 4, 1) := by decide +kernel
theorem dX6_helper_3 : decode cX6_helper 3 = .ok (.invokestatic 99, 3) := by decide +kernel
theorem dX6_helper_6 : decode cX6_helper 6 = .ok (.ifCond .ne 5, 3) := by decide +kernel
theorem dX6_helper_9 : decode cX6_helper 9 = .ok (.iconst (-1), 1) := by decide +kernel
theorem dX6_helper_10 : decode cX6_helper 10 = .ok (.ireturn, 1) := by decide +kernel
theorem dX6_helper_11 : decode cX6_helper 11 = .ok (.iload_n 2, 1) := by decide +kernel
theorem dX6_helper_12 : decode cX6_helper 12 = .ok (.tableswitch 58 0 2 #[28, 38, 48], 28) := by decide +kernel
theorem dX6_helper_40 : decode cX6_helper 40 = .ok (.aload_n 0, 1) := by decide +kernel
theorem dX6_helper_41 : decode cX6_helper 41 = .ok (.getfield 22, 3) := by decide +kernel
theorem dX6_helper_44 : decode cX6_helper 44 = .ok (.getfield 223, 3) := by decide +kernel
theorem dX6_helper_47 : decode cX6_helper 47 = .ok (.iload_n 1, 1) := by decide +kernel
theorem dX6_helper_48 : decode cX6_helper 48 = .ok (.iaload, 1) := by decide +kernel
theorem dX6_helper_49 : decode cX6_helper 49 = .ok (.ireturn, 1) := by decide +kernel
theorem dX6_helper_50 : decode cX6_helper 50 = .ok (.aload_n 0, 1) := by decide +kernel
theorem dX6_helper_51 : decode cX6_helper 51 = .ok (.getfield 22, 3) := by decide +kernel
theorem dX6_helper_54 : decode cX6_helper 54 = .ok (.getfield 226, 3) := by decide +kernel
theorem dX6_helper_57 : decode cX6_helper 57 = .ok (.iload_n 1, 1) := by decide +kernel
theorem dX6_helper_58 : decode cX6_helper 58 = .ok (.iaload, 1) := by decide +kernel
theorem dX6_helper_59 : decode cX6_helper 59 = .ok (.ireturn, 1) := by decide +kernel
theorem dX6_helper_60 : decode cX6_helper 60 = .ok (.aload_n 0, 1) := by decide +kernel
theorem dX6_helper_61 : decode cX6_helper 61 = .ok (.getfield 22, 3) := by decide +kernel
theorem dX6_helper_64 : decode cX6_helper 64 = .ok (.getfield 229, 3) := by decide +kernel
theorem dX6_helper_67 : decode cX6_helper 67 = .ok (.iload_n 1, 1) := by decide +kernel
theorem dX6_helper_68 : decode cX6_helper 68 = .ok (.iaload, 1) := by decide +kernel
theorem dX6_helper_69 : decode cX6_helper 69 = .ok (.ireturn, 1) := by decide +kernel
theorem dX6_helper_70 : decode cX6_helper 70 = .ok (.iconst (-1), 1) := by decide +kernel
theorem dX6_helper_71 : decode cX6_helper 71 = .ok (.ireturn, 1) := by decide +kernel
set_option maxRecDepth 20000 in
theorem ggX6_row_X6_isWithin : GoodIn wsX6_row wsX6_isWithin := goodIn_g _ [(5, 1)] rfl (by decide +kernel)
set_option maxRecDepth 20000 in
theorem gX6_row_X6_isWithin : GoodIn wsX6_row (va_wsS RX6 99 yX6_isWithin wsX6_isWithin) := goodIn_app (goodIn_of _ (by decide +kernel)) ggX6_row_X6_isWithin
theorem dX6_row_0 : decode cX6_row 0 = .ok (.iload_n 1, 1) := by decide +kernel
theorem dX6_row_1 : decode cX6_row 1 = .ok (.iconst 0, 1) := by decide +kernel
theorem dX6_row_2 : decode cX6_row 2 = .ok (.iconst 5, 1) := by decide +kernel
theorem dX6_row_3 : decode cX6_row 3 = .ok (.invokestatic 99, 3) := by decide +kernel
theorem dX6_row_6 : decode cX6_row 6 = .ok (.ifCond .eq 12, 3) := by decide +kernel
theorem dX6_row_9 : decode cX6_row 9 = .ok (.aload_n 0, 1) := by decide +kernel
theorem dX6_row_10 : decode cX6_row 10 = .ok (.getfield 52, 3) := by decide +kernel
theorem dX6_row_13 : decode cX6_row 13 = .ok (.iload_n 1, 1) := by decide +kernel
theorem dX6_row_14 : decode cX6_row 14 = .ok (.iaload, 1) := by decide +kernel
theorem dX6_row_15 : decode cX6_row 15 = .ok (.goto 5, 3) := by decide +kernel
theorem dX6_row_18 : decode cX6_row 18 = .ok (.bipush (-9), 2) := by decide +kernel
theorem dX6_row_20 : decode cX6_row 20 = .ok (.ireturn, 1) := by decide +kernel
theorem dX6_count_0 : decode cX6_count 0 = .ok (.aload_n 0, 1) := by decide +kernel
theorem dX6_count_1 : decode cX6_count 1 = .ok (.getfield 29, 3) := by decide +kernel
theorem dX6_count_4 : decode cX6_count 4 = .ok (.bipush (-9), 2) := by decide +kernel
theorem dX6_count_6 : decode cX6_count 6 = .ok (.if_icmp .eq 7, 3) := by decide +kernel
theorem dX6_count_9 : decode cX6_count 9 = .ok (.iconst 1, 1) := by decide +kernel
theorem dX6_count_10 : decode cX6_count 10 = .ok (.goto 4, 3) := by decide +kernel
theorem dX6_count_13 : decode cX6_count 13 = .ok (.iconst 0, 1) := by decide +kernel
theorem dX6_count_14 : decode cX6_count 14 = .ok (.istore_n 2, 1) := by decide +kernel
theorem dX6_count_15 : decode cX6_count 15 = .ok (.iload_n 1, 1) := by decide +kernel
theorem dX6_count_16 : decode cX6_count 16 = .ok (.tableswitch 136 0 7 #[48, 53, 58, 66, 74, 79, 98, 117], 48) := by decide +kernel
theorem dX6_count_64 : decode cX6_count 64 = .ok (.aload_n 0, 1) := by decide +kernel
theorem dX6_count_65 : decode cX6_count 65 = .ok (.getfield 15, 3) := by decide +kernel
theorem dX6_count_68 : decode cX6_count 68 = .ok (.ireturn, 1) := by decide +kernel
theorem dX6_count_69 : decode cX6_count 69 = .ok (.aload_n 0, 1) := by decide +kernel
theorem dX6_count_70 : decode cX6_count 70 = .ok (.getfield 26, 3) := by decide +kernel
theorem dX6_count_73 : decode cX6_count 73 = .ok (.ireturn, 1) := by decide +kernel
theorem dX6_count_74 : decode cX6_count 74 = .ok (.aload_n 0, 1) := by decide +kernel
theorem dX6_count_75 : decode cX6_count 75 = .ok (.getfield 22, 3) := by decide +kernel
theorem dX6_count_78 : decode cX6_count 78 = .ok (.getfield 158, 3) := by decide +kernel
theorem dX6_count_81 : decode cX6_count 81 = .ok (.ireturn, 1) := by decide +kernel
theorem dX6_count_82 : decode cX6_count 82 = .ok (.aload_n 0, 1) := by decide +kernel
theorem dX6_count_83 : decode cX6_count 83 = .ok (.getfield 22, 3) := by decide +kernel
theorem dX6_count_86 : decode cX6_count 86 = .ok (.getfield 168, 3) := by decide +kernel
theorem dX6_count_89 : decode cX6_count 89 = .ok (.ireturn, 1) := by decide +kernel
theorem dX6_count_90 : decode cX6_count 90 = .ok (.aload_n 0, 1) := by decide +kernel
theorem dX6_count_91 : decode cX6_count 91 = .ok (.getfield 29, 3) := by decide +kernel
theorem dX6_count_94 : decode cX6_count 94 = .ok (.ireturn, 1) := by decide +kernel
theorem dX6_count_95 : decode cX6_count 95 = .ok (.iload_n 2, 1) := by decide +kernel
theorem dX6_count_96 : decode cX6_count 96 = .ok (.ifCond .eq 16, 3) := by decide +kernel
theorem dX6_count_99 : decode cX6_count 99 = .ok (.aload_n 0, 1) := by decide +kernel
theorem dX6_count_100 : decode cX6_count 100 = .ok (.getfield 73, 3) := by decide +kernel
theorem dX6_count_103 : decode cX6_count 103 = .ok (.getfield 294, 3) := by decide +kernel
theorem dX6_count_106 : decode cX6_count 106 = .ok (.getfield 297, 3) := by decide +kernel
theorem dX6_count_109 : decode cX6_count 109 = .ok (.goto 4, 3) := by decide +kernel
theorem dX6_count_112 : decode cX6_count 112 = .ok (.iconst 0, 1) := by decide +kernel
theorem dX6_count_113 : decode cX6_count 113 = .ok (.ireturn, 1) := by decide +kernel
theorem dX6_count_114 : decode cX6_count 114 = .ok (.iload_n 2, 1) := by decide +kernel
theorem dX6_count_115 : decode cX6_count 115 = .ok (.ifCond .eq 16, 3) := by decide +kernel
theorem dX6_count_118 : decode cX6_count 118 = .ok (.aload_n 0, 1) := by decide +kernel
theorem dX6_count_119 : decode cX6_count 119 = .ok (.getfield 73, 3) := by decide +kernel
theorem dX6_count_122 : decode cX6_count 122 = .ok (.getfield 294, 3) := by decide +kernel
theorem dX6_count_125 : decode cX6_count 125 = .ok (.getfield 300, 3) := by decide +kernel
theorem dX6_count_128 : decode cX6_count 128 = .ok (.goto 4, 3) := by decide +kernel
theorem dX6_count_131 : decode cX6_count 131 = .ok (.iconst 0, 1) := by decide +kernel
theorem dX6_count_132 : decode cX6_count 132 = .ok (.ireturn, 1) := by decide +kernel
theorem dX6_count_133 : decode cX6_count 133 = .ok (.iload_n 2, 1) := by decide +kernel
theorem dX6_count_134 : decode cX6_count 134 = .ok (.ifCond .eq 16, 3) := by decide +kernel
theorem dX6_count_137 : decode cX6_count 137 = .ok (.aload_n 0, 1) := by decide +kernel
theorem dX6_count_138 : decode cX6_count 138 = .ok (.getfield 73, 3) := by decide +kernel
theorem dX6_count_141 : decode cX6_count 141 = .ok (.getfield 294, 3) := by decide +kernel
theorem dX6_count_144 : decode cX6_count 144 = .ok (.getfield 192, 3) := by decide +kernel
theorem dX6_count_147 : decode cX6_count 147 = .ok (.goto 4, 3) := by decide +kernel
theorem dX6_count_150 : decode cX6_count 150 = .ok (.iconst 0, 1) := by decide +kernel
theorem dX6_count_151 : decode cX6_count 151 = .ok (.ireturn, 1) := by decide +kernel
theorem dX6_count_152 : decode cX6_count 152 = .ok (.iconst (-1), 1) := by decide +kernel
theorem dX6_count_153 : decode cX6_count 153 = .ok (.ireturn, 1) := by decide +kernel
theorem dX6_status_0 : decode cX6_status 0 = .ok (.aload_n 0, 1) := by decide +kernel
theorem dX6_status_1 : decode cX6_status 1 = .ok (.getfield 64, 3) := by decide +kernel
theorem dX6_status_4 : decode cX6_status 4 = .ok (.ireturn, 1) := by decide +kernel
set_option maxRecDepth 20000 in
theorem ggX6_isProblem_X6_isWithin : GoodIn wsX6_isProblem wsX6_isWithin := goodIn_g _ [(5, 1)] rfl (by decide +kernel)
set_option maxRecDepth 20000 in
theorem gX6_isProblem_X6_isWithin : GoodIn wsX6_isProblem (va_wsS RX6 99 yX6_isWithin wsX6_isWithin) := goodIn_app (goodIn_of _ (by decide +kernel)) ggX6_isProblem_X6_isWithin
theorem dX6_isProblem_0 : decode cX6_isProblem 0 = .ok (.iload_n 1, 1) := by decide +kernel
theorem dX6_isProblem_1 : decode cX6_isProblem 1 = .ok (.iconst 0, 1) := by decide +kernel
theorem dX6_isProblem_2 : decode cX6_isProblem 2 = .ok (.aload_n 0, 1) := by decide +kernel
theorem dX6_isProblem_3 : decode cX6_isProblem 3 = .ok (.getfield 15, 3) := by decide +kernel
theorem dX6_isProblem_6 : decode cX6_isProblem 6 = .ok (.iconst 1, 1) := by decide +kernel
theorem dX6_isProblem_7 : decode cX6_isProblem 7 = .ok (.isub, 1) := by decide +kernel
theorem dX6_isProblem_8 : decode cX6_isProblem 8 = .ok (.invokestatic 99, 3) := by decide +kernel
theorem dX6_isProblem_11 : decode cX6_isProblem 11 = .ok (.ireturn, 1) := by decide +kernel
theorem dX6_isWithin_0 : decode cX6_isWithin 0 = .ok (.iload_n 0, 1) := by decide +kernel
theorem dX6_isWithin_1 : decode cX6_isWithin 1 = .ok (.iload_n 1, 1) := by decide +kernel
theorem dX6_isWithin_2 : decode cX6_isWithin 2 = .ok (.if_icmp .lt 12, 3) := by decide +kernel
theorem dX6_isWithin_5 : decode cX6_isWithin 5 = .ok (.iload_n 0, 1) := by decide +kernel
theorem dX6_isWithin_6 : decode cX6_isWithin 6 = .ok (.iload_n 2, 1) := by decide +kernel
theorem dX6_isWithin_7 : decode cX6_isWithin 7 = .ok (.if_icmp .gt 7, 3) := by decide +kernel
theorem dX6_isWithin_10 : decode cX6_isWithin 10 = .ok (.iconst 1, 1) := by decide +kernel
theorem dX6_isWithin_11 : decode cX6_isWithin 11 = .ok (.goto 4, 3) := by decide +kernel
theorem dX6_isWithin_14 : decode cX6_isWithin 14 = .ok (.iconst 0, 1) := by decide +kernel
theorem dX6_isWithin_15 : decode cX6_isWithin 15 = .ok (.ireturn, 1) := by decide +kernel
set_option maxRecDepth 20000 in
theorem ggX6_isRuleNumber_X6_isWithin : GoodIn wsX6_isRuleNumber wsX6_isWithin := goodIn_g _ [(4, 1)] rfl (by decide +kernel)
set_option maxRecDepth 20000 in
theorem gX6_isRuleNumber_X6_isWithin : GoodIn wsX6_isRuleNumber (va_wsS RX6 99 yX6_isWithin wsX6_isWithin) := goodIn_app (goodIn_of _ (by decide +kernel)) ggX6_isRuleNumber_X6_isWithin
theorem dX6_isRuleNumber_0 : decode cX6_isRuleNumber 0 = .ok (.iload_n 0, 1) := by decide +kernel
theorem dX6_isRuleNumber_1 : decode cX6_isRuleNumber 1 = .ok (.sipush (-1000), 3) := by decide +kernel
theorem dX6_isRuleNumber_4 : decode cX6_isRuleNumber 4 = .ok (.sipush 1000, 3) := by decide +kernel
theorem dX6_isRuleNumber_7 : decode cX6_isRuleNumber 7 = .ok (.invokestatic 99, 3) := by decide +kernel
theorem dX6_isRuleNumber_10 : decode cX6_isRuleNumber 10 = .ok (.ireturn, 1) := by decide +kernel
theorem dX6_asNumber_0 : decode cX6_asNumber 0 = .ok (.iload_n 0, 1) := by decide +kernel
theorem dX6_asNumber_1 : decode cX6_asNumber 1 = .ok (.ifCond .eq 7, 3) := by decide +kernel
theorem dX6_asNumber_4 : decode cX6_asNumber 4 = .ok (.iconst 1, 1) := by decide +kernel
theorem dX6_asNumber_5 : decode cX6_asNumber 5 = .ok (.goto 4, 3) := by decide +kernel
theorem dX6_asNumber_8 : decode cX6_asNumber 8 = .ok (.iconst 0, 1) := by decide +kernel
theorem dX6_asNumber_9 : decode cX6_asNumber 9 = .ok (.ireturn, 1) := by decide +kernel
theorem dX6_refuse_0 : decode cX6_refuse 0 = .ok (.aload_n 0, 1) := by decide +kernel
theorem dX6_refuse_1 : decode cX6_refuse 1 = .ok (.iload_n 1, 1) := by decide +kernel
theorem dX6_refuse_2 : decode cX6_refuse 2 = .ok (.putfield 64, 3) := by decide +kernel
theorem dX6_refuse_5 : decode cX6_refuse 5 = .ok (.ldc_w 269, 3) := by decide +kernel
theorem dX6_refuse_8 : decode cX6_refuse 8 = .ok (.ireturn, 1) := by decide +kernel
theorem dX6_grant_0 : decode cX6_grant 0 = .ok (.aload_n 0, 1) := by decide +kernel
theorem dX6_grant_1 : decode cX6_grant 1 = .ok (.iconst 0, 1) := by decide +kernel
theorem dX6_grant_2 : decode cX6_grant 2 = .ok (.putfield 64, 3) := by decide +kernel
theorem dX6_grant_5 : decode cX6_grant 5 = .ok (.iload_n 1, 1) := by decide +kernel
theorem dX6_grant_6 : decode cX6_grant 6 = .ok (.ireturn, 1) := by decide +kernel

/-! part 40.calls -/
set_option maxHeartbeats 4000000 in
set_option maxRecDepth 100000 in
theorem c_X6_isWithin (l : Launch) (D : va_G) (K : Nat → ClassId) (ad : Nat → Nat) (hap0 : apart ad (fun _ => True)) (n a b : Int32) (I : Nat → Nat → Int32) (G : Nat → Nat → Nat) (A : Nat → Nat → Int32) (L : Nat → Nat → Int64)  : Ci l D K ad yX6_isWithin wsX6_isWithin 0 0 [.int n, .int a, .int b] (I, G, A, L) (fun (r : Int32) (u : Mem) => r = (if ¬ n < a ∧ ¬ b < n then 1 else 0) ∧ u = (I, G, A, L)) := by
  intro sz
  refine Met.ofW (cc := cX6_isWithin) (maxL := 3) (ret := (some .boolean)) (by decide) rfl ?_
  intro p e s m args below meth c s₁ Bd hml hv0
  obtain ⟨rfl, hsz, hP, hK⟩ := hv0
  have hx := Bd.exec
  have hb := Bd.bytes
  have hr := Bd.returns
  have hts := atoms_spec (ws := wsX6_isWithin) Bd.pre
  have hown : s.vm.findClass RX6 = some m.cls := findClass_of_methodNamed Bd.named
  have hlocks := Bd.notSynchronized
  subst hsz
  have hap := vF_ap hap0 s.heap.size
  have hS : va_S (vF ad s.heap.size) s.heap s.heap [] := va_S.rf
  have hP : va_P D vwCl (VW K ad I G A L) s.heap := hP
  have hl := lv_entry ([.int n, .int a, .int b]) (n := 3) (Nat.le_of_ble_eq_true rfl)
  rw [lg_entry_eq]
  generalize (lg_sl ([.int n, .int a, .int b]) ++ List.replicate (3 - (lg_sl ([.int n, .int a, .int b])).length) Slot.unset).toArray = ls at hl ⊢
  have hl : lv_has ls 3 [(0, .int n), (1, .int a), (2, .int b)] := hl
  refine lv_iload_n hx hb dX6_isWithin_0 rfl (lv_at hl 0 rfl) ?_
  refine lv_iload_n hx hb dX6_isWithin_1 rfl (lv_at hl 1 rfl) ?_
  refine lv_icmp_lt (tgt := 14) hx hb dX6_isWithin_2 (by decide) (fun c_1 => ?_) (fun c_1 => ?_)
  · refine lv_iconst (v := 0) hx hb dX6_isWithin_14 (by decide) ?_
    exact W.zret (v := 0) hx hb hr (by decide) (fun t9 ht9 hW9 => ⟨⟨0, (I, G, A, L), rfl, ⟨by first | (simp [c_1]; done), rfl⟩, by rw [ht9]; exact hP, va_K.moved hW9.alike hK⟩, hS.F ht9⟩) hS.2.2 dX6_isWithin_15
  · refine lv_iload_n hx hb dX6_isWithin_5 rfl (lv_at hl 0 rfl) ?_
    refine lv_iload_n hx hb dX6_isWithin_6 rfl (lv_at hl 2 rfl) ?_
    refine lv_icmp_gt (tgt := 14) hx hb dX6_isWithin_7 (by decide) (fun c_2 => ?_) (fun c_2 => ?_)
    · refine lv_iconst (v := 0) hx hb dX6_isWithin_14 (by decide) ?_
      exact W.zret (v := 0) hx hb hr (by decide) (fun t9 ht9 hW9 => ⟨⟨0, (I, G, A, L), rfl, ⟨by first | (simp [c_1, c_2]; done) | exact absurd c_1 c_2 | exact absurd c_2 c_1, rfl⟩, by rw [ht9]; exact hP, va_K.moved hW9.alike hK⟩, hS.F ht9⟩) hS.2.2 dX6_isWithin_15
    · refine lv_iconst (v := 1) hx hb dX6_isWithin_10 (by decide) ?_
      refine lv_goto (tgt := 15) hx hb dX6_isWithin_11 (by decide) ?_
      exact W.zret (v := 1) hx hb hr (by decide) (fun t9 ht9 hW9 => ⟨⟨1, (I, G, A, L), rfl, ⟨by first | (simp [c_1, c_2]; done) | exact absurd c_1 c_2 | exact absurd c_2 c_1, rfl⟩, by rw [ht9]; exact hP, va_K.moved hW9.alike hK⟩, hS.F ht9⟩) hS.2.2 dX6_isWithin_15

set_option maxHeartbeats 4000000 in
set_option maxRecDepth 100000 in
theorem c_X6_isProblem (l : Launch) (D : va_G) (K : Nat → ClassId) (ad : Nat → Nat) (hap0 : apart ad (fun _ => True)) (x : Int32) (I : Nat → Nat → Int32) (G : Nat → Nat → Nat) (A : Nat → Nat → Int32) (L : Nat → Nat → Int64)  : Ci l D K ad yX6_isProblem wsX6_isProblem 1 40 [.ref (ad 0), .int x] (I, G, A, L) (fun (r : Int32) (u : Mem) => r = (if ¬ x < 0 ∧ ¬ I 0 1 - 1 < x then 1 else 0) ∧ u = (I, G, A, L)) := by
  intro sz
  refine Met.ofW (cc := cX6_isProblem) (maxL := 2) (ret := (some .boolean)) (by decide) rfl ?_
  intro p e s m args below meth c s₁ Bd hml hv0
  obtain ⟨rfl, hsz, hP, hK⟩ := hv0
  have hx := Bd.exec
  have hb := Bd.bytes
  have hr := Bd.returns
  have hts := atoms_spec (ws := wsX6_isProblem) Bd.pre
  have hown : s.vm.findClass RX6 = some m.cls := findClass_of_methodNamed Bd.named
  have hlocks := Bd.notSynchronized
  have hi6 : ∀ w ∈ u_ws RX6 TX6 18, w ∈ wsX6_isProblem := fun w h => List.mem_cons_of_mem _ (List.mem_append_right _ h)
  subst hsz
  have hap := vF_ap hap0 s.heap.size
  have hS : va_S (vF ad s.heap.size) s.heap s.heap [] := va_S.rf
  have hP : va_P D vwCl (VW K ad I G A L) s.heap := hP
  have hl := lv_entry ([.ref (ad 0), .int x]) (n := 2) (Nat.le_of_ble_eq_true rfl)
  rw [lg_entry_eq]
  generalize (lg_sl ([.ref (ad 0), .int x]) ++ List.replicate (2 - (lg_sl ([.ref (ad 0), .int x])).length) Slot.unset).toArray = ls at hl ⊢
  have hl : lv_has ls 2 [(0, .ref (ad 0)), (1, .int x)] := hl
  refine lv_iload_n hx hb dX6_isProblem_0 rfl (lv_at hl 1 rfl) ?_
  refine lv_iconst (v := 0) hx hb dX6_isProblem_1 (by decide) ?_
  refine lv_aload_n hx hb dX6_isProblem_2 rfl (lv_at hl 0 rfl) ?_
  refine vgI hx hb hts hi6 hown hK hP (0) (by decide) (show kd 0 = 6 by decide) (C := RX6) (T := TX6) (N := 18) rfl 1 (by decide) (by decide) (by decide) (by decide) (hts (.fieldLink RX6 15 "CrateHelpers" "problemCount" "I") (by decide +kernel)) (fun _ h9 => h9) dX6_isProblem_3 ?_
  refine lv_iconst (v := 1) hx hb dX6_isProblem_6 (by decide) ?_
  refine lv_isub hx hb dX6_isProblem_7 ?_
  refine vcS (As := [.int x, .int 0, .int ((I 0 1) - 1)]) (rest := []) ⟨hx, hb, hml, hown, hts⟩ (c_X6_isWithin l D K ad hap0 x 0 ((I 0 1) - 1) I G A L) (va_cwS 3 hts gX6_isProblem_X6_isWithin rfl rfl rfl (by decide +kernel) ⟨Nat.le_of_ble_eq_true rfl, Nat.le_of_ble_eq_true rfl⟩) hK hP hS rfl hl.1 (Nat.le_of_ble_eq_true rfl) (Nat.le_of_ble_eq_true rfl) (Nat.le_of_ble_eq_true rfl) dX6_isProblem_8 (fun r1 u2 H locs hw hP hS => ?_) rfl
  obtain ⟨hr1, rfl⟩ := hw
  have hP : va_P D vwCl (VW K ad I G A L) H := hP
  subst hr1
  by_cases hw3 : ¬ x < 0 ∧ ¬ ((I 0 1) - 1) < x
  · rw [if_pos hw3]
    exact W.zret (v := 1) hx hb hr (by decide) (fun t9 ht9 hW9 => ⟨⟨1, (I, G, A, L), rfl, ⟨by first | rfl | exact (if_pos hw3).symm, rfl⟩, by rw [ht9]; exact hP, va_K.moved hW9.alike hK⟩, hS.F ht9⟩) hS.2.2 dX6_isProblem_11
  · rw [if_neg hw3]
    exact W.zret (v := 0) hx hb hr (by decide) (fun t9 ht9 hW9 => ⟨⟨0, (I, G, A, L), rfl, ⟨by first | rfl | exact (if_neg hw3).symm, rfl⟩, by rw [ht9]; exact hP, va_K.moved hW9.alike hK⟩, hS.F ht9⟩) hS.2.2 dX6_isProblem_11

def cl_problem (I : Nat → Nat → Int32) (G : Nat → Nat → Nat) (A : Nat → Nat → Int32) (L : Nat → Nat → Int64) : Int32 × Mem := if I 0 5 = -9 then (if I 0 1 < 5 then (I 0 1, (up2 I 0 1 (I 0 1 + 1), G, A, L)) else (-3, (I, G, A, L))) else (-2, (I, G, A, L))

set_option maxHeartbeats 4000000 in
set_option maxRecDepth 100000 in
theorem c_X6_problem (l : Launch) (D : va_G) (K : Nat → ClassId) (ad : Nat → Nat) (hap0 : apart ad (fun _ => True))  (I : Nat → Nat → Int32) (G : Nat → Nat → Nat) (A : Nat → Nat → Int32) (L : Nat → Nat → Int64)  : Ci l D K ad yX6_problem wsX6_problem 1 60 [.ref (ad 0)] (I, G, A, L) (fun (r : Int32) (u : Mem) => (r, u) = cl_problem I G A L ) := by
  intro sz
  refine Met.ofW (cc := cX6_problem) (maxL := 1) (ret := (some .int)) (by decide) rfl ?_
  intro p e s m args below meth c s₁ Bd hml hv0
  obtain ⟨rfl, hsz, hP, hK⟩ := hv0
  have hx := Bd.exec
  have hb := Bd.bytes
  have hr := Bd.returns
  have hts := atoms_spec (ws := wsX6_problem) Bd.pre
  have hown : s.vm.findClass RX6 = some m.cls := findClass_of_methodNamed Bd.named
  have hlocks := Bd.notSynchronized
  have hi6 : ∀ w ∈ u_ws RX6 TX6 18, w ∈ wsX6_problem := fun w h => List.mem_cons_of_mem _ (List.mem_append_right _ h)
  subst hsz
  have hap := vF_ap hap0 s.heap.size
  have hS : va_S (vF ad s.heap.size) s.heap s.heap [] := va_S.rf
  have hP : va_P D vwCl (VW K ad I G A L) s.heap := hP
  have hl := lv_entry ([.ref (ad 0)]) (n := 1) (Nat.le_of_ble_eq_true rfl)
  rw [lg_entry_eq]
  generalize (lg_sl ([.ref (ad 0)]) ++ List.replicate (1 - (lg_sl ([.ref (ad 0)])).length) Slot.unset).toArray = ls at hl ⊢
  have hl : lv_has ls 1 [(0, .ref (ad 0))] := hl
  refine lv_aload_n hx hb dX6_problem_0 rfl (lv_at hl 0 rfl) ?_
  refine vgI hx hb hts hi6 hown hK hP (0) (by decide) (show kd 0 = 6 by decide) (C := RX6) (T := TX6) (N := 18) rfl 5 (by decide) (by decide) (by decide) (by decide) (hts (.fieldLink RX6 29 "CrateHelpers" "underWay" "I") (by decide +kernel)) (fun _ h9 => h9) dX6_problem_1 ?_
  refine lv_bipush (v := (-9)) hx hb dX6_problem_4 (by decide) ?_
  refine lv_icmp_eq (tgt := 12) hx hb dX6_problem_6 (by decide) (fun c_1 => ?_) (fun c_1 => ?_)
  · refine lv_aload_n hx hb dX6_problem_12 rfl (lv_at hl 0 rfl) ?_
    refine vgI hx hb hts hi6 hown hK hP (0) (by decide) (show kd 0 = 6 by decide) (C := RX6) (T := TX6) (N := 18) rfl 1 (by decide) (by decide) (by decide) (by decide) (hts (.fieldLink RX6 15 "CrateHelpers" "problemCount" "I") (by decide +kernel)) (fun _ h9 => h9) dX6_problem_13 ?_
    refine lv_iconst (v := 5) hx hb dX6_problem_16 (by decide) ?_
    refine lv_icmp_lt (tgt := 23) hx hb dX6_problem_17 (by decide) (fun c_2 => ?_) (fun c_2 => ?_)
    · refine lv_aload_n hx hb dX6_problem_23 rfl (lv_at hl 0 rfl) ?_
      refine lv_dup hx hb dX6_problem_24 rfl ?_
      refine vgI hx hb hts hi6 hown hK hP (0) (by decide) (show kd 0 = 6 by decide) (C := RX6) (T := TX6) (N := 18) rfl 1 (by decide) (by decide) (by decide) (by decide) (hts (.fieldLink RX6 15 "CrateHelpers" "problemCount" "I") (by decide +kernel)) (fun _ h9 => h9) dX6_problem_25 ?_
      refine lv_dup_x1 hx hb dX6_problem_28 rfl rfl ?_
      refine lv_iconst (v := 1) hx hb dX6_problem_29 (by decide) ?_
      refine lv_iadd hx hb dX6_problem_30 ?_
      refine vpI (v := ((I 0 1) + 1)) (ty := .int) hx hb hts hi6 tyX6 tyX6_ok nmX6 hown hK hP hap hS (0) (by decide) (show kd 0 = 6 by decide) (C := RX6) (T := TX6) (N := 18) rfl 1 (by decide) (by decide) (by decide) (by decide) (hts (.fieldLink RX6 15 "CrateHelpers" "problemCount" "I") (by decide +kernel)) (fun _ h9 => h9) rfl (by decide +kernel) rfl rfl dX6_problem_31 (fun H locs hP hS => ?_)
      obtain ⟨I3, eI3⟩ : ∃ z, z = up2 I 0 1 ((I 0 1) + 1) := ⟨_, rfl⟩
      rw [← eI3] at hP
      have hP : va_P D vwCl (VW K ad I3 G A L) H := hP
      exact W.iret (v := (I 0 1)) hx hb hr (fun t9 ht9 hW9 => ⟨⟨(I 0 1), (I3, G, A, L), rfl, by rw [eI3]; unfold cl_problem; rw [if_pos c_1, if_pos c_2], by rw [ht9]; exact hP, va_K.moved hW9.alike hK⟩, hS.F ht9⟩) hS.2.2 dX6_problem_34
    · refine lv_bipush (v := (-3)) hx hb dX6_problem_20 (by decide) ?_
      exact W.iret (v := (-3)) hx hb hr (fun t9 ht9 hW9 => ⟨⟨(-3), (I, G, A, L), rfl, by unfold cl_problem; rw [if_pos c_1, if_neg c_2], by rw [ht9]; exact hP, va_K.moved hW9.alike hK⟩, hS.F ht9⟩) hS.2.2 dX6_problem_22
  · refine lv_bipush (v := (-2)) hx hb dX6_problem_9 (by decide) ?_
    exact W.iret (v := (-2)) hx hb hr (fun t9 ht9 hW9 => ⟨⟨(-2), (I, G, A, L), rfl, by unfold cl_problem; rw [if_neg c_1], by rw [ht9]; exact hP, va_K.moved hW9.alike hK⟩, hS.F ht9⟩) hS.2.2 dX6_problem_11

def cl_limit (I : Nat → Nat → Int32) (G : Nat → Nat → Nat) (A : Nat → Nat → Int32) (L : Nat → Nat → Int64) (x : Int32) : Int32 × Mem := if ¬ x < 0 ∧ ¬ 1000 < x then (if I 0 5 = -9 then (I 0 3, (up2 I 0 3 x, G, A, L)) else (-2, (I, G, A, L))) else (-1, (I, G, A, L))

set_option maxHeartbeats 4000000 in
set_option maxRecDepth 100000 in
theorem c_X6_limit (l : Launch) (D : va_G) (K : Nat → ClassId) (ad : Nat → Nat) (hap0 : apart ad (fun _ => True))  (x : Int32) (I : Nat → Nat → Int32) (G : Nat → Nat → Nat) (A : Nat → Nat → Int32) (L : Nat → Nat → Int64)  : Ci l D K ad yX6_limit wsX6_limit 1 60 [.ref (ad 0), .int x] (I, G, A, L) (fun (r : Int32) (u : Mem) => (r, u) = cl_limit I G A L x) := by
  intro sz
  refine Met.ofW (cc := cX6_limit) (maxL := 3) (ret := (some .int)) (by decide) rfl ?_
  intro p e s m args below meth c s₁ Bd hml hv0
  obtain ⟨rfl, hsz, hP, hK⟩ := hv0
  have hx := Bd.exec
  have hb := Bd.bytes
  have hr := Bd.returns
  have hts := atoms_spec (ws := wsX6_limit) Bd.pre
  have hown : s.vm.findClass RX6 = some m.cls := findClass_of_methodNamed Bd.named
  have hlocks := Bd.notSynchronized
  have hi6 : ∀ w ∈ u_ws RX6 TX6 18, w ∈ wsX6_limit := fun w h => List.mem_cons_of_mem _ (List.mem_append_right _ h)
  subst hsz
  have hap := vF_ap hap0 s.heap.size
  have hS : va_S (vF ad s.heap.size) s.heap s.heap [] := va_S.rf
  have hP : va_P D vwCl (VW K ad I G A L) s.heap := hP
  have hl := lv_entry ([.ref (ad 0), .int x]) (n := 3) (Nat.le_of_ble_eq_true rfl)
  rw [lg_entry_eq]
  generalize (lg_sl ([.ref (ad 0), .int x]) ++ List.replicate (3 - (lg_sl ([.ref (ad 0), .int x])).length) Slot.unset).toArray = ls at hl ⊢
  have hl : lv_has ls 3 [(0, .ref (ad 0)), (1, .int x)] := hl
  refine lv_iload_n hx hb dX6_limit_0 rfl (lv_at hl 1 rfl) ?_
  refine lv_iconst (v := 0) hx hb dX6_limit_1 (by decide) ?_
  refine lv_sipush (v := 1000) hx hb dX6_limit_2 (by decide) ?_
  refine vcS (As := [.int x, .int 0, .int 1000]) (rest := []) ⟨hx, hb, hml, hown, hts⟩ (c_X6_isWithin l D K ad hap0 x 0 1000 I G A L) (va_cwS 3 hts gX6_limit_X6_isWithin rfl rfl rfl (by decide +kernel) ⟨Nat.le_of_ble_eq_true rfl, Nat.le_of_ble_eq_true rfl⟩) hK hP hS rfl hl.1 (Nat.le_of_ble_eq_true rfl) (Nat.le_of_ble_eq_true rfl) (Nat.le_of_ble_eq_true rfl) dX6_limit_5 (fun r1 u2 H locs hw hP hS => ?_) rfl
  obtain ⟨hr1, rfl⟩ := hw
  have hP : va_P D vwCl (VW K ad I G A L) H := hP
  subst hr1
  by_cases hw3 : ¬ x < 0 ∧ ¬ 1000 < x
  · rw [if_pos hw3]
    refine lv_if_ne (tgt := 13) hx hb dX6_limit_8 (by decide) (fun _ => ?_) (fun c_4 => absurd c_4 (by decide))
    refine lv_aload_n hx hb dX6_limit_13 rfl (lv_at hl 0 rfl) ?_
    refine vgI hx hb hts hi6 hown hK hP (0) (by decide) (show kd 0 = 6 by decide) (C := RX6) (T := TX6) (N := 18) rfl 5 (by decide) (by decide) (by decide) (by decide) (hts (.fieldLink RX6 29 "CrateHelpers" "underWay" "I") (by decide +kernel)) (fun _ h9 => h9) dX6_limit_14 ?_
    refine lv_bipush (v := (-9)) hx hb dX6_limit_17 (by decide) ?_
    refine lv_icmp_eq (tgt := 25) hx hb dX6_limit_19 (by decide) (fun c_5 => ?_) (fun c_5 => ?_)
    · refine lv_aload_n hx hb dX6_limit_25 rfl (lv_at hl 0 rfl) ?_
      refine vgI hx hb hts hi6 hown hK hP (0) (by decide) (show kd 0 = 6 by decide) (C := RX6) (T := TX6) (N := 18) rfl 3 (by decide) (by decide) (by decide) (by decide) (hts (.fieldLink RX6 26 "CrateHelpers" "nodeLimit" "I") (by decide +kernel)) (fun _ h9 => h9) dX6_limit_26 ?_
      refine lv_istore_n (lv' := [(2, .int (I 0 3)), (0, .ref (ad 0)), (1, .int x)]) hx hb dX6_limit_29 rfl hl (by decide) rfl (fun ls hl => ?_)
      refine lv_aload_n hx hb dX6_limit_30 rfl (lv_at hl 1 rfl) ?_
      refine lv_iload_n hx hb dX6_limit_31 rfl (lv_at hl 2 rfl) ?_
      refine vpI (v := x) (ty := .int) hx hb hts hi6 tyX6 tyX6_ok nmX6 hown hK hP hap hS (0) (by decide) (show kd 0 = 6 by decide) (C := RX6) (T := TX6) (N := 18) rfl 3 (by decide) (by decide) (by decide) (by decide) (hts (.fieldLink RX6 26 "CrateHelpers" "nodeLimit" "I") (by decide +kernel)) (fun _ h9 => h9) rfl (by decide +kernel) rfl rfl dX6_limit_32 (fun H locs hP hS => ?_)
      obtain ⟨I6, eI6⟩ : ∃ z, z = up2 I 0 3 x := ⟨_, rfl⟩
      rw [← eI6] at hP
      have hP : va_P D vwCl (VW K ad I6 G A L) H := hP
      refine lv_iload_n hx hb dX6_limit_35 rfl (lv_at hl 0 rfl) ?_
      exact W.iret (v := (I 0 3)) hx hb hr (fun t9 ht9 hW9 => ⟨⟨(I 0 3), (I6, G, A, L), rfl, by rw [eI6]; unfold cl_limit; rw [if_pos hw3, if_pos c_5], by rw [ht9]; exact hP, va_K.moved hW9.alike hK⟩, hS.F ht9⟩) hS.2.2 dX6_limit_36
    · refine lv_bipush (v := (-2)) hx hb dX6_limit_22 (by decide) ?_
      exact W.iret (v := (-2)) hx hb hr (fun t9 ht9 hW9 => ⟨⟨(-2), (I, G, A, L), rfl, by unfold cl_limit; rw [if_pos hw3, if_neg c_5], by rw [ht9]; exact hP, va_K.moved hW9.alike hK⟩, hS.F ht9⟩) hS.2.2 dX6_limit_24
  · rw [if_neg hw3]
    refine lv_if_ne (tgt := 13) hx hb dX6_limit_8 (by decide) (fun c_7 => absurd c_7 (by decide)) (fun _ => ?_)
    refine lv_iconst (v := (-1)) hx hb dX6_limit_11 (by decide) ?_
    exact W.iret (v := (-1)) hx hb hr (fun t9 ht9 hW9 => ⟨⟨(-1), (I, G, A, L), rfl, by unfold cl_limit; rw [if_neg hw3], by rw [ht9]; exact hP, va_K.moved hW9.alike hK⟩, hS.F ht9⟩) hS.2.2 dX6_limit_12

def cl_giveUp (I : Nat → Nat → Int32) (G : Nat → Nat → Nat) (A : Nat → Nat → Int32) (L : Nat → Nat → Int64) : Int32 × Mem := if I 0 5 = -9 then (-2, (I, G, A, L)) else (I 0 5, (up2 I 0 5 (-9), G, A, L))

set_option maxHeartbeats 4000000 in
set_option maxRecDepth 100000 in
theorem c_X6_giveUp (l : Launch) (D : va_G) (K : Nat → ClassId) (ad : Nat → Nat) (hap0 : apart ad (fun _ => True))  (I : Nat → Nat → Int32) (G : Nat → Nat → Nat) (A : Nat → Nat → Int32) (L : Nat → Nat → Int64)  : Ci l D K ad yX6_giveUp wsX6_giveUp 1 60 [.ref (ad 0)] (I, G, A, L) (fun (r : Int32) (u : Mem) => (r, u) = cl_giveUp I G A L ) := by
  intro sz
  refine Met.ofW (cc := cX6_giveUp) (maxL := 2) (ret := (some .int)) (by decide) rfl ?_
  intro p e s m args below meth c s₁ Bd hml hv0
  obtain ⟨rfl, hsz, hP, hK⟩ := hv0
  have hx := Bd.exec
  have hb := Bd.bytes
  have hr := Bd.returns
  have hts := atoms_spec (ws := wsX6_giveUp) Bd.pre
  have hown : s.vm.findClass RX6 = some m.cls := findClass_of_methodNamed Bd.named
  have hlocks := Bd.notSynchronized
  have hi6 : ∀ w ∈ u_ws RX6 TX6 18, w ∈ wsX6_giveUp := fun w h => List.mem_cons_of_mem _ (List.mem_append_right _ h)
  subst hsz
  have hap := vF_ap hap0 s.heap.size
  have hS : va_S (vF ad s.heap.size) s.heap s.heap [] := va_S.rf
  have hP : va_P D vwCl (VW K ad I G A L) s.heap := hP
  have hl := lv_entry ([.ref (ad 0)]) (n := 2) (Nat.le_of_ble_eq_true rfl)
  rw [lg_entry_eq]
  generalize (lg_sl ([.ref (ad 0)]) ++ List.replicate (2 - (lg_sl ([.ref (ad 0)])).length) Slot.unset).toArray = ls at hl ⊢
  have hl : lv_has ls 2 [(0, .ref (ad 0))] := hl
  refine lv_aload_n hx hb dX6_giveUp_0 rfl (lv_at hl 0 rfl) ?_
  refine vgI hx hb hts hi6 hown hK hP (0) (by decide) (show kd 0 = 6 by decide) (C := RX6) (T := TX6) (N := 18) rfl 5 (by decide) (by decide) (by decide) (by decide) (hts (.fieldLink RX6 29 "CrateHelpers" "underWay" "I") (by decide +kernel)) (fun _ h9 => h9) dX6_giveUp_1 ?_
  refine lv_bipush (v := (-9)) hx hb dX6_giveUp_4 (by decide) ?_
  refine lv_icmp_ne (tgt := 12) hx hb dX6_giveUp_6 (by decide) (fun c_1 => ?_) (fun c_1 => ?_)
  · refine lv_aload_n hx hb dX6_giveUp_12 rfl (lv_at hl 0 rfl) ?_
    refine vgI hx hb hts hi6 hown hK hP (0) (by decide) (show kd 0 = 6 by decide) (C := RX6) (T := TX6) (N := 18) rfl 5 (by decide) (by decide) (by decide) (by decide) (hts (.fieldLink RX6 29 "CrateHelpers" "underWay" "I") (by decide +kernel)) (fun _ h9 => h9) dX6_giveUp_13 ?_
    refine lv_istore_n (lv' := [(1, .int (I 0 5)), (0, .ref (ad 0))]) hx hb dX6_giveUp_16 rfl hl (by decide) rfl (fun ls hl => ?_)
    refine lv_aload_n hx hb dX6_giveUp_17 rfl (lv_at hl 1 rfl) ?_
    refine lv_bipush (v := (-9)) hx hb dX6_giveUp_18 (by decide) ?_
    refine vpI (v := (-9)) (ty := .int) hx hb hts hi6 tyX6 tyX6_ok nmX6 hown hK hP hap hS (0) (by decide) (show kd 0 = 6 by decide) (C := RX6) (T := TX6) (N := 18) rfl 5 (by decide) (by decide) (by decide) (by decide) (hts (.fieldLink RX6 29 "CrateHelpers" "underWay" "I") (by decide +kernel)) (fun _ h9 => h9) rfl (by decide +kernel) rfl rfl dX6_giveUp_20 (fun H locs hP hS => ?_)
    obtain ⟨I2, eI2⟩ : ∃ z, z = up2 I 0 5 (-9) := ⟨_, rfl⟩
    rw [← eI2] at hP
    have hP : va_P D vwCl (VW K ad I2 G A L) H := hP
    refine lv_iload_n hx hb dX6_giveUp_23 rfl (lv_at hl 0 rfl) ?_
    exact W.iret (v := (I 0 5)) hx hb hr (fun t9 ht9 hW9 => ⟨⟨(I 0 5), (I2, G, A, L), rfl, by rw [eI2]; unfold cl_giveUp; rw [if_neg c_1], by rw [ht9]; exact hP, va_K.moved hW9.alike hK⟩, hS.F ht9⟩) hS.2.2 dX6_giveUp_24
  · refine lv_bipush (v := (-2)) hx hb dX6_giveUp_9 (by decide) ?_
    exact W.iret (v := (-2)) hx hb hr (fun t9 ht9 hW9 => ⟨⟨(-2), (I, G, A, L), rfl, by unfold cl_giveUp; rw [if_pos c_1], by rw [ht9]; exact hP, va_K.moved hW9.alike hK⟩, hS.F ht9⟩) hS.2.2 dX6_giveUp_11

def cl_plain (I : Nat → Nat → Int32) (G : Nat → Nat → Nat) (A : Nat → Nat → Int32) (L : Nat → Nat → Int64) : Int32 × Mem := if I 0 5 = -9 then (I 2 1, (up2 I 2 1 0, G, A, L)) else (-2, (I, G, A, L))

set_option maxHeartbeats 4000000 in
set_option maxRecDepth 100000 in
theorem c_X6_plain (l : Launch) (D : va_G) (K : Nat → ClassId) (ad : Nat → Nat) (hap0 : apart ad (fun _ => True))  (I : Nat → Nat → Int32) (G : Nat → Nat → Nat) (A : Nat → Nat → Int32) (L : Nat → Nat → Int64)  : Ci l D K ad yX6_plain wsX6_plain 1 60 [.ref (ad 0)] (I, G, A, L) (fun (r : Int32) (u : Mem) => (r, u) = cl_plain I G A L ) := by
  intro sz
  refine Met.ofW (cc := cX6_plain) (maxL := 2) (ret := (some .int)) (by decide) rfl ?_
  intro p e s m args below meth c s₁ Bd hml hv0
  obtain ⟨rfl, hsz, hP, hK⟩ := hv0
  have hx := Bd.exec
  have hb := Bd.bytes
  have hr := Bd.returns
  have hts := atoms_spec (ws := wsX6_plain) Bd.pre
  have hown : s.vm.findClass RX6 = some m.cls := findClass_of_methodNamed Bd.named
  have hlocks := Bd.notSynchronized
  have hi6 : ∀ w ∈ u_ws RX6 TX6 18, w ∈ wsX6_plain := fun w h => List.mem_cons_of_mem _ (List.mem_append_left _ (List.mem_append_right _ h))
  have hi4 : ∀ w ∈ u_ws RX4 TX4 7, w ∈ wsX6_plain := fun w h => List.mem_cons_of_mem _ (List.mem_append_right _ h)
  subst hsz
  have hap := vF_ap hap0 s.heap.size
  have hS : va_S (vF ad s.heap.size) s.heap s.heap [] := va_S.rf
  have hP : va_P D vwCl (VW K ad I G A L) s.heap := hP
  have hl := lv_entry ([.ref (ad 0)]) (n := 2) (Nat.le_of_ble_eq_true rfl)
  rw [lg_entry_eq]
  generalize (lg_sl ([.ref (ad 0)]) ++ List.replicate (2 - (lg_sl ([.ref (ad 0)])).length) Slot.unset).toArray = ls at hl ⊢
  have hl : lv_has ls 2 [(0, .ref (ad 0))] := hl
  refine lv_aload_n hx hb dX6_plain_0 rfl (lv_at hl 0 rfl) ?_
  refine vgI hx hb hts hi6 hown hK hP (0) (by decide) (show kd 0 = 6 by decide) (C := RX6) (T := TX6) (N := 18) rfl 5 (by decide) (by decide) (by decide) (by decide) (hts (.fieldLink RX6 29 "CrateHelpers" "underWay" "I") (by decide +kernel)) (fun _ h9 => h9) dX6_plain_1 ?_
  refine lv_bipush (v := (-9)) hx hb dX6_plain_4 (by decide) ?_
  refine lv_icmp_eq (tgt := 12) hx hb dX6_plain_6 (by decide) (fun c_1 => ?_) (fun c_1 => ?_)
  · refine lv_aload_n hx hb dX6_plain_12 rfl (lv_at hl 0 rfl) ?_
    refine vgC hx hb hts hi6 hown hK hP (0) (by decide) (show kd 0 = 6 by decide) (C := RX6) (T := TX6) (N := 18) rfl 2 (by decide) (by decide) (by decide) (by decide) (2) rfl (hts (.fieldLink RX6 22 "CrateHelpers" "team" "LCrateHelpers$Team;") (by decide +kernel)) (fun _ h9 => h9) dX6_plain_13 ?_
    refine vgI hx hb hts hi4 hown hK hP (2) (by decide) (show kd 2 = 4 by decide) (C := RX4) (T := TX4) (N := 7) rfl 1 (by decide) (by decide) (by decide) (by decide) (hts (.fieldLink RX6 168 "CrateHelpers$Team" "scheduled" "I") (by decide +kernel)) (fun _ h9 => h9) dX6_plain_16 ?_
    refine lv_istore_n (lv' := [(1, .int (I 2 1)), (0, .ref (ad 0))]) hx hb dX6_plain_19 rfl hl (by decide) rfl (fun ls hl => ?_)
    refine lv_aload_n hx hb dX6_plain_20 rfl (lv_at hl 1 rfl) ?_
    refine vgC hx hb hts hi6 hown hK hP (0) (by decide) (show kd 0 = 6 by decide) (C := RX6) (T := TX6) (N := 18) rfl 2 (by decide) (by decide) (by decide) (by decide) (2) rfl (hts (.fieldLink RX6 22 "CrateHelpers" "team" "LCrateHelpers$Team;") (by decide +kernel)) (fun _ h9 => h9) dX6_plain_21 ?_
    refine lv_iconst (v := 0) hx hb dX6_plain_24 (by decide) ?_
    refine vpI (v := 0) (ty := .int) hx hb hts hi4 tyX4 tyX4_ok nmX4 hown hK hP hap hS (2) (by decide) (show kd 2 = 4 by decide) (C := RX4) (T := TX4) (N := 7) rfl 1 (by decide) (by decide) (by decide) (by decide) (hts (.fieldLink RX6 168 "CrateHelpers$Team" "scheduled" "I") (by decide +kernel)) (fun _ h9 => h9) rfl (by decide +kernel) rfl rfl dX6_plain_25 (fun H locs hP hS => ?_)
    obtain ⟨I2, eI2⟩ : ∃ z, z = up2 I 2 1 0 := ⟨_, rfl⟩
    rw [← eI2] at hP
    have hP : va_P D vwCl (VW K ad I2 G A L) H := hP
    refine lv_iload_n hx hb dX6_plain_28 rfl (lv_at hl 0 rfl) ?_
    exact W.iret (v := (I 2 1)) hx hb hr (fun t9 ht9 hW9 => ⟨⟨(I 2 1), (I2, G, A, L), rfl, by rw [eI2]; unfold cl_plain; rw [if_pos c_1], by rw [ht9]; exact hP, va_K.moved hW9.alike hK⟩, hS.F ht9⟩) hS.2.2 dX6_plain_29
  · refine lv_bipush (v := (-2)) hx hb dX6_plain_9 (by decide) ?_
    exact W.iret (v := (-2)) hx hb hr (fun t9 ht9 hW9 => ⟨⟨(-2), (I, G, A, L), rfl, by unfold cl_plain; rw [if_neg c_1], by rw [ht9]; exact hP, va_K.moved hW9.alike hK⟩, hS.F ht9⟩) hS.2.2 dX6_plain_11

def cl_status (I : Nat → Nat → Int32) (G : Nat → Nat → Nat) (A : Nat → Nat → Int32) (L : Nat → Nat → Int64) : Int32 × Mem := (I 0 17, (I, G, A, L))

set_option maxHeartbeats 4000000 in
set_option maxRecDepth 100000 in
theorem c_X6_status (l : Launch) (D : va_G) (K : Nat → ClassId) (ad : Nat → Nat) (hap0 : apart ad (fun _ => True))  (I : Nat → Nat → Int32) (G : Nat → Nat → Nat) (A : Nat → Nat → Int32) (L : Nat → Nat → Int64)  : Ci l D K ad yX6_status wsX6_status 1 60 [.ref (ad 0)] (I, G, A, L) (fun (r : Int32) (u : Mem) => (r, u) = cl_status I G A L ) := by
  intro sz
  refine Met.ofW (cc := cX6_status) (maxL := 1) (ret := (some .int)) (by decide) rfl ?_
  intro p e s m args below meth c s₁ Bd hml hv0
  obtain ⟨rfl, hsz, hP, hK⟩ := hv0
  have hx := Bd.exec
  have hb := Bd.bytes
  have hr := Bd.returns
  have hts := atoms_spec (ws := wsX6_status) Bd.pre
  have hown : s.vm.findClass RX6 = some m.cls := findClass_of_methodNamed Bd.named
  have hlocks := Bd.notSynchronized
  have hi6 : ∀ w ∈ u_ws RX6 TX6 18, w ∈ wsX6_status := fun w h => List.mem_cons_of_mem _ (List.mem_append_right _ h)
  subst hsz
  have hap := vF_ap hap0 s.heap.size
  have hS : va_S (vF ad s.heap.size) s.heap s.heap [] := va_S.rf
  have hP : va_P D vwCl (VW K ad I G A L) s.heap := hP
  have hl := lv_entry ([.ref (ad 0)]) (n := 1) (Nat.le_of_ble_eq_true rfl)
  rw [lg_entry_eq]
  generalize (lg_sl ([.ref (ad 0)]) ++ List.replicate (1 - (lg_sl ([.ref (ad 0)])).length) Slot.unset).toArray = ls at hl ⊢
  have hl : lv_has ls 1 [(0, .ref (ad 0))] := hl
  refine lv_aload_n hx hb dX6_status_0 rfl (lv_at hl 0 rfl) ?_
  refine vgI hx hb hts hi6 hown hK hP (0) (by decide) (show kd 0 = 6 by decide) (C := RX6) (T := TX6) (N := 18) rfl 17 (by decide) (by decide) (by decide) (by decide) (hts (.fieldLink RX6 64 "CrateHelpers" "refusedBy" "I") (by decide +kernel)) (fun _ h9 => h9) dX6_status_1 ?_
  exact W.iret (v := (I 0 17)) hx hb hr (fun t9 ht9 hW9 => ⟨⟨(I 0 17), (I, G, A, L), rfl, by unfold cl_status; rfl, by rw [ht9]; exact hP, va_K.moved hW9.alike hK⟩, hS.F ht9⟩) hS.2.2 dX6_status_4

def cl_helpers (I : Nat → Nat → Int32) (G : Nat → Nat → Nat) (A : Nat → Nat → Int32) (L : Nat → Nat → Int64) (x : Int32) : Int32 × Mem := if ¬ x < 1 ∧ ¬ 5 < x then (if I 0 5 = -9 then (I 2 0, (up2 I 2 0 x, G, fil A 3 5 0, L)) else (-2, (I, G, A, L))) else (-1, (I, G, A, L))

set_option maxHeartbeats 4000000 in
set_option maxRecDepth 100000 in
theorem c_X6_helpers (l : Launch) (D : va_G) (K : Nat → ClassId) (ad : Nat → Nat) (hap0 : apart ad (fun _ => True))  (x : Int32) (I : Nat → Nat → Int32) (G : Nat → Nat → Nat) (A : Nat → Nat → Int32) (L : Nat → Nat → Int64)  : Ci l D K ad yX6_helpers wsX6_helpers 2 80 [.ref (ad 0), .int x] (I, G, A, L) (fun (r : Int32) (u : Mem) => (r, u) = cl_helpers I G A L x) := by
  intro sz
  refine Met.ofW (cc := cX6_helpers) (maxL := 3) (ret := (some .int)) (by decide) rfl ?_
  intro p e s m args below meth c s₁ Bd hml hv0
  obtain ⟨rfl, hsz, hP, hK⟩ := hv0
  have hx := Bd.exec
  have hb := Bd.bytes
  have hr := Bd.returns
  have hts := atoms_spec (ws := wsX6_helpers) Bd.pre
  have hown : s.vm.findClass RX6 = some m.cls := findClass_of_methodNamed Bd.named
  have hlocks := Bd.notSynchronized
  have hi6 : ∀ w ∈ u_ws RX6 TX6 18, w ∈ wsX6_helpers := fun w h => List.mem_cons_of_mem _ (List.mem_append_left _ (List.mem_append_right _ h))
  have hi4 : ∀ w ∈ u_ws RX4 TX4 7, w ∈ wsX6_helpers := fun w h => List.mem_cons_of_mem _ (List.mem_append_right _ h)
  subst hsz
  have hap := vF_ap hap0 s.heap.size
  have hS : va_S (vF ad s.heap.size) s.heap s.heap [] := va_S.rf
  have hP : va_P D vwCl (VW K ad I G A L) s.heap := hP
  have hl := lv_entry ([.ref (ad 0), .int x]) (n := 3) (Nat.le_of_ble_eq_true rfl)
  rw [lg_entry_eq]
  generalize (lg_sl ([.ref (ad 0), .int x]) ++ List.replicate (3 - (lg_sl ([.ref (ad 0), .int x])).length) Slot.unset).toArray = ls at hl ⊢
  have hl : lv_has ls 3 [(0, .ref (ad 0)), (1, .int x)] := hl
  refine lv_iload_n hx hb dX6_helpers_0 rfl (lv_at hl 1 rfl) ?_
  refine lv_iconst (v := 1) hx hb dX6_helpers_1 (by decide) ?_
  refine lv_iconst (v := 5) hx hb dX6_helpers_2 (by decide) ?_
  refine vcS (As := [.int x, .int 1, .int 5]) (rest := []) ⟨hx, hb, hml, hown, hts⟩ (c_X6_isWithin l D K ad hap0 x 1 5 I G A L) (va_cwS 3 hts gX6_helpers_X6_isWithin rfl rfl rfl (by decide +kernel) ⟨Nat.le_of_ble_eq_true rfl, Nat.le_of_ble_eq_true rfl⟩) hK hP hS rfl hl.1 (Nat.le_of_ble_eq_true rfl) (Nat.le_of_ble_eq_true rfl) (Nat.le_of_ble_eq_true rfl) dX6_helpers_3 (fun r1 u2 H locs hw hP hS => ?_) rfl
  obtain ⟨hr1, rfl⟩ := hw
  have hP : va_P D vwCl (VW K ad I G A L) H := hP
  subst hr1
  by_cases hw3 : ¬ x < 1 ∧ ¬ 5 < x
  · rw [if_pos hw3]
    refine lv_if_ne (tgt := 11) hx hb dX6_helpers_6 (by decide) (fun _ => ?_) (fun c_4 => absurd c_4 (by decide))
    refine lv_aload_n hx hb dX6_helpers_11 rfl (lv_at hl 0 rfl) ?_
    refine vgI hx hb hts hi6 hown hK hP (0) (by decide) (show kd 0 = 6 by decide) (C := RX6) (T := TX6) (N := 18) rfl 5 (by decide) (by decide) (by decide) (by decide) (hts (.fieldLink RX6 29 "CrateHelpers" "underWay" "I") (by decide +kernel)) (fun _ h9 => h9) dX6_helpers_12 ?_
    refine lv_bipush (v := (-9)) hx hb dX6_helpers_15 (by decide) ?_
    refine lv_icmp_eq (tgt := 23) hx hb dX6_helpers_17 (by decide) (fun c_5 => ?_) (fun c_5 => ?_)
    · refine lv_aload_n hx hb dX6_helpers_23 rfl (lv_at hl 0 rfl) ?_
      refine vgC hx hb hts hi6 hown hK hP (0) (by decide) (show kd 0 = 6 by decide) (C := RX6) (T := TX6) (N := 18) rfl 2 (by decide) (by decide) (by decide) (by decide) (2) rfl (hts (.fieldLink RX6 22 "CrateHelpers" "team" "LCrateHelpers$Team;") (by decide +kernel)) (fun _ h9 => h9) dX6_helpers_24 ?_
      refine vgI hx hb hts hi4 hown hK hP (2) (by decide) (show kd 2 = 4 by decide) (C := RX4) (T := TX4) (N := 7) rfl 0 (by decide) (by decide) (by decide) (by decide) (hts (.fieldLink RX6 158 "CrateHelpers$Team" "size" "I") (by decide +kernel)) (fun _ h9 => h9) dX6_helpers_27 ?_
      refine lv_istore_n (lv' := [(2, .int (I 2 0)), (0, .ref (ad 0)), (1, .int x)]) hx hb dX6_helpers_30 rfl hl (by decide) rfl (fun ls hl => ?_)
      refine lv_aload_n hx hb dX6_helpers_31 rfl (lv_at hl 1 rfl) ?_
      refine vgC hx hb hts hi6 hown hK hP (0) (by decide) (show kd 0 = 6 by decide) (C := RX6) (T := TX6) (N := 18) rfl 2 (by decide) (by decide) (by decide) (by decide) (2) rfl (hts (.fieldLink RX6 22 "CrateHelpers" "team" "LCrateHelpers$Team;") (by decide +kernel)) (fun _ h9 => h9) dX6_helpers_32 ?_
      refine lv_iload_n hx hb dX6_helpers_35 rfl (lv_at hl 2 rfl) ?_
      refine vcVv (As := [.int x]) (rest := []) ⟨hx, hb, hml, hown, hts⟩ (c_X4_become l D K ad hap0 2 (Or.inl rfl) x I G A L) (cwV 1 hts gX6_helpers_X4_become rfl rfl rfl (by decide +kernel) ⟨Nat.le_of_ble_eq_true rfl, Nat.le_of_ble_eq_true rfl⟩) hK hP hS (by decide) (show kd 2 = 4 by decide) (by decide) rfl rfl rfl hl.1 (Nat.le_of_ble_eq_true rfl) (Nat.le_of_ble_eq_true rfl) (Nat.le_of_ble_eq_true rfl) dX6_helpers_36 (fun u7 H locs hw hP hS => ?_) rfl
      obtain ⟨I8, G9, A10, L11⟩ := u7
      have hP : va_P D vwCl (VW K ad I8 G9 A10 L11) H := hP
      have hm12 := hw
      refine lv_iload_n hx hb dX6_helpers_39 rfl (lv_at hl 0 rfl) ?_
      exact W.iret (v := (I 2 0)) hx hb hr (fun t9 ht9 hW9 => ⟨⟨(I 2 0), (I8, G9, A10, L11), rfl, by rw [hm12]; unfold cl_helpers; rw [if_pos hw3, if_pos c_5], by rw [ht9]; exact hP, va_K.moved hW9.alike hK⟩, hS.F ht9⟩) hS.2.2 dX6_helpers_40
    · refine lv_bipush (v := (-2)) hx hb dX6_helpers_20 (by decide) ?_
      exact W.iret (v := (-2)) hx hb hr (fun t9 ht9 hW9 => ⟨⟨(-2), (I, G, A, L), rfl, by unfold cl_helpers; rw [if_pos hw3, if_neg c_5], by rw [ht9]; exact hP, va_K.moved hW9.alike hK⟩, hS.F ht9⟩) hS.2.2 dX6_helpers_22
  · rw [if_neg hw3]
    refine lv_if_ne (tgt := 11) hx hb dX6_helpers_6 (by decide) (fun c_13 => absurd c_13 (by decide)) (fun _ => ?_)
    refine lv_iconst (v := (-1)) hx hb dX6_helpers_9 (by decide) ?_
    exact W.iret (v := (-1)) hx hb hr (fun t9 ht9 hW9 => ⟨⟨(-1), (I, G, A, L), rfl, by unfold cl_helpers; rw [if_neg hw3], by rw [ht9]; exact hP, va_K.moved hW9.alike hK⟩, hS.F ht9⟩) hS.2.2 dX6_helpers_10

def cl_row (I : Nat → Nat → Int32) (G : Nat → Nat → Nat) (A : Nat → Nat → Int32) (L : Nat → Nat → Int64) (x : Int32) : Int32 × Mem := if ¬ x < 0 ∧ ¬ 5 < x then (A 19 x.toNatClampNeg, (I, G, A, L)) else (-9, (I, G, A, L))

set_option maxHeartbeats 4000000 in
set_option maxRecDepth 100000 in
theorem c_X6_row (l : Launch) (D : va_G) (K : Nat → ClassId) (ad : Nat → Nat) (hap0 : apart ad (fun _ => True))  (x : Int32) (I : Nat → Nat → Int32) (G : Nat → Nat → Nat) (A : Nat → Nat → Int32) (L : Nat → Nat → Int64)  : Ci l D K ad yX6_row wsX6_row 2 80 [.ref (ad 0), .int x] (I, G, A, L) (fun (r : Int32) (u : Mem) => (r, u) = cl_row I G A L x) := by
  intro sz
  refine Met.ofW (cc := cX6_row) (maxL := 2) (ret := (some .int)) (by decide) rfl ?_
  intro p e s m args below meth c s₁ Bd hml hv0
  obtain ⟨rfl, hsz, hP, hK⟩ := hv0
  have hx := Bd.exec
  have hb := Bd.bytes
  have hr := Bd.returns
  have hts := atoms_spec (ws := wsX6_row) Bd.pre
  have hown : s.vm.findClass RX6 = some m.cls := findClass_of_methodNamed Bd.named
  have hlocks := Bd.notSynchronized
  have hi6 : ∀ w ∈ u_ws RX6 TX6 18, w ∈ wsX6_row := fun w h => List.mem_cons_of_mem _ (List.mem_append_right _ h)
  subst hsz
  have hap := vF_ap hap0 s.heap.size
  have hS : va_S (vF ad s.heap.size) s.heap s.heap [] := va_S.rf
  have hP : va_P D vwCl (VW K ad I G A L) s.heap := hP
  have hl := lv_entry ([.ref (ad 0), .int x]) (n := 2) (Nat.le_of_ble_eq_true rfl)
  rw [lg_entry_eq]
  generalize (lg_sl ([.ref (ad 0), .int x]) ++ List.replicate (2 - (lg_sl ([.ref (ad 0), .int x])).length) Slot.unset).toArray = ls at hl ⊢
  have hl : lv_has ls 2 [(0, .ref (ad 0)), (1, .int x)] := hl
  refine lv_iload_n hx hb dX6_row_0 rfl (lv_at hl 1 rfl) ?_
  refine lv_iconst (v := 0) hx hb dX6_row_1 (by decide) ?_
  refine lv_iconst (v := 5) hx hb dX6_row_2 (by decide) ?_
  refine vcS (As := [.int x, .int 0, .int 5]) (rest := []) ⟨hx, hb, hml, hown, hts⟩ (c_X6_isWithin l D K ad hap0 x 0 5 I G A L) (va_cwS 3 hts gX6_row_X6_isWithin rfl rfl rfl (by decide +kernel) ⟨Nat.le_of_ble_eq_true rfl, Nat.le_of_ble_eq_true rfl⟩) hK hP hS rfl hl.1 (Nat.le_of_ble_eq_true rfl) (Nat.le_of_ble_eq_true rfl) (Nat.le_of_ble_eq_true rfl) dX6_row_3 (fun r1 u2 H locs hw hP hS => ?_) rfl
  obtain ⟨hr1, rfl⟩ := hw
  have hP : va_P D vwCl (VW K ad I G A L) H := hP
  subst hr1
  by_cases hw3 : ¬ x < 0 ∧ ¬ 5 < x
  · rw [if_pos hw3]
    refine lv_if_eq (tgt := 18) hx hb dX6_row_6 (by decide) (fun c_4 => absurd c_4 (by decide)) (fun _ => ?_)
    refine lv_aload_n hx hb dX6_row_9 rfl (lv_at hl 0 rfl) ?_
    refine vgC hx hb hts hi6 hown hK hP (0) (by decide) (show kd 0 = 6 by decide) (C := RX6) (T := TX6) (N := 18) rfl 13 (by decide) (by decide) (by decide) (by decide) (19) rfl (hts (.fieldLink RX6 52 "CrateHelpers" "secondRow" "[I") (by decide +kernel)) (fun _ h9 => h9) dX6_row_10 ?_
    refine lv_iload_n hx hb dX6_row_13 rfl (lv_at hl 1 rfl) ?_
    have hin : vp_in x (ln 19) := by rw [show ln 19 = 6 by decide]; exact in_lt hw3.1 (Int32.lt_of_le_of_lt (Int32.not_lt.mp hw3.2) (by decide : (5 : Int32) < nI 6)) (Nat.le_refl 6) (by decide)
    refine xiald hx hb hK hP (19) (by decide) (show kd 19 = 8 by decide) hin dX6_row_14 ?_
    refine lv_goto (tgt := 20) hx hb dX6_row_15 (by decide) ?_
    exact W.iret (v := (A 19 x.toNatClampNeg)) hx hb hr (fun t9 ht9 hW9 => ⟨⟨(A 19 x.toNatClampNeg), (I, G, A, L), rfl, by unfold cl_row; rw [if_pos hw3], by rw [ht9]; exact hP, va_K.moved hW9.alike hK⟩, hS.F ht9⟩) hS.2.2 dX6_row_20
  · rw [if_neg hw3]
    refine lv_if_eq (tgt := 18) hx hb dX6_row_6 (by decide) (fun _ => ?_) (fun c_5 => absurd c_5 (by decide))
    refine lv_bipush (v := (-9)) hx hb dX6_row_18 (by decide) ?_
    exact W.iret (v := (-9)) hx hb hr (fun t9 ht9 hW9 => ⟨⟨(-9), (I, G, A, L), rfl, by unfold cl_row; rw [if_neg hw3], by rw [ht9]; exact hP, va_K.moved hW9.alike hK⟩, hS.F ht9⟩) hS.2.2 dX6_row_20

def cl_fail (I : Nat → Nat → Int32) (G : Nat → Nat → Nat) (A : Nat → Nat → Int32) (L : Nat → Nat → Int64) (x : Int32) (y : Int32) : Int32 × Mem := if ¬ x < 0 ∧ ¬ I 2 0 - 1 < x then (if ¬ y < 0 ∧ ¬ 200 < y then (if I 0 5 = -9 then (1, (I, G, up2 A 3 x.toNatClampNeg y, L)) else (-2, (I, G, A, L))) else (-1, (I, G, A, L))) else (-1, (I, G, A, L))

set_option maxHeartbeats 4000000 in
set_option maxRecDepth 100000 in
theorem c_X6_fail (l : Launch) (D : va_G) (K : Nat → ClassId) (ad : Nat → Nat) (hap0 : apart ad (fun _ => True))  (x : Int32) (y : Int32) (z : Nat) (hz1 : 1 ≤ z) (hz5 : z ≤ 5) (I : Nat → Nat → Int32) (G : Nat → Nat → Nat) (A : Nat → Nat → Int32) (L : Nat → Nat → Int64) (hz0 : I 2 0 = nI z) : Ci l D K ad yX6_fail wsX6_fail 2 80 [.ref (ad 0), .int x, .int y] (I, G, A, L) (fun (r : Int32) (u : Mem) => (r, u) = cl_fail I G A L x y) := by
  intro sz
  refine Met.ofW (cc := cX6_fail) (maxL := 3) (ret := (some .int)) (by decide) rfl ?_
  intro p e s m args below meth c s₁ Bd hml hv0
  obtain ⟨rfl, hsz, hP, hK⟩ := hv0
  have hx := Bd.exec
  have hb := Bd.bytes
  have hr := Bd.returns
  have hts := atoms_spec (ws := wsX6_fail) Bd.pre
  have hown : s.vm.findClass RX6 = some m.cls := findClass_of_methodNamed Bd.named
  have hlocks := Bd.notSynchronized
  have hi6 : ∀ w ∈ u_ws RX6 TX6 18, w ∈ wsX6_fail := fun w h => List.mem_cons_of_mem _ (List.mem_append_left _ (List.mem_append_right _ h))
  have hi4 : ∀ w ∈ u_ws RX4 TX4 7, w ∈ wsX6_fail := fun w h => List.mem_cons_of_mem _ (List.mem_append_right _ h)
  subst hsz
  have hap := vF_ap hap0 s.heap.size
  have hS : va_S (vF ad s.heap.size) s.heap s.heap [] := va_S.rf
  have hP : va_P D vwCl (VW K ad I G A L) s.heap := hP
  have hl := lv_entry ([.ref (ad 0), .int x, .int y]) (n := 3) (Nat.le_of_ble_eq_true rfl)
  rw [lg_entry_eq]
  generalize (lg_sl ([.ref (ad 0), .int x, .int y]) ++ List.replicate (3 - (lg_sl ([.ref (ad 0), .int x, .int y])).length) Slot.unset).toArray = ls at hl ⊢
  have hl : lv_has ls 3 [(0, .ref (ad 0)), (1, .int x), (2, .int y)] := hl
  refine lv_iload_n hx hb dX6_fail_0 rfl (lv_at hl 1 rfl) ?_
  refine lv_iconst (v := 0) hx hb dX6_fail_1 (by decide) ?_
  refine lv_aload_n hx hb dX6_fail_2 rfl (lv_at hl 0 rfl) ?_
  refine vgC hx hb hts hi6 hown hK hP (0) (by decide) (show kd 0 = 6 by decide) (C := RX6) (T := TX6) (N := 18) rfl 2 (by decide) (by decide) (by decide) (by decide) (2) rfl (hts (.fieldLink RX6 22 "CrateHelpers" "team" "LCrateHelpers$Team;") (by decide +kernel)) (fun _ h9 => h9) dX6_fail_3 ?_
  refine vgI hx hb hts hi4 hown hK hP (2) (by decide) (show kd 2 = 4 by decide) (C := RX4) (T := TX4) (N := 7) rfl 0 (by decide) (by decide) (by decide) (by decide) (hts (.fieldLink RX6 158 "CrateHelpers$Team" "size" "I") (by decide +kernel)) (fun _ h9 => h9) dX6_fail_6 ?_
  refine lv_iconst (v := 1) hx hb dX6_fail_9 (by decide) ?_
  refine lv_isub hx hb dX6_fail_10 ?_
  refine vcS (As := [.int x, .int 0, .int ((I 2 0) - 1)]) (rest := []) ⟨hx, hb, hml, hown, hts⟩ (c_X6_isWithin l D K ad hap0 x 0 ((I 2 0) - 1) I G A L) (va_cwS 3 hts gX6_fail_X6_isWithin rfl rfl rfl (by decide +kernel) ⟨Nat.le_of_ble_eq_true rfl, Nat.le_of_ble_eq_true rfl⟩) hK hP hS rfl hl.1 (Nat.le_of_ble_eq_true rfl) (Nat.le_of_ble_eq_true rfl) (Nat.le_of_ble_eq_true rfl) dX6_fail_11 (fun r1 u2 H locs hw hP hS => ?_) rfl
  obtain ⟨hr1, rfl⟩ := hw
  have hP : va_P D vwCl (VW K ad I G A L) H := hP
  subst hr1
  by_cases hw3 : ¬ x < 0 ∧ ¬ ((I 2 0) - 1) < x
  · rw [if_pos hw3]
    refine lv_if_eq (tgt := 28) hx hb dX6_fail_14 (by decide) (fun c_4 => absurd c_4 (by decide)) (fun _ => ?_)
    refine lv_iload_n hx hb dX6_fail_17 rfl (lv_at hl 2 rfl) ?_
    refine lv_iconst (v := 0) hx hb dX6_fail_18 (by decide) ?_
    refine lv_sipush (v := 200) hx hb dX6_fail_19 (by decide) ?_
    refine vcS (As := [.int y, .int 0, .int 200]) (rest := []) ⟨hx, hb, hml, hown, hts⟩ (c_X6_isWithin l D K ad hap0 y 0 200 I G A L) (va_cwS 3 hts gX6_fail_X6_isWithin rfl rfl rfl (by decide +kernel) ⟨Nat.le_of_ble_eq_true rfl, Nat.le_of_ble_eq_true rfl⟩) hK hP hS rfl hl.1 (Nat.le_of_ble_eq_true rfl) (Nat.le_of_ble_eq_true rfl) (Nat.le_of_ble_eq_true rfl) dX6_fail_22 (fun r5 u6 H locs hw hP hS => ?_) rfl
    obtain ⟨hr5, rfl⟩ := hw
    have hP : va_P D vwCl (VW K ad I G A L) H := hP
    subst hr5
    by_cases hw7 : ¬ y < 0 ∧ ¬ 200 < y
    · rw [if_pos hw7]
      refine lv_if_ne (tgt := 30) hx hb dX6_fail_25 (by decide) (fun _ => ?_) (fun c_8 => absurd c_8 (by decide))
      refine lv_aload_n hx hb dX6_fail_30 rfl (lv_at hl 0 rfl) ?_
      refine vgI hx hb hts hi6 hown hK hP (0) (by decide) (show kd 0 = 6 by decide) (C := RX6) (T := TX6) (N := 18) rfl 5 (by decide) (by decide) (by decide) (by decide) (hts (.fieldLink RX6 29 "CrateHelpers" "underWay" "I") (by decide +kernel)) (fun _ h9 => h9) dX6_fail_31 ?_
      refine lv_bipush (v := (-9)) hx hb dX6_fail_34 (by decide) ?_
      refine lv_icmp_eq (tgt := 42) hx hb dX6_fail_36 (by decide) (fun c_9 => ?_) (fun c_9 => ?_)
      · refine lv_aload_n hx hb dX6_fail_42 rfl (lv_at hl 0 rfl) ?_
        refine vgC hx hb hts hi6 hown hK hP (0) (by decide) (show kd 0 = 6 by decide) (C := RX6) (T := TX6) (N := 18) rfl 2 (by decide) (by decide) (by decide) (by decide) (2) rfl (hts (.fieldLink RX6 22 "CrateHelpers" "team" "LCrateHelpers$Team;") (by decide +kernel)) (fun _ h9 => h9) dX6_fail_43 ?_
        refine vgS hx hb hts hi4 hown hK hP (2) (by decide) (show kd 2 = 4 by decide) (C := RX4) (T := TX4) (N := 7) rfl 2 (by decide) (by decide) (by decide) (by decide) (3) rfl (hts (.fieldLink RX6 165 "CrateHelpers$Team" "failAt" "[I") (by decide +kernel)) (fun _ h9 => h9) dX6_fail_46 ?_
        refine lv_iload_n hx hb dX6_fail_49 rfl (lv_at hl 1 rfl) ?_
        refine lv_iload_n hx hb dX6_fail_50 rfl (lv_at hl 2 rfl) ?_
        have hin : vp_in x (ln 3) := by rw [show ln 3 = 5 by decide]; exact in_lt hw3.1 (by have h9 := hw3.2; rw [hz0, show nI z - 1 = nI (z - 1) from by { have h := nI_pred (z - 1); rwa [Nat.sub_add_cancel hz1] at h }] at h9; exact Int32.lt_of_le_of_lt (Int32.not_lt.mp h9) (nI_lt (by omega) (by omega) : nI (z - 1) < nI z)) hz5 (by decide)
        refine xiast hx hb hK hP hap hS (3) (by decide) (show kd 3 = 8 by decide) hin dX6_fail_51 (fun H locs hP hS => ?_)
        obtain ⟨A10, eA10⟩ : ∃ z, z = up2 A 3 x.toNatClampNeg y := ⟨_, rfl⟩
        rw [← eA10] at hP
        have hP : va_P D vwCl (VW K ad I G A10 L) H := hP
        refine lv_iconst (v := 1) hx hb dX6_fail_52 (by decide) ?_
        exact W.iret (v := 1) hx hb hr (fun t9 ht9 hW9 => ⟨⟨1, (I, G, A10, L), rfl, by rw [eA10]; unfold cl_fail; rw [if_pos hw3, if_pos hw7, if_pos c_9], by rw [ht9]; exact hP, va_K.moved hW9.alike hK⟩, hS.F ht9⟩) hS.2.2 dX6_fail_53
      · refine lv_bipush (v := (-2)) hx hb dX6_fail_39 (by decide) ?_
        exact W.iret (v := (-2)) hx hb hr (fun t9 ht9 hW9 => ⟨⟨(-2), (I, G, A, L), rfl, by unfold cl_fail; rw [if_pos hw3, if_pos hw7, if_neg c_9], by rw [ht9]; exact hP, va_K.moved hW9.alike hK⟩, hS.F ht9⟩) hS.2.2 dX6_fail_41
    · rw [if_neg hw7]
      refine lv_if_ne (tgt := 30) hx hb dX6_fail_25 (by decide) (fun c_11 => absurd c_11 (by decide)) (fun _ => ?_)
      refine lv_iconst (v := (-1)) hx hb dX6_fail_28 (by decide) ?_
      exact W.iret (v := (-1)) hx hb hr (fun t9 ht9 hW9 => ⟨⟨(-1), (I, G, A, L), rfl, by unfold cl_fail; rw [if_pos hw3, if_neg hw7], by rw [ht9]; exact hP, va_K.moved hW9.alike hK⟩, hS.F ht9⟩) hS.2.2 dX6_fail_29
  · rw [if_neg hw3]
    refine lv_if_eq (tgt := 28) hx hb dX6_fail_14 (by decide) (fun _ => ?_) (fun c_12 => absurd c_12 (by decide))
    refine lv_iconst (v := (-1)) hx hb dX6_fail_28 (by decide) ?_
    exact W.iret (v := (-1)) hx hb hr (fun t9 ht9 hW9 => ⟨⟨(-1), (I, G, A, L), rfl, by unfold cl_fail; rw [if_neg hw3], by rw [ht9]; exact hP, va_K.moved hW9.alike hK⟩, hS.F ht9⟩) hS.2.2 dX6_fail_29

set_option maxHeartbeats 4000000 in
set_option maxRecDepth 100000 in
theorem c_X6_refuse (l : Launch) (D : va_G) (K : Nat → ClassId) (ad : Nat → Nat) (hap0 : apart ad (fun _ => True)) (x : Int32) (I : Nat → Nat → Int32) (G : Nat → Nat → Nat) (A : Nat → Nat → Int32) (L : Nat → Nat → Int64)  : Ci l D K ad yX6_refuse wsX6_refuse 0 0 [.ref (ad 0), .int x] (I, G, A, L) (fun (r : Int32) (u : Mem) => r = -1000000 ∧ u = (up2 I 0 17 x, G, A, L)) := by
  intro sz
  refine Met.ofW (cc := cX6_refuse) (maxL := 2) (ret := (some .int)) (by decide) rfl ?_
  intro p e s m args below meth c s₁ Bd hml hv0
  obtain ⟨rfl, hsz, hP, hK⟩ := hv0
  have hx := Bd.exec
  have hb := Bd.bytes
  have hr := Bd.returns
  have hts := atoms_spec (ws := wsX6_refuse) Bd.pre
  have hown : s.vm.findClass RX6 = some m.cls := findClass_of_methodNamed Bd.named
  have hlocks := Bd.notSynchronized
  have hi6 : ∀ w ∈ u_ws RX6 TX6 18, w ∈ wsX6_refuse := fun w h => List.mem_cons_of_mem _ (List.mem_append_right _ h)
  subst hsz
  have hap := vF_ap hap0 s.heap.size
  have hS : va_S (vF ad s.heap.size) s.heap s.heap [] := va_S.rf
  have hP : va_P D vwCl (VW K ad I G A L) s.heap := hP
  have hl := lv_entry ([.ref (ad 0), .int x]) (n := 2) (Nat.le_of_ble_eq_true rfl)
  rw [lg_entry_eq]
  generalize (lg_sl ([.ref (ad 0), .int x]) ++ List.replicate (2 - (lg_sl ([.ref (ad 0), .int x])).length) Slot.unset).toArray = ls at hl ⊢
  have hl : lv_has ls 2 [(0, .ref (ad 0)), (1, .int x)] := hl
  refine lv_aload_n hx hb dX6_refuse_0 rfl (lv_at hl 0 rfl) ?_
  refine lv_iload_n hx hb dX6_refuse_1 rfl (lv_at hl 1 rfl) ?_
  refine vpI (v := x) (ty := .int) hx hb hts hi6 tyX6 tyX6_ok nmX6 hown hK hP hap hS (0) (by decide) (show kd 0 = 6 by decide) (C := RX6) (T := TX6) (N := 18) rfl 17 (by decide) (by decide) (by decide) (by decide) (hts (.fieldLink RX6 64 "CrateHelpers" "refusedBy" "I") (by decide +kernel)) (fun _ h9 => h9) rfl (by decide +kernel) rfl rfl dX6_refuse_2 (fun H locs hP hS => ?_)
  obtain ⟨I1, eI1⟩ : ∃ z, z = up2 I 0 17 x := ⟨_, rfl⟩
  rw [← eI1] at hP
  have hP : va_P D vwCl (VW K ad I1 G A L) H := hP
  refine lv_ldcw (v := (-1000000)) hx hb hown (hts (.constant RX6 269 (-1000000)) (by decide +kernel)) dX6_refuse_5 ?_
  exact W.iret (v := (-1000000)) hx hb hr (fun t9 ht9 hW9 => ⟨⟨(-1000000), (I1, G, A, L), rfl, ⟨rfl, by rw [eI1]⟩, by rw [ht9]; exact hP, va_K.moved hW9.alike hK⟩, hS.F ht9⟩) hS.2.2 dX6_refuse_8

set_option maxHeartbeats 4000000 in
set_option maxRecDepth 100000 in
theorem c_X6_grant (l : Launch) (D : va_G) (K : Nat → ClassId) (ad : Nat → Nat) (hap0 : apart ad (fun _ => True)) (x : Int32) (I : Nat → Nat → Int32) (G : Nat → Nat → Nat) (A : Nat → Nat → Int32) (L : Nat → Nat → Int64)  : Ci l D K ad yX6_grant wsX6_grant 0 0 [.ref (ad 0), .int x] (I, G, A, L) (fun (r : Int32) (u : Mem) => r = x ∧ u = (up2 I 0 17 0, G, A, L)) := by
  intro sz
  refine Met.ofW (cc := cX6_grant) (maxL := 2) (ret := (some .int)) (by decide) rfl ?_
  intro p e s m args below meth c s₁ Bd hml hv0
  obtain ⟨rfl, hsz, hP, hK⟩ := hv0
  have hx := Bd.exec
  have hb := Bd.bytes
  have hr := Bd.returns
  have hts := atoms_spec (ws := wsX6_grant) Bd.pre
  have hown : s.vm.findClass RX6 = some m.cls := findClass_of_methodNamed Bd.named
  have hlocks := Bd.notSynchronized
  have hi6 : ∀ w ∈ u_ws RX6 TX6 18, w ∈ wsX6_grant := fun w h => List.mem_cons_of_mem _ (List.mem_append_right _ h)
  subst hsz
  have hap := vF_ap hap0 s.heap.size
  have hS : va_S (vF ad s.heap.size) s.heap s.heap [] := va_S.rf
  have hP : va_P D vwCl (VW K ad I G A L) s.heap := hP
  have hl := lv_entry ([.ref (ad 0), .int x]) (n := 2) (Nat.le_of_ble_eq_true rfl)
  rw [lg_entry_eq]
  generalize (lg_sl ([.ref (ad 0), .int x]) ++ List.replicate (2 - (lg_sl ([.ref (ad 0), .int x])).length) Slot.unset).toArray = ls at hl ⊢
  have hl : lv_has ls 2 [(0, .ref (ad 0)), (1, .int x)] := hl
  refine lv_aload_n hx hb dX6_grant_0 rfl (lv_at hl 0 rfl) ?_
  refine lv_iconst (v := 0) hx hb dX6_grant_1 (by decide) ?_
  refine vpI (v := 0) (ty := .int) hx hb hts hi6 tyX6 tyX6_ok nmX6 hown hK hP hap hS (0) (by decide) (show kd 0 = 6 by decide) (C := RX6) (T := TX6) (N := 18) rfl 17 (by decide) (by decide) (by decide) (by decide) (hts (.fieldLink RX6 64 "CrateHelpers" "refusedBy" "I") (by decide +kernel)) (fun _ h9 => h9) rfl (by decide +kernel) rfl rfl dX6_grant_2 (fun H locs hP hS => ?_)
  obtain ⟨I1, eI1⟩ : ∃ z, z = up2 I 0 17 0 := ⟨_, rfl⟩
  rw [← eI1] at hP
  have hP : va_P D vwCl (VW K ad I1 G A L) H := hP
  refine lv_iload_n hx hb dX6_grant_5 rfl (lv_at hl 1 rfl) ?_
  exact W.iret (v := x) hx hb hr (fun t9 ht9 hW9 => ⟨⟨x, (I1, G, A, L), rfl, ⟨rfl, by rw [eI1]⟩, by rw [ht9]; exact hP, va_K.moved hW9.alike hK⟩, hS.F ht9⟩) hS.2.2 dX6_grant_6

set_option maxHeartbeats 4000000 in
set_option maxRecDepth 100000 in
theorem c_X6_asNumber (l : Launch) (D : va_G) (K : Nat → ClassId) (ad : Nat → Nat) (hap0 : apart ad (fun _ => True)) (x : Int32) (I : Nat → Nat → Int32) (G : Nat → Nat → Nat) (A : Nat → Nat → Int32) (L : Nat → Nat → Int64)  : Ci l D K ad yX6_asNumber wsX6_asNumber 0 0 [.int x] (I, G, A, L) (fun (r : Int32) (u : Mem) => r = (if x = 0 then 0 else 1) ∧ u = (I, G, A, L)) := by
  intro sz
  refine Met.ofW (cc := cX6_asNumber) (maxL := 1) (ret := (some .int)) (by decide) rfl ?_
  intro p e s m args below meth c s₁ Bd hml hv0
  obtain ⟨rfl, hsz, hP, hK⟩ := hv0
  have hx := Bd.exec
  have hb := Bd.bytes
  have hr := Bd.returns
  have hts := atoms_spec (ws := wsX6_asNumber) Bd.pre
  have hown : s.vm.findClass RX6 = some m.cls := findClass_of_methodNamed Bd.named
  have hlocks := Bd.notSynchronized
  subst hsz
  have hap := vF_ap hap0 s.heap.size
  have hS : va_S (vF ad s.heap.size) s.heap s.heap [] := va_S.rf
  have hP : va_P D vwCl (VW K ad I G A L) s.heap := hP
  have hl := lv_entry ([.int x]) (n := 1) (Nat.le_of_ble_eq_true rfl)
  rw [lg_entry_eq]
  generalize (lg_sl ([.int x]) ++ List.replicate (1 - (lg_sl ([.int x])).length) Slot.unset).toArray = ls at hl ⊢
  have hl : lv_has ls 1 [(0, .int x)] := hl
  refine lv_iload_n hx hb dX6_asNumber_0 rfl (lv_at hl 0 rfl) ?_
  refine lv_if_eq (tgt := 8) hx hb dX6_asNumber_1 (by decide) (fun c_1 => ?_) (fun c_1 => ?_)
  · refine lv_iconst (v := 0) hx hb dX6_asNumber_8 (by decide) ?_
    exact W.iret (v := 0) hx hb hr (fun t9 ht9 hW9 => ⟨⟨0, (I, G, A, L), rfl, ⟨by first | (simp [c_1]; done), rfl⟩, by rw [ht9]; exact hP, va_K.moved hW9.alike hK⟩, hS.F ht9⟩) hS.2.2 dX6_asNumber_9
  · refine lv_iconst (v := 1) hx hb dX6_asNumber_4 (by decide) ?_
    refine lv_goto (tgt := 9) hx hb dX6_asNumber_5 (by decide) ?_
    exact W.iret (v := 1) hx hb hr (fun t9 ht9 hW9 => ⟨⟨1, (I, G, A, L), rfl, ⟨by first | (simp [c_1]; done), rfl⟩, by rw [ht9]; exact hP, va_K.moved hW9.alike hK⟩, hS.F ht9⟩) hS.2.2 dX6_asNumber_9

set_option maxHeartbeats 4000000 in
set_option maxRecDepth 100000 in
theorem c_X6_isRuleNumber (l : Launch) (D : va_G) (K : Nat → ClassId) (ad : Nat → Nat) (hap0 : apart ad (fun _ => True)) (x : Int32) (I : Nat → Nat → Int32) (G : Nat → Nat → Nat) (A : Nat → Nat → Int32) (L : Nat → Nat → Int64)  : Ci l D K ad yX6_isRuleNumber wsX6_isRuleNumber 1 40 [.int x] (I, G, A, L) (fun (r : Int32) (u : Mem) => r = (if ¬ x < (-1000) ∧ ¬ 1000 < x then 1 else 0) ∧ u = (I, G, A, L)) := by
  intro sz
  refine Met.ofW (cc := cX6_isRuleNumber) (maxL := 1) (ret := (some .boolean)) (by decide) rfl ?_
  intro p e s m args below meth c s₁ Bd hml hv0
  obtain ⟨rfl, hsz, hP, hK⟩ := hv0
  have hx := Bd.exec
  have hb := Bd.bytes
  have hr := Bd.returns
  have hts := atoms_spec (ws := wsX6_isRuleNumber) Bd.pre
  have hown : s.vm.findClass RX6 = some m.cls := findClass_of_methodNamed Bd.named
  have hlocks := Bd.notSynchronized
  subst hsz
  have hap := vF_ap hap0 s.heap.size
  have hS : va_S (vF ad s.heap.size) s.heap s.heap [] := va_S.rf
  have hP : va_P D vwCl (VW K ad I G A L) s.heap := hP
  have hl := lv_entry ([.int x]) (n := 1) (Nat.le_of_ble_eq_true rfl)
  rw [lg_entry_eq]
  generalize (lg_sl ([.int x]) ++ List.replicate (1 - (lg_sl ([.int x])).length) Slot.unset).toArray = ls at hl ⊢
  have hl : lv_has ls 1 [(0, .int x)] := hl
  refine lv_iload_n hx hb dX6_isRuleNumber_0 rfl (lv_at hl 0 rfl) ?_
  refine lv_sipush (v := (-1000)) hx hb dX6_isRuleNumber_1 (by decide) ?_
  refine lv_sipush (v := 1000) hx hb dX6_isRuleNumber_4 (by decide) ?_
  refine vcS (As := [.int x, .int (-1000), .int 1000]) (rest := []) ⟨hx, hb, hml, hown, hts⟩ (c_X6_isWithin l D K ad hap0 x (-1000) 1000 I G A L) (va_cwS 3 hts gX6_isRuleNumber_X6_isWithin rfl rfl rfl (by decide +kernel) ⟨Nat.le_of_ble_eq_true rfl, Nat.le_of_ble_eq_true rfl⟩) hK hP hS rfl hl.1 (Nat.le_of_ble_eq_true rfl) (Nat.le_of_ble_eq_true rfl) (Nat.le_of_ble_eq_true rfl) dX6_isRuleNumber_7 (fun r1 u2 H locs hw hP hS => ?_) rfl
  obtain ⟨hr1, rfl⟩ := hw
  have hP : va_P D vwCl (VW K ad I G A L) H := hP
  subst hr1
  by_cases hw3 : ¬ x < (-1000) ∧ ¬ 1000 < x
  · rw [if_pos hw3]
    exact W.zret (v := 1) hx hb hr (by decide) (fun t9 ht9 hW9 => ⟨⟨1, (I, G, A, L), rfl, ⟨by first | rfl | exact (if_pos hw3).symm, rfl⟩, by rw [ht9]; exact hP, va_K.moved hW9.alike hK⟩, hS.F ht9⟩) hS.2.2 dX6_isRuleNumber_10
  · rw [if_neg hw3]
    exact W.zret (v := 0) hx hb hr (by decide) (fun t9 ht9 hW9 => ⟨⟨0, (I, G, A, L), rfl, ⟨by first | rfl | exact (if_neg hw3).symm, rfl⟩, by rw [ht9]; exact hP, va_K.moved hW9.alike hK⟩, hS.F ht9⟩) hS.2.2 dX6_isRuleNumber_10

def cl_turn (I : Nat → Nat → Int32) (G : Nat → Nat → Nat) (A : Nat → Nat → Int32) (L : Nat → Nat → Int64) (x : Int32) : Int32 × Mem := if ¬ x < 0 ∧ ¬ 4 < x then (if I 0 5 = -9 then (if I 2 1 < 200 then (I 2 1 + 1, (up2 I 2 1 (I 2 1 + 1), G, up2 A 4 (I 2 1).toNatClampNeg x, L)) else (-3, (I, G, A, L))) else (-2, (I, G, A, L))) else (-1, (I, G, A, L))

set_option maxHeartbeats 4000000 in
set_option maxRecDepth 100000 in
theorem c_X6_turn (l : Launch) (D : va_G) (K : Nat → ClassId) (ad : Nat → Nat) (hap0 : apart ad (fun _ => True))  (x : Int32) (k : Nat) (hk : k ≤ 200) (I : Nat → Nat → Int32) (G : Nat → Nat → Nat) (A : Nat → Nat → Int32) (L : Nat → Nat → Int64) (hk0 : I 2 1 = nI k) : Ci l D K ad yX6_turn wsX6_turn 2 80 [.ref (ad 0), .int x] (I, G, A, L) (fun (r : Int32) (u : Mem) => (r, u) = cl_turn I G A L x) := by
  intro sz
  refine Met.ofW (cc := cX6_turn) (maxL := 2) (ret := (some .int)) (by decide) rfl ?_
  intro p e s m args below meth c s₁ Bd hml hv0
  obtain ⟨rfl, hsz, hP, hK⟩ := hv0
  have hx := Bd.exec
  have hb := Bd.bytes
  have hr := Bd.returns
  have hts := atoms_spec (ws := wsX6_turn) Bd.pre
  have hown : s.vm.findClass RX6 = some m.cls := findClass_of_methodNamed Bd.named
  have hlocks := Bd.notSynchronized
  have hi6 : ∀ w ∈ u_ws RX6 TX6 18, w ∈ wsX6_turn := fun w h => List.mem_cons_of_mem _ (List.mem_append_left _ (List.mem_append_right _ h))
  have hi4 : ∀ w ∈ u_ws RX4 TX4 7, w ∈ wsX6_turn := fun w h => List.mem_cons_of_mem _ (List.mem_append_right _ h)
  subst hsz
  have hap := vF_ap hap0 s.heap.size
  have hS : va_S (vF ad s.heap.size) s.heap s.heap [] := va_S.rf
  have hP : va_P D vwCl (VW K ad I G A L) s.heap := hP
  have hl := lv_entry ([.ref (ad 0), .int x]) (n := 2) (Nat.le_of_ble_eq_true rfl)
  rw [lg_entry_eq]
  generalize (lg_sl ([.ref (ad 0), .int x]) ++ List.replicate (2 - (lg_sl ([.ref (ad 0), .int x])).length) Slot.unset).toArray = ls at hl ⊢
  have hl : lv_has ls 2 [(0, .ref (ad 0)), (1, .int x)] := hl
  refine lv_iload_n hx hb dX6_turn_0 rfl (lv_at hl 1 rfl) ?_
  refine lv_iconst (v := 0) hx hb dX6_turn_1 (by decide) ?_
  refine lv_iconst (v := 4) hx hb dX6_turn_2 (by decide) ?_
  refine vcS (As := [.int x, .int 0, .int 4]) (rest := []) ⟨hx, hb, hml, hown, hts⟩ (c_X6_isWithin l D K ad hap0 x 0 4 I G A L) (va_cwS 3 hts gX6_turn_X6_isWithin rfl rfl rfl (by decide +kernel) ⟨Nat.le_of_ble_eq_true rfl, Nat.le_of_ble_eq_true rfl⟩) hK hP hS rfl hl.1 (Nat.le_of_ble_eq_true rfl) (Nat.le_of_ble_eq_true rfl) (Nat.le_of_ble_eq_true rfl) dX6_turn_3 (fun r1 u2 H locs hw hP hS => ?_) rfl
  obtain ⟨hr1, rfl⟩ := hw
  have hP : va_P D vwCl (VW K ad I G A L) H := hP
  subst hr1
  by_cases hw3 : ¬ x < 0 ∧ ¬ 4 < x
  · rw [if_pos hw3]
    refine lv_if_ne (tgt := 11) hx hb dX6_turn_6 (by decide) (fun _ => ?_) (fun c_4 => absurd c_4 (by decide))
    refine lv_aload_n hx hb dX6_turn_11 rfl (lv_at hl 0 rfl) ?_
    refine vgI hx hb hts hi6 hown hK hP (0) (by decide) (show kd 0 = 6 by decide) (C := RX6) (T := TX6) (N := 18) rfl 5 (by decide) (by decide) (by decide) (by decide) (hts (.fieldLink RX6 29 "CrateHelpers" "underWay" "I") (by decide +kernel)) (fun _ h9 => h9) dX6_turn_12 ?_
    refine lv_bipush (v := (-9)) hx hb dX6_turn_15 (by decide) ?_
    refine lv_icmp_eq (tgt := 23) hx hb dX6_turn_17 (by decide) (fun c_5 => ?_) (fun c_5 => ?_)
    · refine lv_aload_n hx hb dX6_turn_23 rfl (lv_at hl 0 rfl) ?_
      refine vgC hx hb hts hi6 hown hK hP (0) (by decide) (show kd 0 = 6 by decide) (C := RX6) (T := TX6) (N := 18) rfl 2 (by decide) (by decide) (by decide) (by decide) (2) rfl (hts (.fieldLink RX6 22 "CrateHelpers" "team" "LCrateHelpers$Team;") (by decide +kernel)) (fun _ h9 => h9) dX6_turn_24 ?_
      refine vgI hx hb hts hi4 hown hK hP (2) (by decide) (show kd 2 = 4 by decide) (C := RX4) (T := TX4) (N := 7) rfl 1 (by decide) (by decide) (by decide) (by decide) (hts (.fieldLink RX6 168 "CrateHelpers$Team" "scheduled" "I") (by decide +kernel)) (fun _ h9 => h9) dX6_turn_27 ?_
      refine lv_sipush (v := 200) hx hb dX6_turn_30 (by decide) ?_
      refine lv_icmp_lt (tgt := 39) hx hb dX6_turn_33 (by decide) (fun c_6 => ?_) (fun c_6 => ?_)
      · refine lv_aload_n hx hb dX6_turn_39 rfl (lv_at hl 0 rfl) ?_
        refine vgC hx hb hts hi6 hown hK hP (0) (by decide) (show kd 0 = 6 by decide) (C := RX6) (T := TX6) (N := 18) rfl 2 (by decide) (by decide) (by decide) (by decide) (2) rfl (hts (.fieldLink RX6 22 "CrateHelpers" "team" "LCrateHelpers$Team;") (by decide +kernel)) (fun _ h9 => h9) dX6_turn_40 ?_
        refine vgS hx hb hts hi4 hown hK hP (2) (by decide) (show kd 2 = 4 by decide) (C := RX4) (T := TX4) (N := 7) rfl 3 (by decide) (by decide) (by decide) (by decide) (4) rfl (hts (.fieldLink RX6 171 "CrateHelpers$Team" "schedule" "[I") (by decide +kernel)) (fun _ h9 => h9) dX6_turn_43 ?_
        refine lv_aload_n hx hb dX6_turn_46 rfl (lv_at hl 0 rfl) ?_
        refine vgC hx hb hts hi6 hown hK hP (0) (by decide) (show kd 0 = 6 by decide) (C := RX6) (T := TX6) (N := 18) rfl 2 (by decide) (by decide) (by decide) (by decide) (2) rfl (hts (.fieldLink RX6 22 "CrateHelpers" "team" "LCrateHelpers$Team;") (by decide +kernel)) (fun _ h9 => h9) dX6_turn_47 ?_
        refine vgI hx hb hts hi4 hown hK hP (2) (by decide) (show kd 2 = 4 by decide) (C := RX4) (T := TX4) (N := 7) rfl 1 (by decide) (by decide) (by decide) (by decide) (hts (.fieldLink RX6 168 "CrateHelpers$Team" "scheduled" "I") (by decide +kernel)) (fun _ h9 => h9) dX6_turn_50 ?_
        refine lv_iload_n hx hb dX6_turn_53 rfl (lv_at hl 1 rfl) ?_
        have hin : vp_in (I 2 1) (ln 4) := by rw [show ln 4 = 200 by decide, hk0]; rw [hk0] at c_6; exact vp_in_nI ((nI_ltI (b := 200) (by omega) (by omega)).mp c_6) (by decide)
        refine xiast hx hb hK hP hap hS (4) (by decide) (show kd 4 = 8 by decide) hin dX6_turn_54 (fun H locs hP hS => ?_)
        obtain ⟨A7, eA7⟩ : ∃ z, z = up2 A 4 ((I 2 1).toNatClampNeg) x := ⟨_, rfl⟩
        rw [← eA7] at hP
        have hP : va_P D vwCl (VW K ad I G A7 L) H := hP
        refine lv_aload_n hx hb dX6_turn_55 rfl (lv_at hl 0 rfl) ?_
        refine vgC hx hb hts hi6 hown hK hP (0) (by decide) (show kd 0 = 6 by decide) (C := RX6) (T := TX6) (N := 18) rfl 2 (by decide) (by decide) (by decide) (by decide) (2) rfl (hts (.fieldLink RX6 22 "CrateHelpers" "team" "LCrateHelpers$Team;") (by decide +kernel)) (fun _ h9 => h9) dX6_turn_56 ?_
        refine lv_dup hx hb dX6_turn_59 rfl ?_
        refine vgI hx hb hts hi4 hown hK hP (2) (by decide) (show kd 2 = 4 by decide) (C := RX4) (T := TX4) (N := 7) rfl 1 (by decide) (by decide) (by decide) (by decide) (hts (.fieldLink RX6 168 "CrateHelpers$Team" "scheduled" "I") (by decide +kernel)) (fun _ h9 => h9) dX6_turn_60 ?_
        refine lv_iconst (v := 1) hx hb dX6_turn_63 (by decide) ?_
        refine lv_iadd hx hb dX6_turn_64 ?_
        refine vpI (v := ((I 2 1) + 1)) (ty := .int) hx hb hts hi4 tyX4 tyX4_ok nmX4 hown hK hP hap hS (2) (by decide) (show kd 2 = 4 by decide) (C := RX4) (T := TX4) (N := 7) rfl 1 (by decide) (by decide) (by decide) (by decide) (hts (.fieldLink RX6 168 "CrateHelpers$Team" "scheduled" "I") (by decide +kernel)) (fun _ h9 => h9) rfl (by decide +kernel) rfl rfl dX6_turn_65 (fun H locs hP hS => ?_)
        obtain ⟨I8, eI8⟩ : ∃ z, z = up2 I 2 1 ((I 2 1) + 1) := ⟨_, rfl⟩
        rw [← eI8] at hP
        have hP : va_P D vwCl (VW K ad I8 G A7 L) H := hP
        refine lv_aload_n hx hb dX6_turn_68 rfl (lv_at hl 0 rfl) ?_
        refine vgC hx hb hts hi6 hown hK hP (0) (by decide) (show kd 0 = 6 by decide) (C := RX6) (T := TX6) (N := 18) rfl 2 (by decide) (by decide) (by decide) (by decide) (2) rfl (hts (.fieldLink RX6 22 "CrateHelpers" "team" "LCrateHelpers$Team;") (by decide +kernel)) (fun _ h9 => h9) dX6_turn_69 ?_
        refine vgI hx hb hts hi4 hown hK hP (2) (by decide) (show kd 2 = 4 by decide) (C := RX4) (T := TX4) (N := 7) rfl 1 (by decide) (by decide) (by decide) (by decide) (hts (.fieldLink RX6 168 "CrateHelpers$Team" "scheduled" "I") (by decide +kernel)) (fun _ h9 => h9) dX6_turn_72 ?_
        exact W.iret (v := (I8 2 1)) hx hb hr (fun t9 ht9 hW9 => ⟨⟨(I8 2 1), (I8, G, A7, L), rfl, by rw [eI8, eA7]; unfold cl_turn; rw [if_pos hw3, if_pos c_5, if_pos c_6]; simp only [up2_s], by rw [ht9]; exact hP, va_K.moved hW9.alike hK⟩, hS.F ht9⟩) hS.2.2 dX6_turn_75
      · refine lv_bipush (v := (-3)) hx hb dX6_turn_36 (by decide) ?_
        exact W.iret (v := (-3)) hx hb hr (fun t9 ht9 hW9 => ⟨⟨(-3), (I, G, A, L), rfl, by unfold cl_turn; rw [if_pos hw3, if_pos c_5, if_neg c_6], by rw [ht9]; exact hP, va_K.moved hW9.alike hK⟩, hS.F ht9⟩) hS.2.2 dX6_turn_38
    · refine lv_bipush (v := (-2)) hx hb dX6_turn_20 (by decide) ?_
      exact W.iret (v := (-2)) hx hb hr (fun t9 ht9 hW9 => ⟨⟨(-2), (I, G, A, L), rfl, by unfold cl_turn; rw [if_pos hw3, if_neg c_5], by rw [ht9]; exact hP, va_K.moved hW9.alike hK⟩, hS.F ht9⟩) hS.2.2 dX6_turn_22
  · rw [if_neg hw3]
    refine lv_if_ne (tgt := 11) hx hb dX6_turn_6 (by decide) (fun c_9 => absurd c_9 (by decide)) (fun _ => ?_)
    refine lv_iconst (v := (-1)) hx hb dX6_turn_9 (by decide) ?_
    exact W.iret (v := (-1)) hx hb hr (fun t9 ht9 hW9 => ⟨⟨(-1), (I, G, A, L), rfl, by unfold cl_turn; rw [if_neg hw3], by rw [ht9]; exact hP, va_K.moved hW9.alike hK⟩, hS.F ht9⟩) hS.2.2 dX6_turn_10

def cl_helper (I : Nat → Nat → Int32) (G : Nat → Nat → Nat) (A : Nat → Nat → Int32) (L : Nat → Nat → Int64) (x w : Int32) : Int32 × Mem := if ¬ x < 0 ∧ ¬ 4 < x then (if w = 0 then A 5 x.toNatClampNeg else if w = 1 then A 6 x.toNatClampNeg else if w = 2 then A 7 x.toNatClampNeg else -1, (I, G, A, L)) else (-1, (I, G, A, L))

set_option maxHeartbeats 4000000 in
set_option maxRecDepth 100000 in
theorem c_X6_helper (l : Launch) (D : va_G) (K : Nat → ClassId) (ad : Nat → Nat) (hap0 : apart ad (fun _ => True))  (x w : Int32) (I : Nat → Nat → Int32) (G : Nat → Nat → Nat) (A : Nat → Nat → Int32) (L : Nat → Nat → Int64)  : Ci l D K ad yX6_helper wsX6_helper 2 80 [.ref (ad 0), .int x, .int w] (I, G, A, L) (fun (r : Int32) (u : Mem) => (r, u) = cl_helper I G A L x w) := by
  intro sz
  refine Met.ofW (cc := cX6_helper) (maxL := 3) (ret := (some .int)) (by decide) rfl ?_
  intro p e s m args below meth c s₁ Bd hml hv0
  obtain ⟨rfl, hsz, hP, hK⟩ := hv0
  have hx := Bd.exec
  have hb := Bd.bytes
  have hr := Bd.returns
  have hts := atoms_spec (ws := wsX6_helper) Bd.pre
  have hown : s.vm.findClass RX6 = some m.cls := findClass_of_methodNamed Bd.named
  have hlocks := Bd.notSynchronized
  have hi6 : ∀ w ∈ u_ws RX6 TX6 18, w ∈ wsX6_helper := fun w h => List.mem_cons_of_mem _ (List.mem_append_left _ (List.mem_append_right _ h))
  have hi4 : ∀ w ∈ u_ws RX4 TX4 7, w ∈ wsX6_helper := fun w h => List.mem_cons_of_mem _ (List.mem_append_right _ h)
  subst hsz
  have hap := vF_ap hap0 s.heap.size
  have hS : va_S (vF ad s.heap.size) s.heap s.heap [] := va_S.rf
  have hP : va_P D vwCl (VW K ad I G A L) s.heap := hP
  have hl := lv_entry ([.ref (ad 0), .int x, .int w]) (n := 3) (Nat.le_of_ble_eq_true rfl)
  rw [lg_entry_eq]
  generalize (lg_sl ([.ref (ad 0), .int x, .int w]) ++ List.replicate (3 - (lg_sl ([.ref (ad 0), .int x, .int w])).length) Slot.unset).toArray = ls at hl ⊢
  have hl : lv_has ls 3 [(0, .ref (ad 0)), (1, .int x), (2, .int w)] := hl
  refine lv_iload_n hx hb dX6_helper_0 rfl (lv_at hl 1 rfl) ?_
  refine lv_iconst (v := 0) hx hb dX6_helper_1 (by decide) ?_
  refine lv_iconst (v := 4) hx hb dX6_helper_2 (by decide) ?_
  refine vcS (As := [.int x, .int 0, .int 4]) (rest := []) ⟨hx, hb, hml, hown, hts⟩ (c_X6_isWithin l D K ad hap0 x 0 4 I G A L) (va_cwS 3 hts gX6_helper_X6_isWithin rfl rfl rfl (by decide +kernel) ⟨Nat.le_of_ble_eq_true rfl, Nat.le_of_ble_eq_true rfl⟩) hK hP hS rfl hl.1 (Nat.le_of_ble_eq_true rfl) (Nat.le_of_ble_eq_true rfl) (Nat.le_of_ble_eq_true rfl) dX6_helper_3 (fun r1 u2 H locs hw hP hS => ?_) rfl
  obtain ⟨hr1, rfl⟩ := hw
  have hP : va_P D vwCl (VW K ad I G A L) H := hP
  subst hr1
  by_cases hw3 : ¬ x < 0 ∧ ¬ 4 < x
  · rw [if_pos hw3]
    refine lv_if_ne (tgt := 11) hx hb dX6_helper_6 (by decide) (fun _ => ?_) (fun c_4 => absurd c_4 (by decide))
    have hin : vp_in x 5 := in_lt hw3.1 (Int32.lt_of_le_of_lt (Int32.not_lt.mp hw3.2) (by decide : (4 : Int32) < nI 5)) (Nat.le_refl 5) (by decide)
    refine lv_iload_n hx hb dX6_helper_11 rfl (lv_at hl 2 rfl) ?_
    rcases sw_2 w with rfl | rfl | rfl | hs5
    · refine lv_tableIn (off := 28) (tgt := 40) hx hb dX6_helper_12 (by decide) (by decide) (by decide) (by decide) ?_
      refine lv_aload_n hx hb dX6_helper_40 rfl (lv_at hl 0 rfl) ?_
      refine vgC hx hb hts hi6 hown hK hP (0) (by decide) (show kd 0 = 6 by decide) (C := RX6) (T := TX6) (N := 18) rfl 2 (by decide) (by decide) (by decide) (by decide) (2) rfl (hts (.fieldLink RX6 22 "CrateHelpers" "team" "LCrateHelpers$Team;") (by decide +kernel)) (fun _ h9 => h9) dX6_helper_41 ?_
      refine vgS hx hb hts hi4 hown hK hP (2) (by decide) (show kd 2 = 4 by decide) (C := RX4) (T := TX4) (N := 7) rfl 4 (by decide) (by decide) (by decide) (by decide) (5) rfl (hts (.fieldLink RX6 223 "CrateHelpers$Team" "done" "[I") (by decide +kernel)) (fun _ h9 => h9) dX6_helper_44 ?_
      refine lv_iload_n hx hb dX6_helper_47 rfl (lv_at hl 1 rfl) ?_
      refine xiald hx hb hK hP (5) (by decide) (show kd 5 = 8 by decide) (by rw [show ln 5 = 5 by decide]; exact hin) dX6_helper_48 ?_
      exact W.iret (v := (A 5 x.toNatClampNeg)) hx hb hr (fun t9 ht9 hW9 => ⟨⟨(A 5 x.toNatClampNeg), (I, G, A, L), rfl, by unfold cl_helper; rw [if_pos hw3]; first | rfl | simp, by rw [ht9]; exact hP, va_K.moved hW9.alike hK⟩, hS.F ht9⟩) hS.2.2 dX6_helper_49
    · refine lv_tableIn (off := 38) (tgt := 50) hx hb dX6_helper_12 (by decide) (by decide) (by decide) (by decide) ?_
      refine lv_aload_n hx hb dX6_helper_50 rfl (lv_at hl 0 rfl) ?_
      refine vgC hx hb hts hi6 hown hK hP (0) (by decide) (show kd 0 = 6 by decide) (C := RX6) (T := TX6) (N := 18) rfl 2 (by decide) (by decide) (by decide) (by decide) (2) rfl (hts (.fieldLink RX6 22 "CrateHelpers" "team" "LCrateHelpers$Team;") (by decide +kernel)) (fun _ h9 => h9) dX6_helper_51 ?_
      refine vgS hx hb hts hi4 hown hK hP (2) (by decide) (show kd 2 = 4 by decide) (C := RX4) (T := TX4) (N := 7) rfl 5 (by decide) (by decide) (by decide) (by decide) (6) rfl (hts (.fieldLink RX6 226 "CrateHelpers$Team" "idle" "[I") (by decide +kernel)) (fun _ h9 => h9) dX6_helper_54 ?_
      refine lv_iload_n hx hb dX6_helper_57 rfl (lv_at hl 1 rfl) ?_
      refine xiald hx hb hK hP (6) (by decide) (show kd 6 = 8 by decide) (by rw [show ln 6 = 5 by decide]; exact hin) dX6_helper_58 ?_
      exact W.iret (v := (A 6 x.toNatClampNeg)) hx hb hr (fun t9 ht9 hW9 => ⟨⟨(A 6 x.toNatClampNeg), (I, G, A, L), rfl, by unfold cl_helper; rw [if_pos hw3]; first | rfl | simp, by rw [ht9]; exact hP, va_K.moved hW9.alike hK⟩, hS.F ht9⟩) hS.2.2 dX6_helper_59
    · refine lv_tableIn (off := 48) (tgt := 60) hx hb dX6_helper_12 (by decide) (by decide) (by decide) (by decide) ?_
      refine lv_aload_n hx hb dX6_helper_60 rfl (lv_at hl 0 rfl) ?_
      refine vgC hx hb hts hi6 hown hK hP (0) (by decide) (show kd 0 = 6 by decide) (C := RX6) (T := TX6) (N := 18) rfl 2 (by decide) (by decide) (by decide) (by decide) (2) rfl (hts (.fieldLink RX6 22 "CrateHelpers" "team" "LCrateHelpers$Team;") (by decide +kernel)) (fun _ h9 => h9) dX6_helper_61 ?_
      refine vgS hx hb hts hi4 hown hK hP (2) (by decide) (show kd 2 = 4 by decide) (C := RX4) (T := TX4) (N := 7) rfl 6 (by decide) (by decide) (by decide) (by decide) (7) rfl (hts (.fieldLink RX6 229 "CrateHelpers$Team" "replaced" "[I") (by decide +kernel)) (fun _ h9 => h9) dX6_helper_64 ?_
      refine lv_iload_n hx hb dX6_helper_67 rfl (lv_at hl 1 rfl) ?_
      refine xiald hx hb hK hP (7) (by decide) (show kd 7 = 8 by decide) (by rw [show ln 7 = 5 by decide]; exact hin) dX6_helper_68 ?_
      exact W.iret (v := (A 7 x.toNatClampNeg)) hx hb hr (fun t9 ht9 hW9 => ⟨⟨(A 7 x.toNatClampNeg), (I, G, A, L), rfl, by unfold cl_helper; rw [if_pos hw3]; first | rfl | simp, by rw [ht9]; exact hP, va_K.moved hW9.alike hK⟩, hS.F ht9⟩) hS.2.2 dX6_helper_69
    · refine lv_tableOut (tgt := 70) hx hb dX6_helper_12 hs5 (by decide) ?_
      refine lv_iconst (v := (-1)) hx hb dX6_helper_70 (by decide) ?_
      exact W.iret (v := (-1)) hx hb hr (fun t9 ht9 hW9 => ⟨⟨(-1), (I, G, A, L), rfl, by unfold cl_helper; rw [if_pos hw3]; simp [sw_ne2 hs5], by rw [ht9]; exact hP, va_K.moved hW9.alike hK⟩, hS.F ht9⟩) hS.2.2 dX6_helper_71
  · rw [if_neg hw3]
    refine lv_if_ne (tgt := 11) hx hb dX6_helper_6 (by decide) (fun c_6 => absurd c_6 (by decide)) (fun _ => ?_)
    refine lv_iconst (v := (-1)) hx hb dX6_helper_9 (by decide) ?_
    exact W.iret (v := (-1)) hx hb hr (fun t9 ht9 hW9 => ⟨⟨(-1), (I, G, A, L), rfl, by unfold cl_helper; rw [if_neg hw3], by rw [ht9]; exact hP, va_K.moved hW9.alike hK⟩, hS.F ht9⟩) hS.2.2 dX6_helper_10

def cl_count (I : Nat → Nat → Int32) (G : Nat → Nat → Nat) (A : Nat → Nat → Int32) (L : Nat → Nat → Int64) (w : Int32) : Int32 × Mem := (if w = 0 then I 0 1 else if w = 1 then I 0 3 else if w = 2 then I 2 0 else if w = 3 then I 2 1 else if w = 4 then I 0 5 else if w = 5 then (if I 0 5 = -9 then 0 else I (G 14 0) 9) else if w = 6 then (if I 0 5 = -9 then 0 else I (G 14 0) 10) else if w = 7 then (if I 0 5 = -9 then 0 else I (G 14 0) 11) else -1, (I, G, A, L))

set_option maxHeartbeats 4000000 in
set_option maxRecDepth 100000 in
theorem c_X6_count (l : Launch) (D : va_G) (K : Nat → ClassId) (ad : Nat → Nat) (hap0 : apart ad (fun _ => True))  (w : Int32) (T : Nat) (hT : TrAt T) (I : Nat → Nat → Int32) (G : Nat → Nat → Nat) (A : Nat → Nat → Int32) (L : Nat → Nat → Int64) (hgT : G 14 0 = T) : Ci l D K ad yX6_count wsX6_count 0 0 [.ref (ad 0), .int w] (I, G, A, L) (fun (r : Int32) (u : Mem) => (r, u) = cl_count I G A L w) := by
  intro sz
  refine Met.ofW (cc := cX6_count) (maxL := 3) (ret := (some .int)) (by decide) rfl ?_
  intro p e s m args below meth c s₁ Bd hml hv0
  obtain ⟨rfl, hsz, hP, hK⟩ := hv0
  have hx := Bd.exec
  have hb := Bd.bytes
  have hr := Bd.returns
  have hts := atoms_spec (ws := wsX6_count) Bd.pre
  have hown : s.vm.findClass RX6 = some m.cls := findClass_of_methodNamed Bd.named
  have hlocks := Bd.notSynchronized
  have hi6 : ∀ w ∈ u_ws RX6 TX6 18, w ∈ wsX6_count := fun w h => List.mem_cons_of_mem _ (List.mem_append_left _ (List.mem_append_left _ (List.mem_append_left _ (List.mem_append_right _ h))))
  have hi4 : ∀ w ∈ u_ws RX4 TX4 7, w ∈ wsX6_count := fun w h => List.mem_cons_of_mem _ (List.mem_append_left _ (List.mem_append_left _ (List.mem_append_right _ h)))
  have hi3 : ∀ w ∈ u_ws RX3 TX3 6, w ∈ wsX6_count := fun w h => List.mem_cons_of_mem _ (List.mem_append_left _ (List.mem_append_right _ h))
  have hi5 : ∀ w ∈ u_ws RX5 TX5 16, w ∈ wsX6_count := fun w h => List.mem_cons_of_mem _ (List.mem_append_right _ h)
  subst hsz
  have hap := vF_ap hap0 s.heap.size
  have hS : va_S (vF ad s.heap.size) s.heap s.heap [] := va_S.rf
  have hP : va_P D vwCl (VW K ad I G A L) s.heap := hP
  have hl := lv_entry ([.ref (ad 0), .int w]) (n := 3) (Nat.le_of_ble_eq_true rfl)
  rw [lg_entry_eq]
  generalize (lg_sl ([.ref (ad 0), .int w]) ++ List.replicate (3 - (lg_sl ([.ref (ad 0), .int w])).length) Slot.unset).toArray = ls at hl ⊢
  have hl : lv_has ls 3 [(0, .ref (ad 0)), (1, .int w)] := hl
  refine lv_aload_n hx hb dX6_count_0 rfl (lv_at hl 0 rfl) ?_
  refine vgI hx hb hts hi6 hown hK hP (0) (by decide) (show kd 0 = 6 by decide) (C := RX6) (T := TX6) (N := 18) rfl 5 (by decide) (by decide) (by decide) (by decide) (hts (.fieldLink RX6 29 "CrateHelpers" "underWay" "I") (by decide +kernel)) (fun _ h9 => h9) dX6_count_1 ?_
  refine lv_bipush (v := (-9)) hx hb dX6_count_4 (by decide) ?_
  refine lv_icmp_eq (tgt := 13) hx hb dX6_count_6 (by decide) (fun c_1 => ?_) (fun c_1 => ?_)
  · refine lv_iconst (v := 0) hx hb dX6_count_13 (by decide) ?_
    refine lv_istore_n (lv' := [(2, .int 0), (0, .ref (ad 0)), (1, .int w)]) hx hb dX6_count_14 rfl hl (by decide) rfl (fun ls hl => ?_)
    refine lv_iload_n hx hb dX6_count_15 rfl (lv_at hl 2 rfl) ?_
    rcases sw_7 w with rfl | rfl | rfl | rfl | rfl | rfl | rfl | rfl | hs2
    · refine lv_tableIn (off := 48) (tgt := 64) hx hb dX6_count_16 (by decide) (by decide) (by decide) (by decide) ?_
      refine lv_aload_n hx hb dX6_count_64 rfl (lv_at hl 1 rfl) ?_
      refine vgI hx hb hts hi6 hown hK hP (0) (by decide) (show kd 0 = 6 by decide) (C := RX6) (T := TX6) (N := 18) rfl 1 (by decide) (by decide) (by decide) (by decide) (hts (.fieldLink RX6 15 "CrateHelpers" "problemCount" "I") (by decide +kernel)) (fun _ h9 => h9) dX6_count_65 ?_
      exact W.iret (v := (I 0 1)) hx hb hr (fun t9 ht9 hW9 => ⟨⟨(I 0 1), (I, G, A, L), rfl, by unfold cl_count; first | rfl | simp [c_1, hgT], by rw [ht9]; exact hP, va_K.moved hW9.alike hK⟩, hS.F ht9⟩) hS.2.2 dX6_count_68
    · refine lv_tableIn (off := 53) (tgt := 69) hx hb dX6_count_16 (by decide) (by decide) (by decide) (by decide) ?_
      refine lv_aload_n hx hb dX6_count_69 rfl (lv_at hl 1 rfl) ?_
      refine vgI hx hb hts hi6 hown hK hP (0) (by decide) (show kd 0 = 6 by decide) (C := RX6) (T := TX6) (N := 18) rfl 3 (by decide) (by decide) (by decide) (by decide) (hts (.fieldLink RX6 26 "CrateHelpers" "nodeLimit" "I") (by decide +kernel)) (fun _ h9 => h9) dX6_count_70 ?_
      exact W.iret (v := (I 0 3)) hx hb hr (fun t9 ht9 hW9 => ⟨⟨(I 0 3), (I, G, A, L), rfl, by unfold cl_count; first | rfl | simp [c_1, hgT], by rw [ht9]; exact hP, va_K.moved hW9.alike hK⟩, hS.F ht9⟩) hS.2.2 dX6_count_73
    · refine lv_tableIn (off := 58) (tgt := 74) hx hb dX6_count_16 (by decide) (by decide) (by decide) (by decide) ?_
      refine lv_aload_n hx hb dX6_count_74 rfl (lv_at hl 1 rfl) ?_
      refine vgC hx hb hts hi6 hown hK hP (0) (by decide) (show kd 0 = 6 by decide) (C := RX6) (T := TX6) (N := 18) rfl 2 (by decide) (by decide) (by decide) (by decide) (2) rfl (hts (.fieldLink RX6 22 "CrateHelpers" "team" "LCrateHelpers$Team;") (by decide +kernel)) (fun _ h9 => h9) dX6_count_75 ?_
      refine vgI hx hb hts hi4 hown hK hP (2) (by decide) (show kd 2 = 4 by decide) (C := RX4) (T := TX4) (N := 7) rfl 0 (by decide) (by decide) (by decide) (by decide) (hts (.fieldLink RX6 158 "CrateHelpers$Team" "size" "I") (by decide +kernel)) (fun _ h9 => h9) dX6_count_78 ?_
      exact W.iret (v := (I 2 0)) hx hb hr (fun t9 ht9 hW9 => ⟨⟨(I 2 0), (I, G, A, L), rfl, by unfold cl_count; first | rfl | simp [c_1, hgT], by rw [ht9]; exact hP, va_K.moved hW9.alike hK⟩, hS.F ht9⟩) hS.2.2 dX6_count_81
    · refine lv_tableIn (off := 66) (tgt := 82) hx hb dX6_count_16 (by decide) (by decide) (by decide) (by decide) ?_
      refine lv_aload_n hx hb dX6_count_82 rfl (lv_at hl 1 rfl) ?_
      refine vgC hx hb hts hi6 hown hK hP (0) (by decide) (show kd 0 = 6 by decide) (C := RX6) (T := TX6) (N := 18) rfl 2 (by decide) (by decide) (by decide) (by decide) (2) rfl (hts (.fieldLink RX6 22 "CrateHelpers" "team" "LCrateHelpers$Team;") (by decide +kernel)) (fun _ h9 => h9) dX6_count_83 ?_
      refine vgI hx hb hts hi4 hown hK hP (2) (by decide) (show kd 2 = 4 by decide) (C := RX4) (T := TX4) (N := 7) rfl 1 (by decide) (by decide) (by decide) (by decide) (hts (.fieldLink RX6 168 "CrateHelpers$Team" "scheduled" "I") (by decide +kernel)) (fun _ h9 => h9) dX6_count_86 ?_
      exact W.iret (v := (I 2 1)) hx hb hr (fun t9 ht9 hW9 => ⟨⟨(I 2 1), (I, G, A, L), rfl, by unfold cl_count; first | rfl | simp [c_1, hgT], by rw [ht9]; exact hP, va_K.moved hW9.alike hK⟩, hS.F ht9⟩) hS.2.2 dX6_count_89
    · refine lv_tableIn (off := 74) (tgt := 90) hx hb dX6_count_16 (by decide) (by decide) (by decide) (by decide) ?_
      refine lv_aload_n hx hb dX6_count_90 rfl (lv_at hl 1 rfl) ?_
      refine vgI hx hb hts hi6 hown hK hP (0) (by decide) (show kd 0 = 6 by decide) (C := RX6) (T := TX6) (N := 18) rfl 5 (by decide) (by decide) (by decide) (by decide) (hts (.fieldLink RX6 29 "CrateHelpers" "underWay" "I") (by decide +kernel)) (fun _ h9 => h9) dX6_count_91 ?_
      exact W.iret (v := (I 0 5)) hx hb hr (fun t9 ht9 hW9 => ⟨⟨(I 0 5), (I, G, A, L), rfl, by unfold cl_count; first | rfl | simp [c_1, hgT], by rw [ht9]; exact hP, va_K.moved hW9.alike hK⟩, hS.F ht9⟩) hS.2.2 dX6_count_94
    · refine lv_tableIn (off := 79) (tgt := 95) hx hb dX6_count_16 (by decide) (by decide) (by decide) (by decide) ?_
      refine lv_iload_n hx hb dX6_count_95 rfl (lv_at hl 0 rfl) ?_
      refine lv_if_eq (tgt := 112) hx hb dX6_count_96 (by decide) (fun _ => ?_) (fun c_3 => absurd c_3 (by decide))
      refine lv_iconst (v := 0) hx hb dX6_count_112 (by decide) ?_
      exact W.iret (v := 0) hx hb hr (fun t9 ht9 hW9 => ⟨⟨0, (I, G, A, L), rfl, by unfold cl_count; first | rfl | simp [c_1, hgT], by rw [ht9]; exact hP, va_K.moved hW9.alike hK⟩, hS.F ht9⟩) hS.2.2 dX6_count_113
    · refine lv_tableIn (off := 98) (tgt := 114) hx hb dX6_count_16 (by decide) (by decide) (by decide) (by decide) ?_
      refine lv_iload_n hx hb dX6_count_114 rfl (lv_at hl 0 rfl) ?_
      refine lv_if_eq (tgt := 131) hx hb dX6_count_115 (by decide) (fun _ => ?_) (fun c_4 => absurd c_4 (by decide))
      refine lv_iconst (v := 0) hx hb dX6_count_131 (by decide) ?_
      exact W.iret (v := 0) hx hb hr (fun t9 ht9 hW9 => ⟨⟨0, (I, G, A, L), rfl, by unfold cl_count; first | rfl | simp [c_1, hgT], by rw [ht9]; exact hP, va_K.moved hW9.alike hK⟩, hS.F ht9⟩) hS.2.2 dX6_count_132
    · refine lv_tableIn (off := 117) (tgt := 133) hx hb dX6_count_16 (by decide) (by decide) (by decide) (by decide) ?_
      refine lv_iload_n hx hb dX6_count_133 rfl (lv_at hl 0 rfl) ?_
      refine lv_if_eq (tgt := 150) hx hb dX6_count_134 (by decide) (fun _ => ?_) (fun c_5 => absurd c_5 (by decide))
      refine lv_iconst (v := 0) hx hb dX6_count_150 (by decide) ?_
      exact W.iret (v := 0) hx hb hr (fun t9 ht9 hW9 => ⟨⟨0, (I, G, A, L), rfl, by unfold cl_count; first | rfl | simp [c_1, hgT], by rw [ht9]; exact hP, va_K.moved hW9.alike hK⟩, hS.F ht9⟩) hS.2.2 dX6_count_151
    · refine lv_tableOut (tgt := 152) hx hb dX6_count_16 hs2 (by decide) ?_
      refine lv_iconst (v := (-1)) hx hb dX6_count_152 (by decide) ?_
      exact W.iret (v := (-1)) hx hb hr (fun t9 ht9 hW9 => ⟨⟨(-1), (I, G, A, L), rfl, by unfold cl_count; have h9 := sw_ne7 hs2; simp [h9], by rw [ht9]; exact hP, va_K.moved hW9.alike hK⟩, hS.F ht9⟩) hS.2.2 dX6_count_153
  · refine lv_iconst (v := 1) hx hb dX6_count_9 (by decide) ?_
    refine lv_goto (tgt := 14) hx hb dX6_count_10 (by decide) ?_
    refine lv_istore_n (lv' := [(2, .int 1), (0, .ref (ad 0)), (1, .int w)]) hx hb dX6_count_14 rfl hl (by decide) rfl (fun ls hl => ?_)
    refine lv_iload_n hx hb dX6_count_15 rfl (lv_at hl 2 rfl) ?_
    rcases sw_7 w with rfl | rfl | rfl | rfl | rfl | rfl | rfl | rfl | hs6
    · refine lv_tableIn (off := 48) (tgt := 64) hx hb dX6_count_16 (by decide) (by decide) (by decide) (by decide) ?_
      refine lv_aload_n hx hb dX6_count_64 rfl (lv_at hl 1 rfl) ?_
      refine vgI hx hb hts hi6 hown hK hP (0) (by decide) (show kd 0 = 6 by decide) (C := RX6) (T := TX6) (N := 18) rfl 1 (by decide) (by decide) (by decide) (by decide) (hts (.fieldLink RX6 15 "CrateHelpers" "problemCount" "I") (by decide +kernel)) (fun _ h9 => h9) dX6_count_65 ?_
      exact W.iret (v := (I 0 1)) hx hb hr (fun t9 ht9 hW9 => ⟨⟨(I 0 1), (I, G, A, L), rfl, by unfold cl_count; first | rfl | simp [c_1, hgT], by rw [ht9]; exact hP, va_K.moved hW9.alike hK⟩, hS.F ht9⟩) hS.2.2 dX6_count_68
    · refine lv_tableIn (off := 53) (tgt := 69) hx hb dX6_count_16 (by decide) (by decide) (by decide) (by decide) ?_
      refine lv_aload_n hx hb dX6_count_69 rfl (lv_at hl 1 rfl) ?_
      refine vgI hx hb hts hi6 hown hK hP (0) (by decide) (show kd 0 = 6 by decide) (C := RX6) (T := TX6) (N := 18) rfl 3 (by decide) (by decide) (by decide) (by decide) (hts (.fieldLink RX6 26 "CrateHelpers" "nodeLimit" "I") (by decide +kernel)) (fun _ h9 => h9) dX6_count_70 ?_
      exact W.iret (v := (I 0 3)) hx hb hr (fun t9 ht9 hW9 => ⟨⟨(I 0 3), (I, G, A, L), rfl, by unfold cl_count; first | rfl | simp [c_1, hgT], by rw [ht9]; exact hP, va_K.moved hW9.alike hK⟩, hS.F ht9⟩) hS.2.2 dX6_count_73
    · refine lv_tableIn (off := 58) (tgt := 74) hx hb dX6_count_16 (by decide) (by decide) (by decide) (by decide) ?_
      refine lv_aload_n hx hb dX6_count_74 rfl (lv_at hl 1 rfl) ?_
      refine vgC hx hb hts hi6 hown hK hP (0) (by decide) (show kd 0 = 6 by decide) (C := RX6) (T := TX6) (N := 18) rfl 2 (by decide) (by decide) (by decide) (by decide) (2) rfl (hts (.fieldLink RX6 22 "CrateHelpers" "team" "LCrateHelpers$Team;") (by decide +kernel)) (fun _ h9 => h9) dX6_count_75 ?_
      refine vgI hx hb hts hi4 hown hK hP (2) (by decide) (show kd 2 = 4 by decide) (C := RX4) (T := TX4) (N := 7) rfl 0 (by decide) (by decide) (by decide) (by decide) (hts (.fieldLink RX6 158 "CrateHelpers$Team" "size" "I") (by decide +kernel)) (fun _ h9 => h9) dX6_count_78 ?_
      exact W.iret (v := (I 2 0)) hx hb hr (fun t9 ht9 hW9 => ⟨⟨(I 2 0), (I, G, A, L), rfl, by unfold cl_count; first | rfl | simp [c_1, hgT], by rw [ht9]; exact hP, va_K.moved hW9.alike hK⟩, hS.F ht9⟩) hS.2.2 dX6_count_81
    · refine lv_tableIn (off := 66) (tgt := 82) hx hb dX6_count_16 (by decide) (by decide) (by decide) (by decide) ?_
      refine lv_aload_n hx hb dX6_count_82 rfl (lv_at hl 1 rfl) ?_
      refine vgC hx hb hts hi6 hown hK hP (0) (by decide) (show kd 0 = 6 by decide) (C := RX6) (T := TX6) (N := 18) rfl 2 (by decide) (by decide) (by decide) (by decide) (2) rfl (hts (.fieldLink RX6 22 "CrateHelpers" "team" "LCrateHelpers$Team;") (by decide +kernel)) (fun _ h9 => h9) dX6_count_83 ?_
      refine vgI hx hb hts hi4 hown hK hP (2) (by decide) (show kd 2 = 4 by decide) (C := RX4) (T := TX4) (N := 7) rfl 1 (by decide) (by decide) (by decide) (by decide) (hts (.fieldLink RX6 168 "CrateHelpers$Team" "scheduled" "I") (by decide +kernel)) (fun _ h9 => h9) dX6_count_86 ?_
      exact W.iret (v := (I 2 1)) hx hb hr (fun t9 ht9 hW9 => ⟨⟨(I 2 1), (I, G, A, L), rfl, by unfold cl_count; first | rfl | simp [c_1, hgT], by rw [ht9]; exact hP, va_K.moved hW9.alike hK⟩, hS.F ht9⟩) hS.2.2 dX6_count_89
    · refine lv_tableIn (off := 74) (tgt := 90) hx hb dX6_count_16 (by decide) (by decide) (by decide) (by decide) ?_
      refine lv_aload_n hx hb dX6_count_90 rfl (lv_at hl 1 rfl) ?_
      refine vgI hx hb hts hi6 hown hK hP (0) (by decide) (show kd 0 = 6 by decide) (C := RX6) (T := TX6) (N := 18) rfl 5 (by decide) (by decide) (by decide) (by decide) (hts (.fieldLink RX6 29 "CrateHelpers" "underWay" "I") (by decide +kernel)) (fun _ h9 => h9) dX6_count_91 ?_
      exact W.iret (v := (I 0 5)) hx hb hr (fun t9 ht9 hW9 => ⟨⟨(I 0 5), (I, G, A, L), rfl, by unfold cl_count; first | rfl | simp [c_1, hgT], by rw [ht9]; exact hP, va_K.moved hW9.alike hK⟩, hS.F ht9⟩) hS.2.2 dX6_count_94
    · refine lv_tableIn (off := 79) (tgt := 95) hx hb dX6_count_16 (by decide) (by decide) (by decide) (by decide) ?_
      refine lv_iload_n hx hb dX6_count_95 rfl (lv_at hl 0 rfl) ?_
      refine lv_if_eq (tgt := 112) hx hb dX6_count_96 (by decide) (fun c_7 => absurd c_7 (by decide)) (fun _ => ?_)
      refine lv_aload_n hx hb dX6_count_99 rfl (lv_at hl 1 rfl) ?_
      refine vgC hx hb hts hi6 hown hK hP (0) (by decide) (show kd 0 = 6 by decide) (C := RX6) (T := TX6) (N := 18) rfl 4 (by decide) (by decide) (by decide) (by decide) (14) rfl (hts (.fieldLink RX6 73 "CrateHelpers" "solving" "LCrateHelpers$Solving;") (by decide +kernel)) (fun _ h9 => h9) dX6_count_100 ?_
      refine vgG hx hb hts hi3 hown hK hP (14) (by decide) (show kd 14 = 3 by decide) (C := RX3) (T := TX3) (N := 6) rfl 0 (by decide) (by decide) (by decide) (by decide) (hts (.fieldLink RX6 294 "CrateHelpers$Solving" "tree" "LCrateHelpers$Tree;") (by decide +kernel)) (fun _ h9 => h9) dX6_count_103 ?_
      rw [hgT]
      refine vgI hx hb hts hi5 hown hK hP (T) (by have := (tr_o hT).1; show _ < 378; omega) (tr_o hT).2.1 (C := RX5) (T := TX5) (N := 16) rfl 9 (by decide) (by decide) (by decide) (by decide) (hts (.fieldLink RX6 297 "CrateHelpers$Tree" "known" "I") (by decide +kernel)) (fun _ h9 => h9) dX6_count_106 ?_
      refine lv_goto (tgt := 113) hx hb dX6_count_109 (by decide) ?_
      exact W.iret (v := (I T 9)) hx hb hr (fun t9 ht9 hW9 => ⟨⟨(I T 9), (I, G, A, L), rfl, by unfold cl_count; first | rfl | simp [c_1, hgT], by rw [ht9]; exact hP, va_K.moved hW9.alike hK⟩, hS.F ht9⟩) hS.2.2 dX6_count_113
    · refine lv_tableIn (off := 98) (tgt := 114) hx hb dX6_count_16 (by decide) (by decide) (by decide) (by decide) ?_
      refine lv_iload_n hx hb dX6_count_114 rfl (lv_at hl 0 rfl) ?_
      refine lv_if_eq (tgt := 131) hx hb dX6_count_115 (by decide) (fun c_8 => absurd c_8 (by decide)) (fun _ => ?_)
      refine lv_aload_n hx hb dX6_count_118 rfl (lv_at hl 1 rfl) ?_
      refine vgC hx hb hts hi6 hown hK hP (0) (by decide) (show kd 0 = 6 by decide) (C := RX6) (T := TX6) (N := 18) rfl 4 (by decide) (by decide) (by decide) (by decide) (14) rfl (hts (.fieldLink RX6 73 "CrateHelpers" "solving" "LCrateHelpers$Solving;") (by decide +kernel)) (fun _ h9 => h9) dX6_count_119 ?_
      refine vgG hx hb hts hi3 hown hK hP (14) (by decide) (show kd 14 = 3 by decide) (C := RX3) (T := TX3) (N := 6) rfl 0 (by decide) (by decide) (by decide) (by decide) (hts (.fieldLink RX6 294 "CrateHelpers$Solving" "tree" "LCrateHelpers$Tree;") (by decide +kernel)) (fun _ h9 => h9) dX6_count_122 ?_
      rw [hgT]
      refine vgI hx hb hts hi5 hown hK hP (T) (by have := (tr_o hT).1; show _ < 378; omega) (tr_o hT).2.1 (C := RX5) (T := TX5) (N := 16) rfl 10 (by decide) (by decide) (by decide) (by decide) (hts (.fieldLink RX6 300 "CrateHelpers$Tree" "done" "I") (by decide +kernel)) (fun _ h9 => h9) dX6_count_125 ?_
      refine lv_goto (tgt := 132) hx hb dX6_count_128 (by decide) ?_
      exact W.iret (v := (I T 10)) hx hb hr (fun t9 ht9 hW9 => ⟨⟨(I T 10), (I, G, A, L), rfl, by unfold cl_count; first | rfl | simp [c_1, hgT], by rw [ht9]; exact hP, va_K.moved hW9.alike hK⟩, hS.F ht9⟩) hS.2.2 dX6_count_132
    · refine lv_tableIn (off := 117) (tgt := 133) hx hb dX6_count_16 (by decide) (by decide) (by decide) (by decide) ?_
      refine lv_iload_n hx hb dX6_count_133 rfl (lv_at hl 0 rfl) ?_
      refine lv_if_eq (tgt := 150) hx hb dX6_count_134 (by decide) (fun c_9 => absurd c_9 (by decide)) (fun _ => ?_)
      refine lv_aload_n hx hb dX6_count_137 rfl (lv_at hl 1 rfl) ?_
      refine vgC hx hb hts hi6 hown hK hP (0) (by decide) (show kd 0 = 6 by decide) (C := RX6) (T := TX6) (N := 18) rfl 4 (by decide) (by decide) (by decide) (by decide) (14) rfl (hts (.fieldLink RX6 73 "CrateHelpers" "solving" "LCrateHelpers$Solving;") (by decide +kernel)) (fun _ h9 => h9) dX6_count_138 ?_
      refine vgG hx hb hts hi3 hown hK hP (14) (by decide) (show kd 14 = 3 by decide) (C := RX3) (T := TX3) (N := 6) rfl 0 (by decide) (by decide) (by decide) (by decide) (hts (.fieldLink RX6 294 "CrateHelpers$Solving" "tree" "LCrateHelpers$Tree;") (by decide +kernel)) (fun _ h9 => h9) dX6_count_141 ?_
      rw [hgT]
      refine vgI hx hb hts hi5 hown hK hP (T) (by have := (tr_o hT).1; show _ < 378; omega) (tr_o hT).2.1 (C := RX5) (T := TX5) (N := 16) rfl 11 (by decide) (by decide) (by decide) (by decide) (hts (.fieldLink RX6 192 "CrateHelpers$Tree" "taken" "I") (by decide +kernel)) (fun _ h9 => h9) dX6_count_144 ?_
      refine lv_goto (tgt := 151) hx hb dX6_count_147 (by decide) ?_
      exact W.iret (v := (I T 11)) hx hb hr (fun t9 ht9 hW9 => ⟨⟨(I T 11), (I, G, A, L), rfl, by unfold cl_count; first | rfl | simp [c_1, hgT], by rw [ht9]; exact hP, va_K.moved hW9.alike hK⟩, hS.F ht9⟩) hS.2.2 dX6_count_151
    · refine lv_tableOut (tgt := 152) hx hb dX6_count_16 hs6 (by decide) ?_
      refine lv_iconst (v := (-1)) hx hb dX6_count_152 (by decide) ?_
      exact W.iret (v := (-1)) hx hb hr (fun t9 ht9 hW9 => ⟨⟨(-1), (I, G, A, L), rfl, by unfold cl_count; have h9 := sw_ne7 hs6; simp [h9], by rw [ht9]; exact hP, va_K.moved hW9.alike hK⟩, hS.F ht9⟩) hS.2.2 dX6_count_153
