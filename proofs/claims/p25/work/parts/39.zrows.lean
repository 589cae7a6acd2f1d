theorem dX6_problem_0 : decode cX6_problem 0 = .ok (.aload_n 0, 1) := by decide +kernel
theorem dX6_problem_1 : decode cX6_problem 1 = .ok (.getfield 29, 3) := by decide +kernel
theorem dX6_problem_4 : decode cX6_problem 4 = .ok (.bipush (-9), 2) := by decide +kernel
theorem dX6_problem_6 : decode cX6_problem 6 = .ok (.if_icmp .eq 6, 3) := by decide +kernel
theorem dX6_problem_9 : decode cX6_problem 9 = .ok (.bipush (-2), 2) := by decide +kernel
theorem dX6_problem_11 : decode cX6_problem 11 = .ok (.ireturn, 1) := by decide +kernel
theorem dX6_problem_12 : decode cX6_problem 12 = .ok (.aload_n 0, 1) := by decide +kernel
theorem dX6_problem_13 : decode cX6_problem 13 = .ok (.getfield 15, 3) := by decide +kernel
theorem dX6_problem_16 : decode cX6_problem 16 = .ok (.iconst 5, 1) := by decide +kernel
theorem dX6_problem_17 : decode cX6_problem 17 = .ok (.if_icmp .lt 6, 3) := by decide +kernel
theorem dX6_problem_20 : decode cX6_problem 20 = .ok (.bipush (-3), 2) := by decide +kernel
theorem dX6_problem_22 : decode cX6_problem 22 = .ok (.ireturn, 1) := by decide +kernel
theorem dX6_problem_23 : decode cX6_problem 23 = .ok (.aload_n 0, 1) := by decide +kernel
theorem dX6_problem_24 : decode cX6_problem 24 = .ok (.dup, 1) := by decide +kernel
theorem dX6_problem_25 : decode cX6_problem 25 = .ok (.getfield 15, 3) := by decide +kernel
theorem dX6_problem_28 : decode cX6_problem 28 = .ok (.dup_x1, 1) := by decide +kernel
theorem dX6_problem_29 : decode cX6_problem 29 = .ok (.iconst 1, 1) := by decide +kernel
theorem dX6_problem_30 : decode cX6_problem 30 = .ok (.iadd, 1) := by decide +kernel
theorem dX6_problem_31 : decode cX6_problem 31 = .ok (.putfield 15, 3) := by decide +kernel
theorem dX6_problem_34 : decode cX6_problem 34 = .ok (.ireturn, 1) := by decide +kernel
set_option maxRecDepth 20000 in
theorem ggX6_helpers_X6_isWithin : GoodIn wsX6_helpers wsX6_isWithin := goodIn_g _ [(7, 1)] rfl (by decide +kernel)
set_option maxRecDepth 20000 in
theorem gX6_helpers_X6_isWithin : GoodIn wsX6_helpers (va_wsS RX6 99 yX6_isWithin wsX6_isWithin) := goodIn_app (goodIn_of _ (by decide +kernel)) ggX6_helpers_X6_isWithin
set_option maxRecDepth 20000 in
theorem ggX6_helpers_X4_become : GoodIn wsX6_helpers wsX4_become := goodIn_g _ [(12, 7), (37, 7)] rfl (by decide +kernel)
set_option maxRecDepth 20000 in
theorem gX6_helpers_X4_become : GoodIn wsX6_helpers (wsV RX6 161 RX4 yX4_become wsX4_become) := goodIn_app (goodIn_of _ (by decide +kernel)) ggX6_helpers_X4_become
theorem dX6_helpers_0 : decode cX6_helpers 0 = .ok (.iload_n 1, 1) := by decide +kernel
theorem dX6_helpers_1 : decode cX6_helpers 1 = .ok (.iconst 1, 1) := by decide +kernel
theorem dX6_helpers_2 : decode cX6_helpers 2 = .ok (.iconst 5, 1) := by decide +kernel
theorem dX6_helpers_3 : decode cX6_helpers 3 = .ok (.invokestatic 99, 3) := by decide +kernel
theorem dX6_helpers_6 : decode cX6_helpers 6 = .ok (.ifCond .ne 5, 3) := by decide +kernel
theorem dX6_helpers_9 : decode cX6_helpers 9 = .ok (.iconst (-1), 1) := by decide +kernel
theorem dX6_helpers_10 : decode cX6_helpers 10 = .ok (.ireturn, 1) := by decide +kernel
theorem dX6_helpers_11 : decode cX6_helpers 11 = .ok (.aload_n 0, 1) := by decide +kernel
theorem dX6_helpers_12 : decode cX6_helpers 12 = .ok (.getfield 29, 3) := by decide +kernel
theorem dX6_helpers_15 : decode cX6_helpers 15 = .ok (.bipush (-9), 2) := by decide +kernel
theorem dX6_helpers_17 : decode cX6_helpers 17 = .ok (.if_icmp .eq 6, 3) := by decide +kernel
theorem dX6_helpers_20 : decode cX6_helpers 20 = .ok (.bipush (-2), 2) := by decide +kernel
theorem dX6_helpers_22 : decode cX6_helpers 22 = .ok (.ireturn, 1) := by decide +kernel
theorem dX6_helpers_23 : decode cX6_helpers 23 = .ok (.aload_n 0, 1) := by decide +kernel
theorem dX6_helpers_24 : decode cX6_helpers 24 = .ok (.getfield 22, 3) := by decide +kernel
theorem dX6_helpers_27 : decode cX6_helpers 27 = .ok (.getfield 158, 3) := by decide +kernel
theorem dX6_helpers_30 : decode cX6_helpers 30 = .ok (.istore_n 2, 1) := by decide +kernel
theorem dX6_helpers_31 : decode cX6_helpers 31 = .ok (.aload_n 0, 1) := by decide +kernel
theorem dX6_helpers_32 : decode cX6_helpers 32 = .ok (.getfield 22, 3) := by decide +kernel
theorem dX6_helpers_35 : decode cX6_helpers 35 = .ok (.iload_n 1, 1) := by decide +kernel
theorem dX6_helpers_36 : decode cX6_helpers 36 = .ok (.invokevirtual 161, 3) := by decide +kernel
theorem dX6_helpers_39 : decode cX6_helpers 39 = .ok (.iload_n 2, 1) := by decide +kernel
theorem dX6_helpers_40 : decode cX6_helpers 40 = .ok (.ireturn, 1) := by decide +kernel
set_option maxRecDepth 20000 in
theorem ggX6_fail_X6_isWithin : GoodIn wsX6_fail wsX6_isWithin := goodIn_g _ [(8, 1)] rfl (by decide +kernel)
set_option maxRecDepth 20000 in
theorem gX6_fail_X6_isWithin : GoodIn wsX6_fail (va_wsS RX6 99 yX6_isWithin wsX6_isWithin) := goodIn_app (goodIn_of _ (by decide +kernel)) ggX6_fail_X6_isWithin
theorem dX6_fail_0 : decode cX6_fail 0 = .ok (.iload_n 1, 1) := by decide +kernel
theorem dX6_fail_1 : decode cX6_fail 1 = .ok (.iconst 0, 1) := by decide +kernel
theorem dX6_fail_2 : decode cX6_fail 2 = .ok (.aload_n 0, 1) := by decide +kernel
theorem dX6_fail_3 : decode cX6_fail 3 = .ok (.getfield 22, 3) := by decide +kernel
theorem dX6_fail_6 : decode cX6_fail 6 = .ok (.getfield 158, 3) := by decide +kernel
theorem dX6_fail_9 : decode cX6_fail 9 = .ok (.iconst 1, 1) := by decide +kernel
theorem dX6_fail_10 : decode cX6_fail 10 = .ok (.isub, 1) := by decide +kernel
theorem dX6_fail_11 : decode cX6_fail 11 = .ok (.invokestatic 99, 3) := by decide +kernel
theorem dX6_fail_14 : decode cX6_fail 14 = .ok (.ifCond .eq 14, 3) := by decide +kernel
theorem dX6_fail_17 : decode cX6_fail 17 = .ok (.iload_n 2, 1) := by decide +kernel
theorem dX6_fail_18 : decode cX6_fail 18 = .ok (.iconst 0, 1) := by decide +kernel
theorem dX6_fail_19 : decode cX6_fail 19 = .ok (.sipush 200, 3) := by decide +kernel
theorem dX6_fail_22 : decode cX6_fail 22 = .ok (.invokestatic 99, 3) := by decide +kernel
theorem dX6_fail_25 : decode cX6_fail 25 = .ok (.ifCond .ne 5, 3) := by decide +kernel
theorem dX6_fail_28 : decode cX6_fail 28 = .ok (.iconst (-1), 1) := by decide +kernel
theorem dX6_fail_29 : decode cX6_fail 29 = .ok (.ireturn, 1) := by decide +kernel
theorem dX6_fail_30 : decode cX6_fail 30 = .ok (.aload_n 0, 1) := by decide +kernel
theorem dX6_fail_31 : decode cX6_fail 31 = .ok (.getfield 29, 3) := by decide +kernel
theorem dX6_fail_34 : decode cX6_fail 34 = .ok (.bipush (-9), 2) := by decide +kernel
theorem dX6_fail_36 : decode cX6_fail 36 = .ok (.if_icmp .eq 6, 3) := by decide +kernel
theorem dX6_fail_39 : decode cX6_fail 39 = .ok (.bipush (-2), 2) := by decide +kernel
theorem dX6_fail_41 : decode cX6_fail 41 = .ok (.ireturn, 1) := by decide +kernel
theorem dX6_fail_42 : decode cX6_fail 42 = .ok (.aload_n 0, 1) := by decide +kernel
theorem dX6_fail_43 : decode cX6_fail 43 = .ok (.getfield 22, 3) := by decide +kernel
theorem dX6_fail_46 : decode cX6_fail 46 = .ok (.getfield 165, 3) := by decide +kernel
theorem dX6_fail_49 : decode cX6_fail 49 = .ok (.iload_n 1, 1) := by decide +kernel
theorem dX6_fail_50 : decode cX6_fail 50 = .ok (.iload_n 2, 1) := by decide +kernel
theorem dX6_fail_51 : decode cX6_fail 51 = .ok (.iastore, 1) := by decide +kernel
theorem dX6_fail_52 : decode cX6_fail 52 = .ok (.iconst 1, 1) := by decide +kernel
theorem dX6_fail_53 : decode cX6_fail 53 = .ok (.ireturn, 1) := by decide +kernel
set_option maxRecDepth 20000 in
theorem ggX6_turn_X6_isWithin : GoodIn wsX6_turn wsX6_isWithin := goodIn_g _ [(8, 1)] rfl (by decide +kernel)
set_option maxRecDepth 20000 in
theorem gX6_turn_X6_isWithin : GoodIn wsX6_turn (va_wsS RX6 99 yX6_isWithin wsX6_isWithin) := goodIn_app (goodIn_of _ (by decide +kernel)) ggX6_turn_X6_isWithin
theorem dX6_turn_0 : decode cX6_turn 0 = .ok (.iload_n 1, 1) := by decide +kernel
theorem dX6_turn_1 : decode cX6_turn 1 = .ok (.iconst 0, 1) := by decide +kernel
theorem dX6_turn_2 : decode cX6_turn 2 = .ok (.iconst 4, 1) := by decide +kernel
theorem dX6_turn_3 : decode cX6_turn 3 = .ok (.invokestatic 99, 3) := by decide +kernel
theorem dX6_turn_6 : decode cX6_turn 6 = .ok (.ifCond .ne 5, 3) := by decide +kernel
theorem dX6_turn_9 : decode cX6_turn 9 = .ok (.iconst (-1), 1) := by decide +kernel
theorem dX6_turn_10 : decode cX6_turn 10 = .ok (.ireturn, 1) := by decide +kernel
theorem dX6_turn_11 : decode cX6_turn 11 = .ok (.aload_n 0, 1) := by decide +kernel
theorem dX6_turn_12 : decode cX6_turn 12 = .ok (.getfield 29, 3) := by decide +kernel
theorem dX6_turn_15 : decode cX6_turn 15 = .ok (.bipush (-9), 2) := by decide +kernel
theorem dX6_turn_17 : decode cX6_turn 17 = .ok (.if_icmp .eq 6, 3) := by decide +kernel
theorem dX6_turn_20 : decode cX6_turn 20 = .ok (.bipush (-2), 2) := by decide +kernel
theorem dX6_turn_22 : decode cX6_turn 22 = .ok (.ireturn, 1) := by decide +kernel
theorem dX6_turn_23 : decode cX6_turn 23 = .ok (.aload_n 0, 1) := by decide +kernel
theorem dX6_turn_24 : decode cX6_turn 24 = .ok (.getfield 22, 3) := by decide +kernel
theorem dX6_turn_27 : decode cX6_turn 27 = .ok (.getfield 168, 3) := by decide +kernel
theorem dX6_turn_30 : decode cX6_turn 30 = .ok (.sipush 200, 3) := by decide +kernel
theorem dX6_turn_33 : decode cX6_turn 33 = .ok (.if_icmp .lt 6, 3) := by decide +kernel
theorem dX6_turn_36 : decode cX6_turn 36 = .ok (.bipush (-3), 2) := by decide +kernel
theorem dX6_turn_38 : decode cX6_turn 38 = .ok (.ireturn, 1) := by decide +kernel
theorem dX6_turn_39 : decode cX6_turn 39 = .ok (.aload_n 0, 1) := by decide +kernel
theorem dX6_turn_40 : decode cX6_turn 40 = .ok (.getfield 22, 3) := by decide +kernel
theorem dX6_turn_43 : decode cX6_turn 43 = .ok (.getfield 171, 3) := by decide +kernel
theorem dX6_turn_46 : decode cX6_turn 46 = .ok (.aload_n 0, 1) := by decide +kernel
theorem dX6_turn_47 : decode cX6_turn 47 = .ok (.getfield 22, 3) := by decide +kernel
theorem dX6_turn_50 : decode cX6_turn 50 = .ok (.getfield 168, 3) := by decide +kernel
theorem dX6_turn_53 : decode cX6_turn 53 = .ok (.iload_n 1, 1) := by decide +kernel
theorem dX6_turn_54 : decode cX6_turn 54 = .ok (.iastore, 1) := by decide +kernel
theorem dX6_turn_55 : decode cX6_turn 55 = .ok (.aload_n 0, 1) := by decide +kernel
theorem dX6_turn_56 : decode cX6_turn 56 = .ok (.getfield 22, 3) := by decide +kernel
theorem dX6_turn_59 : decode cX6_turn 59 = .ok (.dup, 1) := by decide +kernel
theorem dX6_turn_60 : decode cX6_turn 60 = .ok (.getfield 168, 3) := by decide +kernel
theorem dX6_turn_63 : decode cX6_turn 63 = .ok (.iconst 1, 1) := by decide +kernel
theorem dX6_turn_64 : decode cX6_turn 64 = .ok (.iadd, 1) := by decide +kernel
theorem dX6_turn_65 : decode cX6_turn 65 = .ok (.putfield 168, 3) := by decide +kernel
theorem dX6_turn_68 : decode cX6_turn 68 = .ok (.aload_n 0, 1) := by decide +kernel
theorem dX6_turn_69 : decode cX6_turn 69 = .ok (.getfield 22, 3) := by decide +kernel
theorem dX6_turn_72 : decode cX6_turn 72 = .ok (.getfield 168, 3) := by decide +kernel
theorem dX6_turn_75 : decode cX6_turn 75 = .ok (.ireturn, 1) := by decide +kernel
theorem dX6_plain_0 : decode cX6_plain 0 = .ok (.aload_n 0, 1) := by decide +kernel
theorem dX6_plain_1 : decode cX6_plain 1 = .ok (.getfield 29, 3) := by decide +kernel
theorem dX6_plain_4 : decode cX6_plain 4 = .ok (.bipush (-9), 2) := by decide +kernel
theorem dX6_plain_6 : decode cX6_plain 6 = .ok (.if_icmp .eq 6, 3) := by decide +kernel
theorem dX6_plain_9 : decode cX6_plain 9 = .ok (.bipush (-2), 2) := by decide +kernel
theorem dX6_plain_11 : decode cX6_plain 11 = .ok (.ireturn, 1) := by decide +kernel
theorem dX6_plain_12 : decode cX6_plain 12 = .ok (.aload_n 0, 1) := by decide +kernel
theorem dX6_plain_13 : decode cX6_plain 13 = .ok (.getfield 22, 3) := by decide +kernel
theorem dX6_plain_16 : decode cX6_plain 16 = .ok (.getfield 168, 3) := by decide +kernel
theorem dX6_plain_19 : decode cX6_plain 19 = .ok (.istore_n 1, 1) := by decide +kernel
theorem dX6_plain_20 : decode cX6_plain 20 = .ok (.aload_n 0, 1) := by decide +kernel
theorem dX6_plain_21 : decode cX6_plain 21 = .ok (.getfield 22, 3) := by decide +kernel
theorem dX6_plain_24 : decode cX6_plain 24 = .ok (.iconst 0, 1) := by decide +kernel
theorem dX6_plain_25 : decode cX6_plain 25 = .ok (.putfield 168, 3) := by decide +kernel
theorem dX6_plain_28 : decode cX6_plain 28 = .ok (.iload_n 1, 1) := by decide +kernel
theorem dX6_plain_29 : decode cX6_plain 29 = .ok (.ireturn, 1) := by decide +kernel
set_option maxRecDepth 20000 in
theorem ggX6_limit_X6_isWithin : GoodIn wsX6_limit wsX6_isWithin := goodIn_g _ [(6, 1)] rfl (by decide +kernel)
set_option maxRecDepth 20000 in
theorem gX6_limit_X6_isWithin : GoodIn wsX6_limit (va_wsS RX6 99 yX6_isWithin wsX6_isWithin) := goodIn_app (goodIn_of _ (by decide +kernel)) ggX6_limit_X6_isWithin
theorem dX6_limit_0 : decode cX6_limit 0 = .ok (.iload_n 1, 1) := by decide +kernel
theorem dX6_limit_1 : decode cX6_limit 1 = .ok (.iconst 0, 1) := by decide +kernel
theorem dX6_limit_2 : decode cX6_limit 2 = .ok (.sipush 1000, 3) := by decide +kernel
theorem dX6_limit_5 : decode cX6_limit 5 = .ok (.invokestatic 99, 3) := by decide +kernel
theorem dX6_limit_8 : decode cX6_limit 8 = .ok (.ifCond .ne 5, 3) := by decide +kernel
theorem dX6_limit_11 : decode cX6_limit 11 = .ok (.iconst (-1), 1) := by decide +kernel
theorem dX6_limit_12 : decode cX6_limit 12 = .ok (.ireturn, 1) := by decide +kernel
theorem dX6_limit_13 : decode cX6_limit 13 = .ok (.aload_n 0, 1) := by decide +kernel
theorem dX6_limit_14 : decode cX6_limit 14 = .ok (.getfield 29, 3) := by decide +kernel
theorem dX6_limit_17 : decode cX6_limit 17 = .ok (.bipush (-9), 2) := by decide +kernel
theorem dX6_limit_19 : decode cX6_limit 19 = .ok (.if_icmp .eq 6, 3) := by decide +kernel
theorem dX6_limit_22 : decode cX6_limit 22 = .ok (.bipush (-2), 2) := by decide +kernel
theorem dX6_limit_24 : decode cX6_limit 24 = .ok (.ireturn, 1) := by decide +kernel
theorem dX6_limit_25 : decode cX6_limit 25 = .ok (.aload_n 0, 1) := by decide +kernel
theorem dX6_limit_26 : decode cX6_limit 26 = .ok (.getfield 26, 3) := by decide +kernel
theorem dX6_limit_29 : decode cX6_limit 29 = .ok (.istore_n 2, 1) := by decide +kernel
theorem dX6_limit_30 : decode cX6_limit 30 = .ok (.aload_n 0, 1) := by decide +kernel
theorem dX6_limit_31 : decode cX6_limit 31 = .ok (.iload_n 1, 1) := by decide +kernel
theorem dX6_limit_32 : decode cX6_limit 32 = .ok (.putfield 26, 3) := by decide +kernel
theorem dX6_limit_35 : decode cX6_limit 35 = .ok (.iload_n 2, 1) := by decide +kernel
theorem dX6_limit_36 : decode cX6_limit 36 = .ok (.ireturn, 1) := by decide +kernel
theorem dX6_giveUp_0 : decode cX6_giveUp 0 = .ok (.aload_n 0, 1) := by decide +kernel
theorem dX6_giveUp_1 : decode cX6_giveUp 1 = .ok (.getfield 29, 3) := by decide +kernel
theorem dX6_giveUp_4 : decode cX6_giveUp 4 = .ok (.bipush (-9), 2) := by decide +kernel
theorem dX6_giveUp_6 : decode cX6_giveUp 6 = .ok (.if_icmp .ne 6, 3) := by decide +kernel
theorem dX6_giveUp_9 : decode cX6_giveUp 9 = .ok (.bipush (-2), 2) := by decide +kernel
theorem dX6_giveUp_11 : decode cX6_giveUp 11 = .ok (.ireturn, 1) := by decide +kernel
theorem dX6_giveUp_12 : decode cX6_giveUp 12 = .ok (.aload_n 0, 1) := by decide +kernel
theorem dX6_giveUp_13 : decode cX6_giveUp 13 = .ok (.getfield 29, 3) := by decide +kernel
theorem dX6_giveUp_16 : decode cX6_giveUp 16 = .ok (.istore_n 1, 1) := by decide +kernel
theorem dX6_giveUp_17 : decode cX6_giveUp 17 = .ok (.aload_n 0, 1) := by decide +kernel
theorem dX6_giveUp_18 : decode cX6_giveUp 18 = .ok (.bipush (-9), 2) := by decide +kernel
theorem dX6_giveUp_20 : decode cX6_giveUp 20 = .ok (.putfield 29, 3) := by decide +kernel
theorem dX6_giveUp_23 : decode cX6_giveUp 23 = .ok (.iload_n 1, 1) := by decide +kernel
theorem dX6_giveUp_24 : decode cX6_giveUp 24 = .ok (.ireturn, 1) := by decide +kernel
set_option maxRecDepth 20000 in
theorem ggX6_helper_X6_isWithin : GoodIn wsX6_helper wsX6_isWithin := goodIn_g _ [(8, 1)] rfl (by decide +kernel)
set_option maxRecDepth 20000 in
theorem gX6_helper_X6_isWithin : GoodIn wsX6_helper (va_wsS RX6 99 yX6_isWithin wsX6_isWithin) := goodIn_app (goodIn_of _ (by decide +kernel)) ggX6_helper_X6_isWithin
theorem dX6_helper_0 : decode cX6_helper 0 = .ok (.iload_n 1, 1) := by decide +kernel
theorem dX6_helper_1 : decode cX6_helper 1 = .ok (.iconst 0, 1) := by decide +kernel
theorem dX6_helper_2 : decode cX6_helper 2 = .ok (.iconst 4, 1) := by decide +kernel
theorem dX6_helper_3 : decode cX6_helper 3 = .ok (.invokestatic 99, 3) := by decide +kernel
theorem dX6_helper_6 : decode cX6_helper 6 = .ok (.ifCond .ne 5, 3) := by decide +kernel
theorem dX6_helper_9 : decode cX6_helper 9 = .ok (.iconst (-1), 1) := by decide +kernel
theorem dX6_helper_10 : decode cX6_helper 10 = .ok (.ireturn, 1) := by decide +kernel
theorem dX6_helper_11 : decode cX6_helper 11 = .ok (.iload_n 2, 1) := by decide +kernel
theorem dX6_helper_12 : decode cX6_helper 12 = .ok (.tableswitch 58 0 2 #[28, 38, 48], 28) := by decide +kernel
theorem dX6_helper_40 : decode cX6_helper 40 = .ok (.aload_n 0, 1) := by decide +kernel
theorem dX6_helper_41 : decode cX6_helper 41 = .ok (.getfield 22, 3) := by decide +kernel
theorem dX6_helper_44 : decode cX6_helper 44 = .ok (.getfield 223, 3) := by decide +kernel
theorem dX6_helper_47 : decode cX6_helper 47 = .ok (.iload_n 1, 1) := by decide +kernel
theorem dX6_helper_48 : decode cX6_helper 48 = .ok (.iaload, 1) := by decide +kernel
theorem dX6_helper_49 : decode cX6_helper 49 = .ok (.ireturn, 1) := by decide +kernel
theorem dX6_helper_50 : decode cX6_helper 50 = .ok (.aload_n 0, 1) := by decide +kernel
theorem dX6_helper_51 : decode cX6_helper 51 = .ok (.getfield 22, 3) := by decide +kernel
theorem dX6_helper_54 : decode cX6_helper 54 = .ok (.getfield 226, 3) := by decide +kernel
theorem dX6_helper_57 : decode cX6_helper 57 = .ok (.iload_n 1, 1) := by decide +kernel
theorem dX6_helper_58 : decode cX6_helper 58 = .ok (.iaload, 1) := by decide +kernel
theorem dX6_helper_59 : decode cX6_helper 59 = .ok (.ireturn, 1) := by decide +kernel
theorem dX6_helper_60 : decode cX6_helper 60 = .ok (.aload_n 0, 1) := by decide +kernel
theorem dX6_helper_61 : decode cX6_helper 61 = .ok (.getfield 22, 3) := by decide +kernel
theorem dX6_helper_64 : decode cX6_helper 64 = .ok (.getfield 229, 3) := by decide +kernel
theorem dX6_helper_67 : decode cX6_helper 67 = .ok (.iload_n 1, 1) := by decide +kernel
theorem dX6_helper_68 : decode cX6_helper 68 = .ok (.iaload, 1) := by decide +kernel
theorem dX6_helper_69 : decode cX6_helper 69 = .ok (.ireturn, 1) := by decide +kernel
theorem dX6_helper_70 : decode cX6_helper 70 = .ok (.iconst (-1), 1) := by decide +kernel
theorem dX6_helper_71 : decode cX6_helper 71 = .ok (.ireturn, 1) := by decide +kernel
set_option maxRecDepth 20000 in
theorem ggX6_row_X6_isWithin : GoodIn wsX6_row wsX6_isWithin := goodIn_g _ [(5, 1)] rfl (by decide +kernel)
set_option maxRecDepth 20000 in
theorem gX6_row_X6_isWithin : GoodIn wsX6_row (va_wsS RX6 99 yX6_isWithin wsX6_isWithin) := goodIn_app (goodIn_of _ (by decide +kernel)) ggX6_row_X6_isWithin
theorem dX6_row_0 : decode cX6_row 0 = .ok (.iload_n 1, 1) := by decide +kernel
theorem dX6_row_1 : decode cX6_row 1 = .ok (.iconst 0, 1) := by decide +kernel
theorem dX6_row_2 : decode cX6_row 2 = .ok (.iconst 5, 1) := by decide +kernel
theorem dX6_row_3 : decode cX6_row 3 = .ok (.invokestatic 99, 3) := by decide +kernel
theorem dX6_row_6 : decode cX6_row 6 = .ok (.ifCond .eq 12, 3) := by decide +kernel
theorem dX6_row_9 : decode cX6_row 9 = .ok (.aload_n 0, 1) := by decide +kernel
theorem dX6_row_10 : decode cX6_row 10 = .ok (.getfield 52, 3) := by decide +kernel
theorem dX6_row_13 : decode cX6_row 13 = .ok (.iload_n 1, 1) := by decide +kernel
theorem dX6_row_14 : decode cX6_row 14 = .ok (.iaload, 1) := by decide +kernel
theorem dX6_row_15 : decode cX6_row 15 = .ok (.goto 5, 3) := by decide +kernel
theorem dX6_row_18 : decode cX6_row 18 = .ok (.bipush (-9), 2) := by decide +kernel
theorem dX6_row_20 : decode cX6_row 20 = .ok (.ireturn, 1) := by decide +kernel
theorem dX6_count_0 : decode cX6_count 0 = .ok (.aload_n 0, 1) := by decide +kernel
theorem dX6_count_1 : decode cX6_count 1 = .ok (.getfield 29, 3) := by decide +kernel
theorem dX6_count_4 : decode cX6_count 4 = .ok (.bipush (-9), 2) := by decide +kernel
theorem dX6_count_6 : decode cX6_count 6 = .ok (.if_icmp .eq 7, 3) := by decide +kernel
theorem dX6_count_9 : decode cX6_count 9 = .ok (.iconst 1, 1) := by decide +kernel
theorem dX6_count_10 : decode cX6_count 10 = .ok (.goto 4, 3) := by decide +kernel
theorem dX6_count_13 : decode cX6_count 13 = .ok (.iconst 0, 1) := by decide +kernel
theorem dX6_count_14 : decode cX6_count 14 = .ok (.istore_n 2, 1) := by decide +kernel
theorem dX6_count_15 : decode cX6_count 15 = .ok (.iload_n 1, 1) := by decide +kernel
theorem dX6_count_16 : decode cX6_count 16 = .ok (.tableswitch 136 0 7 #[48, 53, 58, 66, 74, 79, 98, 117], 48) := by decide +kernel
theorem dX6_count_64 : decode cX6_count 64 = .ok (.aload_n 0, 1) := by decide +kernel
theorem dX6_count_65 : decode cX6_count 65 = .ok (.getfield 15, 3) := by decide +kernel
theorem dX6_count_68 : decode cX6_count 68 = .ok (.ireturn, 1) := by decide +kernel
theorem dX6_count_69 : decode cX6_count 69 = .ok (.aload_n 0, 1) := by decide +kernel
theorem dX6_count_70 : decode cX6_count 70 = .ok (.getfield 26, 3) := by decide +kernel
theorem dX6_count_73 : decode cX6_count 73 = .ok (.ireturn, 1) := by decide +kernel
theorem dX6_count_74 : decode cX6_count 74 = .ok (.aload_n 0, 1) := by decide +kernel
theorem dX6_count_75 : decode cX6_count 75 = .ok (.getfield 22, 3) := by decide +kernel
theorem dX6_count_78 : decode cX6_count 78 = .ok (.getfield 158, 3) := by decide +kernel
theorem dX6_count_81 : decode cX6_count 81 = .ok (.ireturn, 1) := by decide +kernel
theorem dX6_count_82 : decode cX6_count 82 = .ok (.aload_n 0, 1) := by decide +kernel
theorem dX6_count_83 : decode cX6_count 83 = .ok (.getfield 22, 3) := by decide +kernel
theorem dX6_count_86 : decode cX6_count 86 = .ok (.getfield 168, 3) := by decide +kernel
theorem dX6_count_89 : decode cX6_count 89 = .ok (.ireturn, 1) := by decide +kernel
theorem dX6_count_90 : decode cX6_count 90 = .ok (.aload_n 0, 1) := by decide +kernel
theorem dX6_count_91 : decode cX6_count 91 = .ok (.getfield 29, 3) := by decide +kernel
theorem dX6_count_94 : decode cX6_count 94 = .ok (.ireturn, 1) := by decide +kernel
theorem dX6_count_95 : decode cX6_count 95 = .ok (.iload_n 2, 1) := by decide +kernel
theorem dX6_count_96 : decode cX6_count 96 = .ok (.ifCond .eq 16, 3) := by decide +kernel
theorem dX6_count_99 : decode cX6_count 99 = .ok (.aload_n 0, 1) := by decide +kernel
theorem dX6_count_100 : decode cX6_count 100 = .ok (.getfield 73, 3) := by decide +kernel
theorem dX6_count_103 : decode cX6_count 103 = .ok (.getfield 294, 3) := by decide +kernel
theorem dX6_count_106 : decode cX6_count 106 = .ok (.getfield 297, 3) := by decide +kernel
theorem dX6_count_109 : decode cX6_count 109 = .ok (.goto 4, 3) := by decide +kernel
theorem dX6_count_112 : decode cX6_count 112 = .ok (.iconst 0, 1) := by decide +kernel
theorem dX6_count_113 : decode cX6_count 113 = .ok (.ireturn, 1) := by decide +kernel
theorem dX6_count_114 : decode cX6_count 114 = .ok (.iload_n 2, 1) := by decide +kernel
theorem dX6_count_115 : decode cX6_count 115 = .ok (.ifCond .eq 16, 3) := by decide +kernel
theorem dX6_count_118 : decode cX6_count 118 = .ok (.aload_n 0, 1) := by decide +kernel
theorem dX6_count_119 : decode cX6_count 119 = .ok (.getfield 73, 3) := by decide +kernel
theorem dX6_count_122 : decode cX6_count 122 = .ok (.getfield 294, 3) := by decide +kernel
theorem dX6_count_125 : decode cX6_count 125 = .ok (.getfield 300, 3) := by decide +kernel
theorem dX6_count_128 : decode cX6_count 128 = .ok (.goto 4, 3) := by decide +kernel
theorem dX6_count_131 : decode cX6_count 131 = .ok (.iconst 0, 1) := by decide +kernel
theorem dX6_count_132 : decode cX6_count 132 = .ok (.ireturn, 1) := by decide +kernel
theorem dX6_count_133 : decode cX6_count 133 = .ok (.iload_n 2, 1) := by decide +kernel
theorem dX6_count_134 : decode cX6_count 134 = .ok (.ifCond .eq 16, 3) := by decide +kernel
theorem dX6_count_137 : decode cX6_count 137 = .ok (.aload_n 0, 1) := by decide +kernel
theorem dX6_count_138 : decode cX6_count 138 = .ok (.getfield 73, 3) := by decide +kernel
theorem dX6_count_141 : decode cX6_count 141 = .ok (.getfield 294, 3) := by decide +kernel
theorem dX6_count_144 : decode cX6_count 144 = .ok (.getfield 192, 3) := by decide +kernel
theorem dX6_count_147 : decode cX6_count 147 = .ok (.goto 4, 3) := by decide +kernel
theorem dX6_count_150 : decode cX6_count 150 = .ok (.iconst 0, 1) := by decide +kernel
theorem dX6_count_151 : decode cX6_count 151 = .ok (.ireturn, 1) := by decide +kernel
theorem dX6_count_152 : decode cX6_count 152 = .ok (.iconst (-1), 1) := by decide +kernel
theorem dX6_count_153 : decode cX6_count 153 = .ok (.ireturn, 1) := by decide +kernel
theorem dX6_status_0 : decode cX6_status 0 = .ok (.aload_n 0, 1) := by decide +kernel
theorem dX6_status_1 : decode cX6_status 1 = .ok (.getfield 64, 3) := by decide +kernel
theorem dX6_status_4 : decode cX6_status 4 = .ok (.ireturn, 1) := by decide +kernel
set_option maxRecDepth 20000 in
theorem ggX6_isProblem_X6_isWithin : GoodIn wsX6_isProblem wsX6_isWithin := goodIn_g _ [(5, 1)] rfl (by decide +kernel)
set_option maxRecDepth 20000 in
theorem gX6_isProblem_X6_isWithin : GoodIn wsX6_isProblem (va_wsS RX6 99 yX6_isWithin wsX6_isWithin) := goodIn_app (goodIn_of _ (by decide +kernel)) ggX6_isProblem_X6_isWithin
theorem dX6_isProblem_0 : decode cX6_isProblem 0 = .ok (.iload_n 1, 1) := by decide +kernel
theorem dX6_isProblem_1 : decode cX6_isProblem 1 = .ok (.iconst 0, 1) := by decide +kernel
theorem dX6_isProblem_2 : decode cX6_isProblem 2 = .ok (.aload_n 0, 1) := by decide +kernel
theorem dX6_isProblem_3 : decode cX6_isProblem 3 = .ok (.getfield 15, 3) := by decide +kernel
theorem dX6_isProblem_6 : decode cX6_isProblem 6 = .ok (.iconst 1, 1) := by decide +kernel
theorem dX6_isProblem_7 : decode cX6_isProblem 7 = .ok (.isub, 1) := by decide +kernel
theorem dX6_isProblem_8 : decode cX6_isProblem 8 = .ok (.invokestatic 99, 3) := by decide +kernel
theorem dX6_isProblem_11 : decode cX6_isProblem 11 = .ok (.ireturn, 1) := by decide +kernel
theorem dX6_isWithin_0 : decode cX6_isWithin 0 = .ok (.iload_n 0, 1) := by decide +kernel
theorem dX6_isWithin_1 : decode cX6_isWithin 1 = .ok (.iload_n 1, 1) := by decide +kernel
theorem dX6_isWithin_2 : decode cX6_isWithin 2 = .ok (.if_icmp .lt 12, 3) := by decide +kernel
theorem dX6_isWithin_5 : decode cX6_isWithin 5 = .ok (.iload_n 0, 1) := by decide +kernel
theorem dX6_isWithin_6 : decode cX6_isWithin 6 = .ok (.iload_n 2, 1) := by decide +kernel
theorem dX6_isWithin_7 : decode cX6_isWithin 7 = .ok (.if_icmp .gt 7, 3) := by decide +kernel
theorem dX6_isWithin_10 : decode cX6_isWithin 10 = .ok (.iconst 1, 1) := by decide +kernel
theorem dX6_isWithin_11 : decode cX6_isWithin 11 = .ok (.goto 4, 3) := by decide +kernel
theorem dX6_isWithin_14 : decode cX6_isWithin 14 = .ok (.iconst 0, 1) := by decide +kernel
theorem dX6_isWithin_15 : decode cX6_isWithin 15 = .ok (.ireturn, 1) := by decide +kernel
set_option maxRecDepth 20000 in
theorem ggX6_isRuleNumber_X6_isWithin : GoodIn wsX6_isRuleNumber wsX6_isWithin := goodIn_g _ [(4, 1)] rfl (by decide +kernel)
set_option maxRecDepth 20000 in
theorem gX6_isRuleNumber_X6_isWithin : GoodIn wsX6_isRuleNumber (va_wsS RX6 99 yX6_isWithin wsX6_isWithin) := goodIn_app (goodIn_of _ (by decide +kernel)) ggX6_isRuleNumber_X6_isWithin
theorem dX6_isRuleNumber_0 : decode cX6_isRuleNumber 0 = .ok (.iload_n 0, 1) := by decide +kernel
theorem dX6_isRuleNumber_1 : decode cX6_isRuleNumber 1 = .ok (.sipush (-1000), 3) := by decide +kernel
theorem dX6_isRuleNumber_4 : decode cX6_isRuleNumber 4 = .ok (.sipush 1000, 3) := by decide +kernel
theorem dX6_isRuleNumber_7 : decode cX6_isRuleNumber 7 = .ok (.invokestatic 99, 3) := by decide +kernel
theorem dX6_isRuleNumber_10 : decode cX6_isRuleNumber 10 = .ok (.ireturn, 1) := by decide +kernel
theorem dX6_asNumber_0 : decode cX6_asNumber 0 = .ok (.iload_n 0, 1) := by decide +kernel
theorem dX6_asNumber_1 : decode cX6_asNumber 1 = .ok (.ifCond .eq 7, 3) := by decide +kernel
theorem dX6_asNumber_4 : decode cX6_asNumber 4 = .ok (.iconst 1, 1) := by decide +kernel
theorem dX6_asNumber_5 : decode cX6_asNumber 5 = .ok (.goto 4, 3) := by decide +kernel
theorem dX6_asNumber_8 : decode cX6_asNumber 8 = .ok (.iconst 0, 1) := by decide +kernel
theorem dX6_asNumber_9 : decode cX6_asNumber 9 = .ok (.ireturn, 1) := by decide +kernel
theorem dX6_refuse_0 : decode cX6_refuse 0 = .ok (.aload_n 0, 1) := by decide +kernel
theorem dX6_refuse_1 : decode cX6_refuse 1 = .ok (.iload_n 1, 1) := by decide +kernel
theorem dX6_refuse_2 : decode cX6_refuse 2 = .ok (.putfield 64, 3) := by decide +kernel
theorem dX6_refuse_5 : decode cX6_refuse 5 = .ok (.ldc_w 269, 3) := by decide +kernel
theorem dX6_refuse_8 : decode cX6_refuse 8 = .ok (.ireturn, 1) := by decide +kernel
theorem dX6_grant_0 : decode cX6_grant 0 = .ok (.aload_n 0, 1) := by decide +kernel
theorem dX6_grant_1 : decode cX6_grant 1 = .ok (.iconst 0, 1) := by decide +kernel
theorem dX6_grant_2 : decode cX6_grant 2 = .ok (.putfield 64, 3) := by decide +kernel
theorem dX6_grant_5 : decode cX6_grant 5 = .ok (.iload_n 1, 1) := by decide +kernel
theorem dX6_grant_6 : decode cX6_grant 6 = .ok (.ireturn, 1) := by decide +kernel
