set_option maxRecDepth 20000 in
theorem ggX4_become_J7_fill_53178 : GoodIn wsX4_become wsJ7_fill_53178 := goodIn_r _ [6] (by decide +kernel) (by decide +kernel)
set_option maxRecDepth 20000 in
theorem gX4_become_J7_fill_53178 : GoodIn wsX4_become (va_wsS RX4 34 yJ7_fill_53178 wsJ7_fill_53178) := goodIn_app (goodIn_of _ (by decide +kernel)) ggX4_become_J7_fill_53178
theorem dX4_become_0 : decode cX4_become 0 = .ok (.aload_n 0, 1) := by decide +kernel
theorem dX4_become_1 : decode cX4_become 1 = .ok (.iload_n 1, 1) := by decide +kernel
theorem dX4_become_2 : decode cX4_become 2 = .ok (.putfield 9, 3) := by decide +kernel
theorem dX4_become_5 : decode cX4_become 5 = .ok (.aload_n 0, 1) := by decide +kernel
theorem dX4_become_6 : decode cX4_become 6 = .ok (.getfield 18, 3) := by decide +kernel
theorem dX4_become_9 : decode cX4_become 9 = .ok (.iconst 0, 1) := by decide +kernel
theorem dX4_become_10 : decode cX4_become 10 = .ok (.invokestatic 34, 3) := by decide +kernel
theorem dX4_become_13 : decode cX4_become 13 = .ok (.return_, 1) := by decide +kernel
theorem dX6_problem_0 : decode cX6_problem 0 = .ok (.aload_n 0, 1) := by decide +kernel
theorem dX6_problem_1 : decode cX6_problem 1 = .ok (.getfield 29, 3) := by decide +kernel
theorem dX6_problem_4 : decode cX6_problem 4 = .ok (.bipush (-9), 2) := by decide +kernel
theorem dX6_problem_6 : decode cX6_problem 6 = .ok (.if_icmp .eq 6, 3) := by decide +kernel
theorem dX6_problem_12 : decode cX6_problem 12 = .ok (.aload_n 0, 1) := by decide +kernel
theorem dX6_problem_13 : decode cX6_problem 13 = .ok (.getfield 15, 3) := by decide +kernel
theorem dX6_problem_16 : decode cX6_problem 16 = .ok (.iconst 5, 1) := by decide +kernel
theorem dX6_problem_17 : decode cX6_problem 17 = .ok (.if_icmp .lt 6, 3) := by decide +kernel
theorem dX6_problem_23 : decode cX6_problem 23 = .ok (.aload_n 0, 1) := by decide +kernel
theorem dX6_problem_24 : decode cX6_problem 24 = .ok (.dup, 1) := by decide +kernel
theorem dX6_problem_25 : decode cX6_problem 25 = .ok (.getfield 15, 3) := by decide +kernel
theorem dX6_problem_28 : decode cX6_problem 28 = .ok (.dup_x1, 1) := by decide +kernel
theorem dX6_problem_29 : decode cX6_problem 29 = .ok (.iconst 1, 1) := by decide +kernel
theorem dX6_problem_30 : decode cX6_problem 30 = .ok (.iadd, 1) := by decide +kernel
theorem dX6_problem_31 : decode cX6_problem 31 = .ok (.putfield 15, 3) := by decide +kernel
theorem dX6_problem_34 : decode cX6_problem 34 = .ok (.ireturn, 1) := by decide +kernel
set_option maxRecDepth 20000 in
theorem ggX6_variable_X6_isProblem : GoodIn wsX6_variable wsX6_isProblem := goodIn_r _ [8, 9, 10, 11, 7, 12, 27, 28, 29, 30, 31, 32, 33, 34, 35, 36, 37, 38, 39, 40, 41, 42, 43, 44] (by decide +kernel) (by decide +kernel)
set_option maxRecDepth 20000 in
theorem gX6_variable_X6_isProblem : GoodIn wsX6_variable (wsV RX6 95 RX6 yX6_isProblem wsX6_isProblem) := goodIn_app (goodIn_of _ (by decide +kernel)) ggX6_variable_X6_isProblem
theorem dX6_variable_0 : decode cX6_variable 0 = .ok (.aload_n 0, 1) := by decide +kernel
theorem dX6_variable_1 : decode cX6_variable 1 = .ok (.iload_n 1, 1) := by decide +kernel
theorem dX6_variable_2 : decode cX6_variable 2 = .ok (.invokevirtual 95, 3) := by decide +kernel
theorem dX6_variable_5 : decode cX6_variable 5 = .ok (.ifCond .eq 22, 3) := by decide +kernel
theorem dX6_variable_27 : decode cX6_variable 27 = .ok (.iconst (-1), 1) := by decide +kernel
theorem dX6_variable_28 : decode cX6_variable 28 = .ok (.ireturn, 1) := by decide +kernel
set_option maxRecDepth 20000 in
theorem ggX6_cost_X6_isProblem : GoodIn wsX6_cost wsX6_isProblem := goodIn_r _ [9, 10, 11, 12, 8, 13, 47, 48, 49, 50, 51, 52, 53, 54, 55, 56, 57, 58, 59, 60, 61, 62, 63, 64] (by decide +kernel) (by decide +kernel)
set_option maxRecDepth 20000 in
theorem gX6_cost_X6_isProblem : GoodIn wsX6_cost (wsV RX6 95 RX6 yX6_isProblem wsX6_isProblem) := goodIn_app (goodIn_of _ (by decide +kernel)) ggX6_cost_X6_isProblem
set_option maxRecDepth 20000 in
theorem ggX6_cost_X6_refuse : GoodIn wsX6_cost wsX6_refuse := goodIn_r _ [28, 29, 30, 47, 48, 49, 50, 51, 52, 53, 54, 55, 56, 57, 58, 59, 60, 61, 62, 63, 64] (by decide +kernel) (by decide +kernel)
set_option maxRecDepth 20000 in
theorem gX6_cost_X6_refuse : GoodIn wsX6_cost (wsV RX6 116 RX6 yX6_refuse wsX6_refuse) := goodIn_app (goodIn_of _ (by decide +kernel)) ggX6_cost_X6_refuse
theorem dX6_cost_0 : decode cX6_cost 0 = .ok (.aload_n 0, 1) := by decide +kernel
theorem dX6_cost_1 : decode cX6_cost 1 = .ok (.iload_n 1, 1) := by decide +kernel
theorem dX6_cost_2 : decode cX6_cost 2 = .ok (.invokevirtual 95, 3) := by decide +kernel
theorem dX6_cost_5 : decode cX6_cost 5 = .ok (.ifCond .eq 29, 3) := by decide +kernel
theorem dX6_cost_34 : decode cX6_cost 34 = .ok (.aload_n 0, 1) := by decide +kernel
theorem dX6_cost_35 : decode cX6_cost 35 = .ok (.iconst (-1), 1) := by decide +kernel
theorem dX6_cost_36 : decode cX6_cost 36 = .ok (.invokevirtual 116, 3) := by decide +kernel
theorem dX6_cost_39 : decode cX6_cost 39 = .ok (.ireturn, 1) := by decide +kernel
set_option maxRecDepth 20000 in
theorem ggX6_rule_X6_isProblem : GoodIn wsX6_rule wsX6_isProblem := goodIn_r _ [8, 9, 10, 11, 7, 12, 31, 32, 33, 34, 35, 36, 37, 38, 39, 40, 41, 42, 43, 44, 45, 46, 47, 48] (by decide +kernel) (by decide +kernel)
set_option maxRecDepth 20000 in
theorem gX6_rule_X6_isProblem : GoodIn wsX6_rule (wsV RX6 95 RX6 yX6_isProblem wsX6_isProblem) := goodIn_app (goodIn_of _ (by decide +kernel)) ggX6_rule_X6_isProblem
theorem dX6_rule_0 : decode cX6_rule 0 = .ok (.aload_n 0, 1) := by decide +kernel
theorem dX6_rule_1 : decode cX6_rule 1 = .ok (.iload_n 1, 1) := by decide +kernel
theorem dX6_rule_2 : decode cX6_rule 2 = .ok (.invokevirtual 95, 3) := by decide +kernel
theorem dX6_rule_5 : decode cX6_rule 5 = .ok (.ifCond .eq 20, 3) := by decide +kernel
theorem dX6_rule_25 : decode cX6_rule 25 = .ok (.iconst (-1), 1) := by decide +kernel
theorem dX6_rule_26 : decode cX6_rule 26 = .ok (.ireturn, 1) := by decide +kernel
set_option maxRecDepth 20000 in
theorem ggX6_part_X6_isProblem : GoodIn wsX6_part wsX6_isProblem := goodIn_r _ [9, 10, 11, 12, 8, 13, 47, 48, 49, 50, 51, 52, 53, 54, 55, 56, 57, 58, 59, 60, 61, 62, 63, 64] (by decide +kernel) (by decide +kernel)
set_option maxRecDepth 20000 in
theorem gX6_part_X6_isProblem : GoodIn wsX6_part (wsV RX6 95 RX6 yX6_isProblem wsX6_isProblem) := goodIn_app (goodIn_of _ (by decide +kernel)) ggX6_part_X6_isProblem
theorem dX6_part_0 : decode cX6_part 0 = .ok (.aload_n 0, 1) := by decide +kernel
theorem dX6_part_1 : decode cX6_part 1 = .ok (.iload_n 1, 1) := by decide +kernel
theorem dX6_part_2 : decode cX6_part 2 = .ok (.invokevirtual 95, 3) := by decide +kernel
theorem dX6_part_5 : decode cX6_part 5 = .ok (.ifCond .eq 15, 3) := by decide +kernel
theorem dX6_part_20 : decode cX6_part 20 = .ok (.iconst (-1), 1) := by decide +kernel
theorem dX6_part_21 : decode cX6_part 21 = .ok (.ireturn, 1) := by decide +kernel
set_option maxRecDepth 20000 in
theorem ggX6_number_X6_isProblem : GoodIn wsX6_number wsX6_isProblem := goodIn_r _ [7, 8, 9, 10, 6, 11, 43, 44, 45, 46, 47, 48, 49, 50, 51, 52, 53, 54, 55, 56, 57, 58, 59, 60] (by decide +kernel) (by decide +kernel)
set_option maxRecDepth 20000 in
theorem gX6_number_X6_isProblem : GoodIn wsX6_number (wsV RX6 95 RX6 yX6_isProblem wsX6_isProblem) := goodIn_app (goodIn_of _ (by decide +kernel)) ggX6_number_X6_isProblem
set_option maxRecDepth 20000 in
theorem ggX6_number_X6_refuse : GoodIn wsX6_number wsX6_refuse := goodIn_r _ [24, 25, 26, 43, 44, 45, 46, 47, 48, 49, 50, 51, 52, 53, 54, 55, 56, 57, 58, 59, 60] (by decide +kernel) (by decide +kernel)
set_option maxRecDepth 20000 in
theorem gX6_number_X6_refuse : GoodIn wsX6_number (wsV RX6 116 RX6 yX6_refuse wsX6_refuse) := goodIn_app (goodIn_of _ (by decide +kernel)) ggX6_number_X6_refuse
theorem dX6_number_0 : decode cX6_number 0 = .ok (.aload_n 0, 1) := by decide +kernel
theorem dX6_number_1 : decode cX6_number 1 = .ok (.iload_n 1, 1) := by decide +kernel
theorem dX6_number_2 : decode cX6_number 2 = .ok (.invokevirtual 95, 3) := by decide +kernel
theorem dX6_number_5 : decode cX6_number 5 = .ok (.ifCond .eq 23, 3) := by decide +kernel
theorem dX6_number_28 : decode cX6_number 28 = .ok (.aload_n 0, 1) := by decide +kernel
theorem dX6_number_29 : decode cX6_number 29 = .ok (.iconst (-1), 1) := by decide +kernel
theorem dX6_number_30 : decode cX6_number 30 = .ok (.invokevirtual 116, 3) := by decide +kernel
theorem dX6_number_33 : decode cX6_number 33 = .ok (.ireturn, 1) := by decide +kernel
set_option maxRecDepth 20000 in
theorem ggX6_helpers_X6_isWithin : GoodIn wsX6_helpers wsX6_isWithin := goodIn_r _ [7] (by decide +kernel) (by decide +kernel)
set_option maxRecDepth 20000 in
theorem gX6_helpers_X6_isWithin : GoodIn wsX6_helpers (va_wsS RX6 99 yX6_isWithin wsX6_isWithin) := goodIn_app (goodIn_of _ (by decide +kernel)) ggX6_helpers_X6_isWithin
set_option maxRecDepth 20000 in
theorem ggX6_helpers_X4_become : GoodIn wsX6_helpers wsX4_become := goodIn_r _ [12, 13, 14, 15, 16, 17, 18, 37, 38, 39, 40, 41, 42, 43] (by decide +kernel) (by decide +kernel)
set_option maxRecDepth 20000 in
theorem gX6_helpers_X4_become : GoodIn wsX6_helpers (wsV RX6 161 RX4 yX4_become wsX4_become) := goodIn_app (goodIn_of _ (by decide +kernel)) ggX6_helpers_X4_become
theorem dX6_helpers_0 : decode cX6_helpers 0 = .ok (.iload_n 1, 1) := by decide +kernel
theorem dX6_helpers_1 : decode cX6_helpers 1 = .ok (.iconst 1, 1) := by decide +kernel
theorem dX6_helpers_2 : decode cX6_helpers 2 = .ok (.iconst 5, 1) := by decide +kernel
theorem dX6_helpers_3 : decode cX6_helpers 3 = .ok (.invokestatic 99, 3) := by decide +kernel
theorem dX6_helpers_6 : decode cX6_helpers 6 = .ok (.ifCond .ne 5, 3) := by decide +kernel
theorem dX6_helpers_9 : decode cX6_helpers 9 = .ok (.iconst (-1), 1) := by decide +kernel
theorem dX6_helpers_10 : decode cX6_helpers 10 = .ok (.ireturn, 1) := by decide +kernel
theorem dX6_helpers_11 : decode cX6_helpers 11 = .ok (.aload_n 0, 1) := by decide +kernel
theorem dX6_helpers_12 : decode cX6_helpers 12 = .ok (.getfield 29, 3) := by decide +kernel
theorem dX6_helpers_15 : decode cX6_helpers 15 = .ok (.bipush (-9), 2) := by decide +kernel
theorem dX6_helpers_17 : decode cX6_helpers 17 = .ok (.if_icmp .eq 6, 3) := by decide +kernel
theorem dX6_helpers_23 : decode cX6_helpers 23 = .ok (.aload_n 0, 1) := by decide +kernel
theorem dX6_helpers_24 : decode cX6_helpers 24 = .ok (.getfield 22, 3) := by decide +kernel
theorem dX6_helpers_27 : decode cX6_helpers 27 = .ok (.getfield 158, 3) := by decide +kernel
theorem dX6_helpers_30 : decode cX6_helpers 30 = .ok (.istore_n 2, 1) := by decide +kernel
theorem dX6_helpers_31 : decode cX6_helpers 31 = .ok (.aload_n 0, 1) := by decide +kernel
theorem dX6_helpers_32 : decode cX6_helpers 32 = .ok (.getfield 22, 3) := by decide +kernel
theorem dX6_helpers_35 : decode cX6_helpers 35 = .ok (.iload_n 1, 1) := by decide +kernel
theorem dX6_helpers_36 : decode cX6_helpers 36 = .ok (.invokevirtual 161, 3) := by decide +kernel
theorem dX6_helpers_39 : decode cX6_helpers 39 = .ok (.iload_n 2, 1) := by decide +kernel
theorem dX6_helpers_40 : decode cX6_helpers 40 = .ok (.ireturn, 1) := by decide +kernel
set_option maxRecDepth 20000 in
theorem ggX6_fail_X6_isWithin : GoodIn wsX6_fail wsX6_isWithin := goodIn_r _ [8] (by decide +kernel) (by decide +kernel)
set_option maxRecDepth 20000 in
theorem gX6_fail_X6_isWithin : GoodIn wsX6_fail (va_wsS RX6 99 yX6_isWithin wsX6_isWithin) := goodIn_app (goodIn_of _ (by decide +kernel)) ggX6_fail_X6_isWithin
theorem dX6_fail_0 : decode cX6_fail 0 = .ok (.iload_n 1, 1) := by decide +kernel
theorem dX6_fail_1 : decode cX6_fail 1 = .ok (.iconst 0, 1) := by decide +kernel
theorem dX6_fail_2 : decode cX6_fail 2 = .ok (.aload_n 0, 1) := by decide +kernel
theorem dX6_fail_3 : decode cX6_fail 3 = .ok (.getfield 22, 3) := by decide +kernel
theorem dX6_fail_6 : decode cX6_fail 6 = .ok (.getfield 158, 3) := by decide +kernel
theorem dX6_fail_9 : decode cX6_fail 9 = .ok (.iconst 1, 1) := by decide +kernel
theorem dX6_fail_10 : decode cX6_fail 10 = .ok (.isub, 1) := by decide +kernel
theorem dX6_fail_11 : decode cX6_fail 11 = .ok (.invokestatic 99, 3) := by decide +kernel
theorem dX6_fail_14 : decode cX6_fail 14 = .ok (.ifCond .eq 14, 3) := by decide +kernel
theorem dX6_fail_17 : decode cX6_fail 17 = .ok (.iload_n 2, 1) := by decide +kernel
theorem dX6_fail_18 : decode cX6_fail 18 = .ok (.iconst 0, 1) := by decide +kernel
theorem dX6_fail_19 : decode cX6_fail 19 = .ok (.sipush 200, 3) := by decide +kernel
theorem dX6_fail_22 : decode cX6_fail 22 = .ok (.invokestatic 99, 3) := by decide +kernel
theorem dX6_fail_25 : decode cX6_fail 25 = .ok (.ifCond .ne 5, 3) := by decide +kernel
theorem dX6_fail_28 : decode cX6_fail 28 = .ok (.iconst (-1), 1) := by decide +kernel
theorem dX6_fail_29 : decode cX6_fail 29 = .ok (.ireturn, 1) := by decide +kernel
theorem dX6_fail_30 : decode cX6_fail 30 = .ok (.aload_n 0, 1) := by decide +kernel
theorem dX6_fail_31 : decode cX6_fail 31 = .ok (.getfield 29, 3) := by decide +kernel
theorem dX6_fail_34 : decode cX6_fail 34 = .ok (.bipush (-9), 2) := by decide +kernel
theorem dX6_fail_36 : decode cX6_fail 36 = .ok (.if_icmp .eq 6, 3) := by decide +kernel
theorem dX6_fail_42 : decode cX6_fail 42 = .ok (.aload_n 0, 1) := by decide +kernel
theorem dX6_fail_43 : decode cX6_fail 43 = .ok (.getfield 22, 3) := by decide +kernel
theorem dX6_fail_46 : decode cX6_fail 46 = .ok (.getfield 165, 3) := by decide +kernel
theorem dX6_fail_49 : decode cX6_fail 49 = .ok (.iload_n 1, 1) := by decide +kernel
theorem dX6_fail_50 : decode cX6_fail 50 = .ok (.iload_n 2, 1) := by decide +kernel
theorem dX6_fail_51 : decode cX6_fail 51 = .ok (.iastore, 1) := by decide +kernel
theorem dX6_fail_52 : decode cX6_fail 52 = .ok (.iconst 1, 1) := by decide +kernel
theorem dX6_fail_53 : decode cX6_fail 53 = .ok (.ireturn, 1) := by decide +kernel
set_option maxRecDepth 20000 in
theorem ggX6_turn_X6_isWithin : GoodIn wsX6_turn wsX6_isWithin := goodIn_r _ [8] (by decide +kernel) (by decide +kernel)
set_option maxRecDepth 20000 in
theorem gX6_turn_X6_isWithin : GoodIn wsX6_turn (va_wsS RX6 99 yX6_isWithin wsX6_isWithin) := goodIn_app (goodIn_of _ (by decide +kernel)) ggX6_turn_X6_isWithin
theorem dX6_turn_0 : decode cX6_turn 0 = .ok (.iload_n 1, 1) := by decide +kernel
theorem dX6_turn_1 : decode cX6_turn 1 = .ok (.iconst 0, 1) := by decide +kernel
theorem dX6_turn_2 : decode cX6_turn 2 = .ok (.iconst 4, 1) := by decide +kernel
theorem dX6_turn_3 : decode cX6_turn 3 = .ok (.invokestatic 99, 3) := by decide +kernel
theorem dX6_turn_6 : decode cX6_turn 6 = .ok (.ifCond .ne 5, 3) := by decide +kernel
theorem dX6_turn_9 : decode cX6_turn 9 = .ok (.iconst (-1), 1) := by decide +kernel
theorem dX6_turn_10 : decode cX6_turn 10 = .ok (.ireturn, 1) := by decide +kernel
theorem dX6_turn_11 : decode cX6_turn 11 = .ok (.aload_n 0, 1) := by decide +kernel
theorem dX6_turn_12 : decode cX6_turn 12 = .ok (.getfield 29, 3) := by decide +kernel
theorem dX6_turn_15 : decode cX6_turn 15 = .ok (.bipush (-9), 2) := by decide +kernel
theorem dX6_turn_17 : decode cX6_turn 17 = .ok (.if_icmp .eq 6, 3) := by decide +kernel
theorem dX6_turn_23 : decode cX6_turn 23 = .ok (.aload_n 0, 1) := by decide +kernel
theorem dX6_turn_24 : decode cX6_turn 24 = .ok (.getfield 22, 3) := by decide +kernel
theorem dX6_turn_27 : decode cX6_turn 27 = .ok (.getfield 168, 3) := by decide +kernel
theorem dX6_turn_30 : decode cX6_turn 30 = .ok (.sipush 200, 3) := by decide +kernel
theorem dX6_turn_33 : decode cX6_turn 33 = .ok (.if_icmp .lt 6, 3) := by decide +kernel
theorem dX6_turn_39 : decode cX6_turn 39 = .ok (.aload_n 0, 1) := by decide +kernel
theorem dX6_turn_40 : decode cX6_turn 40 = .ok (.getfield 22, 3) := by decide +kernel
theorem dX6_turn_43 : decode cX6_turn 43 = .ok (.getfield 171, 3) := by decide +kernel
theorem dX6_turn_46 : decode cX6_turn 46 = .ok (.aload_n 0, 1) := by decide +kernel
theorem dX6_turn_47 : decode cX6_turn 47 = .ok (.getfield 22, 3) := by decide +kernel
theorem dX6_turn_50 : decode cX6_turn 50 = .ok (.getfield 168, 3) := by decide +kernel
theorem dX6_turn_53 : decode cX6_turn 53 = .ok (.iload_n 1, 1) := by decide +kernel
theorem dX6_turn_54 : decode cX6_turn 54 = .ok (.iastore, 1) := by decide +kernel
theorem dX6_turn_55 : decode cX6_turn 55 = .ok (.aload_n 0, 1) := by decide +kernel
theorem dX6_turn_56 : decode cX6_turn 56 = .ok (.getfield 22, 3) := by decide +kernel
theorem dX6_turn_59 : decode cX6_turn 59 = .ok (.dup, 1) := by decide +kernel
theorem dX6_turn_60 : decode cX6_turn 60 = .ok (.getfield 168, 3) := by decide +kernel
theorem dX6_turn_63 : decode cX6_turn 63 = .ok (.iconst 1, 1) := by decide +kernel
theorem dX6_turn_64 : decode cX6_turn 64 = .ok (.iadd, 1) := by decide +kernel
theorem dX6_turn_65 : decode cX6_turn 65 = .ok (.putfield 168, 3) := by decide +kernel
theorem dX6_turn_68 : decode cX6_turn 68 = .ok (.aload_n 0, 1) := by decide +kernel
theorem dX6_turn_69 : decode cX6_turn 69 = .ok (.getfield 22, 3) := by decide +kernel
theorem dX6_turn_72 : decode cX6_turn 72 = .ok (.getfield 168, 3) := by decide +kernel
theorem dX6_turn_75 : decode cX6_turn 75 = .ok (.ireturn, 1) := by decide +kernel
theorem dX6_plain_0 : decode cX6_plain 0 = .ok (.aload_n 0, 1) := by decide +kernel
theorem dX6_plain_1 : decode cX6_plain 1 = .ok (.getfield 29, 3) := by decide +kernel
theorem dX6_plain_4 : decode cX6_plain 4 = .ok (.bipush (-9), 2) := by decide +kernel
theorem dX6_plain_6 : decode cX6_plain 6 = .ok (.if_icmp .eq 6, 3) := by decide +kernel
theorem dX6_plain_12 : decode cX6_plain 12 = .ok (.aload_n 0, 1) := by decide +kernel
theorem dX6_plain_13 : decode cX6_plain 13 = .ok (.getfield 22, 3) := by decide +kernel
theorem dX6_plain_16 : decode cX6_plain 16 = .ok (.getfield 168, 3) := by decide +kernel
theorem dX6_plain_19 : decode cX6_plain 19 = .ok (.istore_n 1, 1) := by decide +kernel
theorem dX6_plain_20 : decode cX6_plain 20 = .ok (.aload_n 0, 1) := by decide +kernel
theorem dX6_plain_21 : decode cX6_plain 21 = .ok (.getfield 22, 3) := by decide +kernel
theorem dX6_plain_24 : decode cX6_plain 24 = .ok (.iconst 0, 1) := by decide +kernel
theorem dX6_plain_25 : decode cX6_plain 25 = .ok (.putfield 168, 3) := by decide +kernel
theorem dX6_plain_28 : decode cX6_plain 28 = .ok (.iload_n 1, 1) := by decide +kernel
theorem dX6_plain_29 : decode cX6_plain 29 = .ok (.ireturn, 1) := by decide +kernel
set_option maxRecDepth 20000 in
theorem ggX6_limit_X6_isWithin : GoodIn wsX6_limit wsX6_isWithin := goodIn_r _ [6] (by decide +kernel) (by decide +kernel)
set_option maxRecDepth 20000 in
theorem gX6_limit_X6_isWithin : GoodIn wsX6_limit (va_wsS RX6 99 yX6_isWithin wsX6_isWithin) := goodIn_app (goodIn_of _ (by decide +kernel)) ggX6_limit_X6_isWithin
theorem dX6_limit_0 : decode cX6_limit 0 = .ok (.iload_n 1, 1) := by decide +kernel
theorem dX6_limit_1 : decode cX6_limit 1 = .ok (.iconst 0, 1) := by decide +kernel
theorem dX6_limit_2 : decode cX6_limit 2 = .ok (.sipush 1000, 3) := by decide +kernel
theorem dX6_limit_5 : decode cX6_limit 5 = .ok (.invokestatic 99, 3) := by decide +kernel
theorem dX6_limit_8 : decode cX6_limit 8 = .ok (.ifCond .ne 5, 3) := by decide +kernel
theorem dX6_limit_11 : decode cX6_limit 11 = .ok (.iconst (-1), 1) := by decide +kernel
theorem dX6_limit_12 : decode cX6_limit 12 = .ok (.ireturn, 1) := by decide +kernel
theorem dX6_limit_13 : decode cX6_limit 13 = .ok (.aload_n 0, 1) := by decide +kernel
theorem dX6_limit_14 : decode cX6_limit 14 = .ok (.getfield 29, 3) := by decide +kernel
theorem dX6_limit_17 : decode cX6_limit 17 = .ok (.bipush (-9), 2) := by decide +kernel
theorem dX6_limit_19 : decode cX6_limit 19 = .ok (.if_icmp .eq 6, 3) := by decide +kernel
theorem dX6_limit_25 : decode cX6_limit 25 = .ok (.aload_n 0, 1) := by decide +kernel
theorem dX6_limit_26 : decode cX6_limit 26 = .ok (.getfield 26, 3) := by decide +kernel
theorem dX6_limit_29 : decode cX6_limit 29 = .ok (.istore_n 2, 1) := by decide +kernel
theorem dX6_limit_30 : decode cX6_limit 30 = .ok (.aload_n 0, 1) := by decide +kernel
theorem dX6_limit_31 : decode cX6_limit 31 = .ok (.iload_n 1, 1) := by decide +kernel
theorem dX6_limit_32 : decode cX6_limit 32 = .ok (.putfield 26, 3) := by decide +kernel
theorem dX6_limit_35 : decode cX6_limit 35 = .ok (.iload_n 2, 1) := by decide +kernel
theorem dX6_limit_36 : decode cX6_limit 36 = .ok (.ireturn, 1) := by decide +kernel
set_option maxRecDepth 20000 in
theorem ggX6_solve_X6_isProblem : GoodIn wsX6_solve wsX6_isProblem := goodIn_r _ [10, 11, 12, 13, 9, 14, 242, 243, 244, 245, 246, 247, 248, 249, 250, 251, 252, 253, 254, 255, 256, 257, 258, 259] (by decide +kernel) (by decide +kernel)
set_option maxRecDepth 20000 in
theorem gX6_solve_X6_isProblem : GoodIn wsX6_solve (wsV RX6 95 RX6 yX6_isProblem wsX6_isProblem) := goodIn_app (goodIn_of _ (by decide +kernel)) ggX6_solve_X6_isProblem
theorem dX6_solve_0 : decode cX6_solve 0 = .ok (.aload_n 0, 1) := by decide +kernel
theorem dX6_solve_1 : decode cX6_solve 1 = .ok (.iload_n 1, 1) := by decide +kernel
theorem dX6_solve_2 : decode cX6_solve 2 = .ok (.invokevirtual 95, 3) := by decide +kernel
theorem dX6_solve_5 : decode cX6_solve 5 = .ok (.ifCond .eq 14, 3) := by decide +kernel
theorem dX6_solve_19 : decode cX6_solve 19 = .ok (.iconst (-1), 1) := by decide +kernel
theorem dX6_solve_20 : decode cX6_solve 20 = .ok (.ireturn, 1) := by decide +kernel
theorem dX6_giveUp_0 : decode cX6_giveUp 0 = .ok (.aload_n 0, 1) := by decide +kernel
theorem dX6_giveUp_1 : decode cX6_giveUp 1 = .ok (.getfield 29, 3) := by decide +kernel
theorem dX6_giveUp_4 : decode cX6_giveUp 4 = .ok (.bipush (-9), 2) := by decide +kernel
theorem dX6_giveUp_6 : decode cX6_giveUp 6 = .ok (.if_icmp .ne 6, 3) := by decide +kernel
theorem dX6_giveUp_9 : decode cX6_giveUp 9 = .ok (.bipush (-2), 2) := by decide +kernel
theorem dX6_giveUp_11 : decode cX6_giveUp 11 = .ok (.ireturn, 1) := by decide +kernel
set_option maxRecDepth 20000 in
theorem ggX6_told_X6_isProblem : GoodIn wsX6_told wsX6_isProblem := goodIn_r _ [8, 9, 10, 11, 7, 12, 13, 14, 15, 16, 17, 18, 19, 20, 21, 22, 23, 24, 25, 26, 27, 28, 29, 30] (by decide +kernel) (by decide +kernel)
set_option maxRecDepth 20000 in
theorem gX6_told_X6_isProblem : GoodIn wsX6_told (wsV RX6 95 RX6 yX6_isProblem wsX6_isProblem) := goodIn_app (goodIn_of _ (by decide +kernel)) ggX6_told_X6_isProblem
theorem dX6_told_0 : decode cX6_told 0 = .ok (.aload_n 0, 1) := by decide +kernel
theorem dX6_told_1 : decode cX6_told 1 = .ok (.iload_n 1, 1) := by decide +kernel
theorem dX6_told_2 : decode cX6_told 2 = .ok (.invokevirtual 95, 3) := by decide +kernel
theorem dX6_told_5 : decode cX6_told 5 = .ok (.ifCond .eq 12, 3) := by decide +kernel
theorem dX6_told_17 : decode cX6_told 17 = .ok (.iconst (-1), 1) := by decide +kernel
theorem dX6_told_18 : decode cX6_told 18 = .ok (.ireturn, 1) := by decide +kernel
set_option maxRecDepth 20000 in
theorem ggX6_answer_X6_isProblem : GoodIn wsX6_answer wsX6_isProblem := goodIn_r _ [8, 9, 10, 11, 7, 12, 19, 20, 21, 22, 23, 24, 25, 26, 27, 28, 29, 30, 31, 32, 33, 34, 35, 36] (by decide +kernel) (by decide +kernel)
set_option maxRecDepth 20000 in
theorem gX6_answer_X6_isProblem : GoodIn wsX6_answer (wsV RX6 95 RX6 yX6_isProblem wsX6_isProblem) := goodIn_app (goodIn_of _ (by decide +kernel)) ggX6_answer_X6_isProblem
theorem dX6_answer_0 : decode cX6_answer 0 = .ok (.aload_n 0, 1) := by decide +kernel
theorem dX6_answer_1 : decode cX6_answer 1 = .ok (.iload_n 1, 1) := by decide +kernel
theorem dX6_answer_2 : decode cX6_answer 2 = .ok (.invokevirtual 95, 3) := by decide +kernel
theorem dX6_answer_5 : decode cX6_answer 5 = .ok (.ifCond .eq 16, 3) := by decide +kernel
theorem dX6_answer_21 : decode cX6_answer 21 = .ok (.iconst (-1), 1) := by decide +kernel
theorem dX6_answer_22 : decode cX6_answer 22 = .ok (.ireturn, 1) := by decide +kernel
set_option maxRecDepth 20000 in
theorem ggX6_walked_X6_isWithin : GoodIn wsX6_walked wsX6_isWithin := goodIn_r _ [9] (by decide +kernel) (by decide +kernel)
set_option maxRecDepth 20000 in
theorem gX6_walked_X6_isWithin : GoodIn wsX6_walked (va_wsS RX6 99 yX6_isWithin wsX6_isWithin) := goodIn_app (goodIn_of _ (by decide +kernel)) ggX6_walked_X6_isWithin
theorem dX6_walked_0 : decode cX6_walked 0 = .ok (.iload_n 2, 1) := by decide +kernel
theorem dX6_walked_1 : decode cX6_walked 1 = .ok (.iconst 0, 1) := by decide +kernel
theorem dX6_walked_2 : decode cX6_walked 2 = .ok (.bipush 9, 2) := by decide +kernel
theorem dX6_walked_4 : decode cX6_walked 4 = .ok (.invokestatic 99, 3) := by decide +kernel
theorem dX6_walked_7 : decode cX6_walked 7 = .ok (.ifCond .ne 5, 3) := by decide +kernel
theorem dX6_walked_10 : decode cX6_walked 10 = .ok (.iconst (-1), 1) := by decide +kernel
theorem dX6_walked_11 : decode cX6_walked 11 = .ok (.ireturn, 1) := by decide +kernel
theorem dX6_walked_12 : decode cX6_walked 12 = .ok (.iload_n 1, 1) := by decide +kernel
theorem dX6_walked_13 : decode cX6_walked 13 = .ok (.iconst 0, 1) := by decide +kernel
theorem dX6_walked_14 : decode cX6_walked 14 = .ok (.aload_n 0, 1) := by decide +kernel
theorem dX6_walked_15 : decode cX6_walked 15 = .ok (.getfield 82, 3) := by decide +kernel
theorem dX6_walked_18 : decode cX6_walked 18 = .ok (.getfield 192, 3) := by decide +kernel
theorem dX6_walked_21 : decode cX6_walked 21 = .ok (.iconst 1, 1) := by decide +kernel
theorem dX6_walked_22 : decode cX6_walked 22 = .ok (.isub, 1) := by decide +kernel
theorem dX6_walked_23 : decode cX6_walked 23 = .ok (.invokestatic 99, 3) := by decide +kernel
theorem dX6_walked_26 : decode cX6_walked 26 = .ok (.ifCond .ne 6, 3) := by decide +kernel
theorem dX6_walked_29 : decode cX6_walked 29 = .ok (.bipush (-9), 2) := by decide +kernel
theorem dX6_walked_31 : decode cX6_walked 31 = .ok (.ireturn, 1) := by decide +kernel
set_option maxRecDepth 20000 in
theorem ggX6_closed_X6_isWithin : GoodIn wsX6_closed wsX6_isWithin := goodIn_r _ [9] (by decide +kernel) (by decide +kernel)
set_option maxRecDepth 20000 in
theorem gX6_closed_X6_isWithin : GoodIn wsX6_closed (va_wsS RX6 99 yX6_isWithin wsX6_isWithin) := goodIn_app (goodIn_of _ (by decide +kernel)) ggX6_closed_X6_isWithin
theorem dX6_closed_0 : decode cX6_closed 0 = .ok (.iload_n 3, 1) := by decide +kernel
theorem dX6_closed_1 : decode cX6_closed 1 = .ok (.iconst 0, 1) := by decide +kernel
theorem dX6_closed_2 : decode cX6_closed 2 = .ok (.iconst 1, 1) := by decide +kernel
theorem dX6_closed_3 : decode cX6_closed 3 = .ok (.invokestatic 99, 3) := by decide +kernel
theorem dX6_closed_6 : decode cX6_closed 6 = .ok (.ifCond .ne 5, 3) := by decide +kernel
theorem dX6_closed_9 : decode cX6_closed 9 = .ok (.iconst (-1), 1) := by decide +kernel
theorem dX6_closed_10 : decode cX6_closed 10 = .ok (.ireturn, 1) := by decide +kernel
theorem dX6_closed_11 : decode cX6_closed 11 = .ok (.iload_n 1, 1) := by decide +kernel
theorem dX6_closed_12 : decode cX6_closed 12 = .ok (.iconst 0, 1) := by decide +kernel
theorem dX6_closed_13 : decode cX6_closed 13 = .ok (.aload_n 0, 1) := by decide +kernel
theorem dX6_closed_14 : decode cX6_closed 14 = .ok (.getfield 82, 3) := by decide +kernel
theorem dX6_closed_17 : decode cX6_closed 17 = .ok (.getfield 192, 3) := by decide +kernel
theorem dX6_closed_20 : decode cX6_closed 20 = .ok (.iconst 1, 1) := by decide +kernel
theorem dX6_closed_21 : decode cX6_closed 21 = .ok (.isub, 1) := by decide +kernel
theorem dX6_closed_22 : decode cX6_closed 22 = .ok (.invokestatic 99, 3) := by decide +kernel
theorem dX6_closed_25 : decode cX6_closed 25 = .ok (.ifCond .ne 6, 3) := by decide +kernel
theorem dX6_closed_28 : decode cX6_closed 28 = .ok (.bipush (-9), 2) := by decide +kernel
theorem dX6_closed_30 : decode cX6_closed 30 = .ok (.ireturn, 1) := by decide +kernel
set_option maxRecDepth 20000 in
theorem ggX6_helper_X6_isWithin : GoodIn wsX6_helper wsX6_isWithin := goodIn_r _ [8] (by decide +kernel) (by decide +kernel)
set_option maxRecDepth 20000 in
theorem gX6_helper_X6_isWithin : GoodIn wsX6_helper (va_wsS RX6 99 yX6_isWithin wsX6_isWithin) := goodIn_app (goodIn_of _ (by decide +kernel)) ggX6_helper_X6_isWithin
theorem dX6_helper_0 : decode cX6_helper 0 = .ok (.iload_n 1, 1) := by decide +kernel
theorem dX6_helper_1 : decode cX6_helper 1 = .ok (.iconst 0, 1) := by decide +kernel
theorem dX6_helper_2 : decode cX6_helper 2 = .ok (.iconst 4, 1) := by decide +kernel
theorem dX6_helper_3 : decode cX6_helper 3 = .ok (.invokestatic 99, 3) := by decide +kernel
theorem dX6_helper_6 : decode cX6_helper 6 = .ok (.ifCond .ne 5, 3) := by decide +kernel
theorem dX6_helper_9 : decode cX6_helper 9 = .ok (.iconst (-1), 1) := by decide +kernel
theorem dX6_helper_10 : decode cX6_helper 10 = .ok (.ireturn, 1) := by decide +kernel
theorem dX6_helper_11 : decode cX6_helper 11 = .ok (.iload_n 2, 1) := by decide +kernel
theorem dX6_helper_12 : decode cX6_helper 12 = .ok (.tableswitch 58 0 2 #[28, 38, 48], 28) := by decide +kernel
theorem dX6_helper_40 : decode cX6_helper 40 = .ok (.aload_n 0, 1) := by decide +kernel
theorem dX6_helper_41 : decode cX6_helper 41 = .ok (.getfield 22, 3) := by decide +kernel
theorem dX6_helper_44 : decode cX6_helper 44 = .ok (.getfield 223, 3) := by decide +kernel
theorem dX6_helper_47 : decode cX6_helper 47 = .ok (.iload_n 1, 1) := by decide +kernel
theorem dX6_helper_48 : decode cX6_helper 48 = .ok (.iaload, 1) := by decide +kernel
theorem dX6_helper_49 : decode cX6_helper 49 = .ok (.ireturn, 1) := by decide +kernel
theorem dX6_helper_50 : decode cX6_helper 50 = .ok (.aload_n 0, 1) := by decide +kernel
theorem dX6_helper_51 : decode cX6_helper 51 = .ok (.getfield 22, 3) := by decide +kernel
theorem dX6_helper_54 : decode cX6_helper 54 = .ok (.getfield 226, 3) := by decide +kernel
theorem dX6_helper_57 : decode cX6_helper 57 = .ok (.iload_n 1, 1) := by decide +kernel
theorem dX6_helper_58 : decode cX6_helper 58 = .ok (.iaload, 1) := by decide +kernel
theorem dX6_helper_59 : decode cX6_helper 59 = .ok (.ireturn, 1) := by decide +kernel
theorem dX6_helper_60 : decode cX6_helper 60 = .ok (.aload_n 0, 1) := by decide +kernel
theorem dX6_helper_61 : decode cX6_helper 61 = .ok (.getfield 22, 3) := by decide +kernel
theorem dX6_helper_64 : decode cX6_helper 64 = .ok (.getfield 229, 3) := by decide +kernel
theorem dX6_helper_67 : decode cX6_helper 67 = .ok (.iload_n 1, 1) := by decide +kernel
theorem dX6_helper_68 : decode cX6_helper 68 = .ok (.iaload, 1) := by decide +kernel
theorem dX6_helper_69 : decode cX6_helper 69 = .ok (.ireturn, 1) := by decide +kernel
theorem dX6_helper_70 : decode cX6_helper 70 = .ok (.iconst (-1), 1) := by decide +kernel
theorem dX6_helper_71 : decode cX6_helper 71 = .ok (.ireturn, 1) := by decide +kernel
set_option maxRecDepth 20000 in
theorem ggX6_ask_X6_isProblem : GoodIn wsX6_ask wsX6_isProblem := goodIn_r _ [12, 13, 14, 15, 11, 16, 21, 22, 23, 24, 25, 26, 27, 28, 29, 30, 31, 32, 33, 34, 35, 36, 37, 38] (by decide +kernel) (by decide +kernel)
set_option maxRecDepth 20000 in
theorem gX6_ask_X6_isProblem : GoodIn wsX6_ask (wsV RX6 95 RX6 yX6_isProblem wsX6_isProblem) := goodIn_app (goodIn_of _ (by decide +kernel)) ggX6_ask_X6_isProblem
theorem dX6_ask_0 : decode cX6_ask 0 = .ok (.aload_n 0, 1) := by decide +kernel
theorem dX6_ask_1 : decode cX6_ask 1 = .ok (.iload_n 1, 1) := by decide +kernel
theorem dX6_ask_2 : decode cX6_ask 2 = .ok (.invokevirtual 95, 3) := by decide +kernel
theorem dX6_ask_5 : decode cX6_ask 5 = .ok (.ifCond .ne 5, 3) := by decide +kernel
theorem dX6_ask_8 : decode cX6_ask 8 = .ok (.iconst (-1), 1) := by decide +kernel
theorem dX6_ask_9 : decode cX6_ask 9 = .ok (.ireturn, 1) := by decide +kernel
theorem dX6_with_0 : decode cX6_with 0 = .ok (.aload_n 0, 1) := by decide +kernel
theorem dX6_with_1 : decode cX6_with 1 = .ok (.getfield 32, 3) := by decide +kernel
theorem dX6_with_4 : decode cX6_with 4 = .ok (.bipush (-9), 2) := by decide +kernel
theorem dX6_with_6 : decode cX6_with 6 = .ok (.if_icmp .eq 23, 3) := by decide +kernel
theorem dX6_with_29 : decode cX6_with 29 = .ok (.iconst (-1), 1) := by decide +kernel
theorem dX6_with_30 : decode cX6_with 30 = .ok (.ireturn, 1) := by decide +kernel
set_option maxRecDepth 20000 in
theorem ggX6_node_X6_isWithin : GoodIn wsX6_node wsX6_isWithin := goodIn_r _ [16] (by decide +kernel) (by decide +kernel)
set_option maxRecDepth 20000 in
theorem gX6_node_X6_isWithin : GoodIn wsX6_node (va_wsS RX6 99 yX6_isWithin wsX6_isWithin) := goodIn_app (goodIn_of _ (by decide +kernel)) ggX6_node_X6_isWithin
theorem dX6_node_0 : decode cX6_node 0 = .ok (.iload_n 1, 1) := by decide +kernel
theorem dX6_node_1 : decode cX6_node 1 = .ok (.iconst 0, 1) := by decide +kernel
theorem dX6_node_2 : decode cX6_node 2 = .ok (.iconst 4, 1) := by decide +kernel
theorem dX6_node_3 : decode cX6_node 3 = .ok (.invokestatic 99, 3) := by decide +kernel
theorem dX6_node_6 : decode cX6_node 6 = .ok (.ifCond .ne 5, 3) := by decide +kernel
theorem dX6_node_9 : decode cX6_node 9 = .ok (.iconst (-1), 1) := by decide +kernel
theorem dX6_node_10 : decode cX6_node 10 = .ok (.ireturn, 1) := by decide +kernel
theorem dX6_node_11 : decode cX6_node 11 = .ok (.aload_n 0, 1) := by decide +kernel
theorem dX6_node_12 : decode cX6_node 12 = .ok (.getfield 32, 3) := by decide +kernel
theorem dX6_node_15 : decode cX6_node 15 = .ok (.bipush (-9), 2) := by decide +kernel
theorem dX6_node_17 : decode cX6_node 17 = .ok (.if_icmp .eq 22, 3) := by decide +kernel
theorem dX6_node_39 : decode cX6_node 39 = .ok (.bipush (-2), 2) := by decide +kernel
theorem dX6_node_41 : decode cX6_node 41 = .ok (.ireturn, 1) := by decide +kernel
set_option maxRecDepth 20000 in
theorem ggX6_second_X6_isProblem : GoodIn wsX6_second wsX6_isProblem := goodIn_r _ [11, 12, 13, 14, 10, 15, 178, 179, 180, 181, 182, 183, 184, 185, 186, 187, 188, 189, 190, 191, 192, 193, 194, 195] (by decide +kernel) (by decide +kernel)
set_option maxRecDepth 20000 in
theorem gX6_second_X6_isProblem : GoodIn wsX6_second (wsV RX6 95 RX6 yX6_isProblem wsX6_isProblem) := goodIn_app (goodIn_of _ (by decide +kernel)) ggX6_second_X6_isProblem
theorem dX6_second_0 : decode cX6_second 0 = .ok (.aload_n 0, 1) := by decide +kernel
theorem dX6_second_1 : decode cX6_second 1 = .ok (.iload_n 1, 1) := by decide +kernel
theorem dX6_second_2 : decode cX6_second 2 = .ok (.invokevirtual 95, 3) := by decide +kernel
theorem dX6_second_5 : decode cX6_second 5 = .ok (.ifCond .eq 13, 3) := by decide +kernel
theorem dX6_second_18 : decode cX6_second 18 = .ok (.ldc_w 261, 3) := by decide +kernel
theorem dX6_second_21 : decode cX6_second 21 = .ok (.ireturn, 1) := by decide +kernel
set_option maxRecDepth 20000 in
theorem ggX6_row_X6_isWithin : GoodIn wsX6_row wsX6_isWithin := goodIn_r _ [5] (by decide +kernel) (by decide +kernel)
set_option maxRecDepth 20000 in
theorem gX6_row_X6_isWithin : GoodIn wsX6_row (va_wsS RX6 99 yX6_isWithin wsX6_isWithin) := goodIn_app (goodIn_of _ (by decide +kernel)) ggX6_row_X6_isWithin
theorem dX6_row_0 : decode cX6_row 0 = .ok (.iload_n 1, 1) := by decide +kernel
theorem dX6_row_1 : decode cX6_row 1 = .ok (.iconst 0, 1) := by decide +kernel
theorem dX6_row_2 : decode cX6_row 2 = .ok (.iconst 5, 1) := by decide +kernel
theorem dX6_row_3 : decode cX6_row 3 = .ok (.invokestatic 99, 3) := by decide +kernel
theorem dX6_row_6 : decode cX6_row 6 = .ok (.ifCond .eq 12, 3) := by decide +kernel
theorem dX6_row_9 : decode cX6_row 9 = .ok (.aload_n 0, 1) := by decide +kernel
theorem dX6_row_10 : decode cX6_row 10 = .ok (.getfield 52, 3) := by decide +kernel
theorem dX6_row_13 : decode cX6_row 13 = .ok (.iload_n 1, 1) := by decide +kernel
theorem dX6_row_14 : decode cX6_row 14 = .ok (.iaload, 1) := by decide +kernel
theorem dX6_row_15 : decode cX6_row 15 = .ok (.goto 5, 3) := by decide +kernel
theorem dX6_row_18 : decode cX6_row 18 = .ok (.bipush (-9), 2) := by decide +kernel
theorem dX6_row_20 : decode cX6_row 20 = .ok (.ireturn, 1) := by decide +kernel
set_option maxRecDepth 20000 in
theorem ggX6_same_X6_isProblem : GoodIn wsX6_same wsX6_isProblem := goodIn_r _ [13, 14, 15, 16, 12, 17, 250, 251, 252, 253, 254, 255, 256, 257, 258, 259, 260, 261, 262, 263, 264, 265, 266, 267] (by decide +kernel) (by decide +kernel)
set_option maxRecDepth 20000 in
theorem gX6_same_X6_isProblem : GoodIn wsX6_same (wsV RX6 95 RX6 yX6_isProblem wsX6_isProblem) := goodIn_app (goodIn_of _ (by decide +kernel)) ggX6_same_X6_isProblem
theorem dX6_same_0 : decode cX6_same 0 = .ok (.aload_n 0, 1) := by decide +kernel
theorem dX6_same_1 : decode cX6_same 1 = .ok (.iload_n 1, 1) := by decide +kernel
theorem dX6_same_2 : decode cX6_same 2 = .ok (.invokevirtual 95, 3) := by decide +kernel
theorem dX6_same_5 : decode cX6_same 5 = .ok (.ifCond .eq 12, 3) := by decide +kernel
theorem dX6_same_17 : decode cX6_same 17 = .ok (.iconst (-1), 1) := by decide +kernel
theorem dX6_same_18 : decode cX6_same 18 = .ok (.ireturn, 1) := by decide +kernel
theorem dX6_count_0 : decode cX6_count 0 = .ok (.aload_n 0, 1) := by decide +kernel
theorem dX6_count_1 : decode cX6_count 1 = .ok (.getfield 29, 3) := by decide +kernel
theorem dX6_count_4 : decode cX6_count 4 = .ok (.bipush (-9), 2) := by decide +kernel
theorem dX6_count_6 : decode cX6_count 6 = .ok (.if_icmp .eq 7, 3) := by decide +kernel
theorem dX6_count_13 : decode cX6_count 13 = .ok (.iconst 0, 1) := by decide +kernel
theorem dX6_count_14 : decode cX6_count 14 = .ok (.istore_n 2, 1) := by decide +kernel
theorem dX6_count_15 : decode cX6_count 15 = .ok (.iload_n 1, 1) := by decide +kernel
theorem dX6_count_16 : decode cX6_count 16 = .ok (.tableswitch 136 0 7 #[48, 53, 58, 66, 74, 79, 98, 117], 48) := by decide +kernel
theorem dX6_count_64 : decode cX6_count 64 = .ok (.aload_n 0, 1) := by decide +kernel
theorem dX6_count_65 : decode cX6_count 65 = .ok (.getfield 15, 3) := by decide +kernel
theorem dX6_count_68 : decode cX6_count 68 = .ok (.ireturn, 1) := by decide +kernel
theorem dX6_count_69 : decode cX6_count 69 = .ok (.aload_n 0, 1) := by decide +kernel
theorem dX6_count_70 : decode cX6_count 70 = .ok (.getfield 26, 3) := by decide +kernel
theorem dX6_count_73 : decode cX6_count 73 = .ok (.ireturn, 1) := by decide +kernel
theorem dX6_count_74 : decode cX6_count 74 = .ok (.aload_n 0, 1) := by decide +kernel
theorem dX6_count_75 : decode cX6_count 75 = .ok (.getfield 22, 3) := by decide +kernel
theorem dX6_count_78 : decode cX6_count 78 = .ok (.getfield 158, 3) := by decide +kernel
theorem dX6_count_81 : decode cX6_count 81 = .ok (.ireturn, 1) := by decide +kernel
theorem dX6_count_82 : decode cX6_count 82 = .ok (.aload_n 0, 1) := by decide +kernel
theorem dX6_count_83 : decode cX6_count 83 = .ok (.getfield 22, 3) := by decide +kernel
theorem dX6_count_86 : decode cX6_count 86 = .ok (.getfield 168, 3) := by decide +kernel
theorem dX6_count_89 : decode cX6_count 89 = .ok (.ireturn, 1) := by decide +kernel
theorem dX6_count_90 : decode cX6_count 90 = .ok (.aload_n 0, 1) := by decide +kernel
theorem dX6_count_91 : decode cX6_count 91 = .ok (.getfield 29, 3) := by decide +kernel
theorem dX6_count_94 : decode cX6_count 94 = .ok (.ireturn, 1) := by decide +kernel
theorem dX6_count_95 : decode cX6_count 95 = .ok (.iload_n 2, 1) := by decide +kernel
theorem dX6_count_96 : decode cX6_count 96 = .ok (.ifCond .eq 16, 3) := by decide +kernel
theorem dX6_count_112 : decode cX6_count 112 = .ok (.iconst 0, 1) := by decide +kernel
theorem dX6_count_113 : decode cX6_count 113 = .ok (.ireturn, 1) := by decide +kernel
theorem dX6_count_114 : decode cX6_count 114 = .ok (.iload_n 2, 1) := by decide +kernel
theorem dX6_count_115 : decode cX6_count 115 = .ok (.ifCond .eq 16, 3) := by decide +kernel
theorem dX6_count_131 : decode cX6_count 131 = .ok (.iconst 0, 1) := by decide +kernel
theorem dX6_count_132 : decode cX6_count 132 = .ok (.ireturn, 1) := by decide +kernel
theorem dX6_count_133 : decode cX6_count 133 = .ok (.iload_n 2, 1) := by decide +kernel
theorem dX6_count_134 : decode cX6_count 134 = .ok (.ifCond .eq 16, 3) := by decide +kernel
theorem dX6_count_150 : decode cX6_count 150 = .ok (.iconst 0, 1) := by decide +kernel
theorem dX6_count_151 : decode cX6_count 151 = .ok (.ireturn, 1) := by decide +kernel
theorem dX6_count_152 : decode cX6_count 152 = .ok (.iconst (-1), 1) := by decide +kernel
theorem dX6_count_153 : decode cX6_count 153 = .ok (.ireturn, 1) := by decide +kernel
set_option maxRecDepth 20000 in
theorem ggX6_about_X6_isProblem : GoodIn wsX6_about wsX6_isProblem := goodIn_r _ [11, 12, 13, 14, 10, 15, 45, 46, 47, 48, 49, 50, 51, 52, 53, 54, 55, 56, 57, 58, 59, 60, 61, 62] (by decide +kernel) (by decide +kernel)
set_option maxRecDepth 20000 in
theorem gX6_about_X6_isProblem : GoodIn wsX6_about (wsV RX6 95 RX6 yX6_isProblem wsX6_isProblem) := goodIn_app (goodIn_of _ (by decide +kernel)) ggX6_about_X6_isProblem
set_option maxRecDepth 20000 in
theorem ggX6_about_X6_refuse : GoodIn wsX6_about wsX6_refuse := goodIn_r _ [19, 20, 21, 45, 46, 47, 48, 49, 50, 51, 52, 53, 54, 55, 56, 57, 58, 59, 60, 61, 62] (by decide +kernel) (by decide +kernel)
set_option maxRecDepth 20000 in
theorem gX6_about_X6_refuse : GoodIn wsX6_about (wsV RX6 116 RX6 yX6_refuse wsX6_refuse) := goodIn_app (goodIn_of _ (by decide +kernel)) ggX6_about_X6_refuse
theorem dX6_about_0 : decode cX6_about 0 = .ok (.aload_n 0, 1) := by decide +kernel
theorem dX6_about_1 : decode cX6_about 1 = .ok (.iload_n 1, 1) := by decide +kernel
theorem dX6_about_2 : decode cX6_about 2 = .ok (.invokevirtual 95, 3) := by decide +kernel
theorem dX6_about_5 : decode cX6_about 5 = .ok (.ifCond .eq 13, 3) := by decide +kernel
theorem dX6_about_18 : decode cX6_about 18 = .ok (.aload_n 0, 1) := by decide +kernel
theorem dX6_about_19 : decode cX6_about 19 = .ok (.iconst (-1), 1) := by decide +kernel
theorem dX6_about_20 : decode cX6_about 20 = .ok (.invokevirtual 116, 3) := by decide +kernel
theorem dX6_about_23 : decode cX6_about 23 = .ok (.ireturn, 1) := by decide +kernel
set_option maxRecDepth 20000 in
theorem ggX6_costs_X6_isProblem : GoodIn wsX6_costs wsX6_isProblem := goodIn_r _ [7, 8, 9, 10, 6, 11, 33, 34, 35, 36, 37, 38, 39, 40, 41, 42, 43, 44, 45, 46, 47, 48, 49, 50] (by decide +kernel) (by decide +kernel)
set_option maxRecDepth 20000 in
theorem gX6_costs_X6_isProblem : GoodIn wsX6_costs (wsV RX6 95 RX6 yX6_isProblem wsX6_isProblem) := goodIn_app (goodIn_of _ (by decide +kernel)) ggX6_costs_X6_isProblem
set_option maxRecDepth 20000 in
theorem ggX6_costs_X6_refuse : GoodIn wsX6_costs wsX6_refuse := goodIn_r _ [26, 27, 28, 33, 34, 35, 36, 37, 38, 39, 40, 41, 42, 43, 44, 45, 46, 47, 48, 49, 50] (by decide +kernel) (by decide +kernel)
set_option maxRecDepth 20000 in
theorem gX6_costs_X6_refuse : GoodIn wsX6_costs (wsV RX6 116 RX6 yX6_refuse wsX6_refuse) := goodIn_app (goodIn_of _ (by decide +kernel)) ggX6_costs_X6_refuse
theorem dX6_costs_0 : decode cX6_costs 0 = .ok (.aload_n 0, 1) := by decide +kernel
theorem dX6_costs_1 : decode cX6_costs 1 = .ok (.iload_n 1, 1) := by decide +kernel
theorem dX6_costs_2 : decode cX6_costs 2 = .ok (.invokevirtual 95, 3) := by decide +kernel
theorem dX6_costs_5 : decode cX6_costs 5 = .ok (.ifCond .eq 17, 3) := by decide +kernel
theorem dX6_costs_22 : decode cX6_costs 22 = .ok (.aload_n 0, 1) := by decide +kernel
theorem dX6_costs_23 : decode cX6_costs 23 = .ok (.iconst (-1), 1) := by decide +kernel
theorem dX6_costs_24 : decode cX6_costs 24 = .ok (.invokevirtual 116, 3) := by decide +kernel
theorem dX6_costs_27 : decode cX6_costs 27 = .ok (.ireturn, 1) := by decide +kernel
theorem dX6_status_0 : decode cX6_status 0 = .ok (.aload_n 0, 1) := by decide +kernel
theorem dX6_status_1 : decode cX6_status 1 = .ok (.getfield 64, 3) := by decide +kernel
theorem dX6_status_4 : decode cX6_status 4 = .ok (.ireturn, 1) := by decide +kernel
set_option maxRecDepth 20000 in
theorem ggX6_isProblem_X6_isWithin : GoodIn wsX6_isProblem wsX6_isWithin := goodIn_r _ [5] (by decide +kernel) (by decide +kernel)
set_option maxRecDepth 20000 in
theorem gX6_isProblem_X6_isWithin : GoodIn wsX6_isProblem (va_wsS RX6 99 yX6_isWithin wsX6_isWithin) := goodIn_app (goodIn_of _ (by decide +kernel)) ggX6_isProblem_X6_isWithin
theorem dX6_isProblem_0 : decode cX6_isProblem 0 = .ok (.iload_n 1, 1) := by decide +kernel
theorem dX6_isProblem_1 : decode cX6_isProblem 1 = .ok (.iconst 0, 1) := by decide +kernel
theorem dX6_isProblem_2 : decode cX6_isProblem 2 = .ok (.aload_n 0, 1) := by decide +kernel
theorem dX6_isProblem_3 : decode cX6_isProblem 3 = .ok (.getfield 15, 3) := by decide +kernel
theorem dX6_isProblem_6 : decode cX6_isProblem 6 = .ok (.iconst 1, 1) := by decide +kernel
theorem dX6_isProblem_7 : decode cX6_isProblem 7 = .ok (.isub, 1) := by decide +kernel
theorem dX6_isProblem_8 : decode cX6_isProblem 8 = .ok (.invokestatic 99, 3) := by decide +kernel
theorem dX6_isProblem_11 : decode cX6_isProblem 11 = .ok (.ireturn, 1) := by decide +kernel
theorem dX6_isWithin_0 : decode cX6_isWithin 0 = .ok (.iload_n 0, 1) := by decide +kernel
theorem dX6_isWithin_1 : decode cX6_isWithin 1 = .ok (.iload_n 1, 1) := by decide +kernel
theorem dX6_isWithin_2 : decode cX6_isWithin 2 = .ok (.if_icmp .lt 12, 3) := by decide +kernel
theorem dX6_isWithin_5 : decode cX6_isWithin 5 = .ok (.iload_n 0, 1) := by decide +kernel
theorem dX6_isWithin_6 : decode cX6_isWithin 6 = .ok (.iload_n 2, 1) := by decide +kernel
theorem dX6_isWithin_7 : decode cX6_isWithin 7 = .ok (.if_icmp .gt 7, 3) := by decide +kernel
theorem dX6_isWithin_10 : decode cX6_isWithin 10 = .ok (.iconst 1, 1) := by decide +kernel
theorem dX6_isWithin_11 : decode cX6_isWithin 11 = .ok (.goto 4, 3) := by decide +kernel
theorem dX6_isWithin_14 : decode cX6_isWithin 14 = .ok (.iconst 0, 1) := by decide +kernel
theorem dX6_isWithin_15 : decode cX6_isWithin 15 = .ok (.ireturn, 1) := by decide +kernel
theorem dX6_refuse_0 : decode cX6_refuse 0 = .ok (.aload_n 0, 1) := by decide +kernel
theorem dX6_refuse_1 : decode cX6_refuse 1 = .ok (.iload_n 1, 1) := by decide +kernel
theorem dX6_refuse_2 : decode cX6_refuse 2 = .ok (.putfield 64, 3) := by decide +kernel
theorem dX6_refuse_5 : decode cX6_refuse 5 = .ok (.ldc_w 269, 3) := by decide +kernel
theorem dX6_refuse_8 : decode cX6_refuse 8 = .ok (.ireturn, 1) := by decide +kernel
theorem dX7_in_0 : decode cX7_in 0 = .ok (.iload_n 0, 1) := by decide +kernel
theorem dX7_in_1 : decode cX7_in 1 = .ok (.iload_n 1, 1) := by decide +kernel
theorem dX7_in_2 : decode cX7_in 2 = .ok (.if_icmp .lt 12, 3) := by decide +kernel
theorem dX7_in_5 : decode cX7_in 5 = .ok (.iload_n 0, 1) := by decide +kernel
theorem dX7_in_6 : decode cX7_in 6 = .ok (.iload_n 2, 1) := by decide +kernel
theorem dX7_in_7 : decode cX7_in 7 = .ok (.if_icmp .gt 7, 3) := by decide +kernel
theorem dX7_in_10 : decode cX7_in 10 = .ok (.iconst 1, 1) := by decide +kernel
theorem dX7_in_11 : decode cX7_in 11 = .ok (.goto 4, 3) := by decide +kernel
theorem dX7_in_14 : decode cX7_in 14 = .ok (.iconst 0, 1) := by decide +kernel
theorem dX7_in_15 : decode cX7_in 15 = .ok (.ireturn, 1) := by decide +kernel
set_option maxRecDepth 20000 in
theorem ggX7_isProblem_X7_in : GoodIn wsX7_isProblem wsX7_in := goodIn_r _ [5] (by decide +kernel) (by decide +kernel)
set_option maxRecDepth 20000 in
theorem gX7_isProblem_X7_in : GoodIn wsX7_isProblem (va_wsS RX7 207 yX7_in wsX7_in) := goodIn_app (goodIn_of _ (by decide +kernel)) ggX7_isProblem_X7_in
theorem dX7_isProblem_0 : decode cX7_isProblem 0 = .ok (.iload_n 1, 1) := by decide +kernel
theorem dX7_isProblem_1 : decode cX7_isProblem 1 = .ok (.iconst 0, 1) := by decide +kernel
theorem dX7_isProblem_2 : decode cX7_isProblem 2 = .ok (.aload_n 0, 1) := by decide +kernel
theorem dX7_isProblem_3 : decode cX7_isProblem 3 = .ok (.getfield 204, 3) := by decide +kernel
theorem dX7_isProblem_6 : decode cX7_isProblem 6 = .ok (.iconst 1, 1) := by decide +kernel
theorem dX7_isProblem_7 : decode cX7_isProblem 7 = .ok (.isub, 1) := by decide +kernel
theorem dX7_isProblem_8 : decode cX7_isProblem 8 = .ok (.invokestatic 207, 3) := by decide +kernel
theorem dX7_isProblem_11 : decode cX7_isProblem 11 = .ok (.ireturn, 1) := by decide +kernel
theorem dX7_problem_0 : decode cX7_problem 0 = .ok (.aload_n 0, 1) := by decide +kernel
theorem dX7_problem_1 : decode cX7_problem 1 = .ok (.iconst 0, 1) := by decide +kernel
theorem dX7_problem_2 : decode cX7_problem 2 = .ok (.putfield 201, 3) := by decide +kernel
theorem dX7_problem_5 : decode cX7_problem 5 = .ok (.aload_n 0, 1) := by decide +kernel
theorem dX7_problem_6 : decode cX7_problem 6 = .ok (.getfield 62, 3) := by decide +kernel
theorem dX7_problem_9 : decode cX7_problem 9 = .ok (.bipush (-9), 2) := by decide +kernel
theorem dX7_problem_11 : decode cX7_problem 11 = .ok (.if_icmp .eq 6, 3) := by decide +kernel
theorem dX7_problem_17 : decode cX7_problem 17 = .ok (.aload_n 0, 1) := by decide +kernel
theorem dX7_problem_18 : decode cX7_problem 18 = .ok (.getfield 204, 3) := by decide +kernel
theorem dX7_problem_21 : decode cX7_problem 21 = .ok (.iconst 5, 1) := by decide +kernel
theorem dX7_problem_22 : decode cX7_problem 22 = .ok (.if_icmp .ne 6, 3) := by decide +kernel
theorem dX7_problem_28 : decode cX7_problem 28 = .ok (.aload_n 0, 1) := by decide +kernel
theorem dX7_problem_29 : decode cX7_problem 29 = .ok (.dup, 1) := by decide +kernel
theorem dX7_problem_30 : decode cX7_problem 30 = .ok (.getfield 204, 3) := by decide +kernel
theorem dX7_problem_33 : decode cX7_problem 33 = .ok (.iconst 1, 1) := by decide +kernel
theorem dX7_problem_34 : decode cX7_problem 34 = .ok (.iadd, 1) := by decide +kernel
theorem dX7_problem_35 : decode cX7_problem 35 = .ok (.putfield 204, 3) := by decide +kernel
theorem dX7_problem_38 : decode cX7_problem 38 = .ok (.aload_n 0, 1) := by decide +kernel
theorem dX7_problem_39 : decode cX7_problem 39 = .ok (.getfield 204, 3) := by decide +kernel
theorem dX7_problem_42 : decode cX7_problem 42 = .ok (.iconst 1, 1) := by decide +kernel
theorem dX7_problem_43 : decode cX7_problem 43 = .ok (.isub, 1) := by decide +kernel
theorem dX7_problem_44 : decode cX7_problem 44 = .ok (.ireturn, 1) := by decide +kernel
set_option maxRecDepth 20000 in
theorem ggX7_variable_X7_isProblem : GoodIn wsX7_variable wsX7_isProblem := goodIn_r _ [10, 11, 12, 13, 9, 14, 23, 24, 25, 26, 27, 28, 29, 30, 31, 32, 33, 34, 35, 36, 37, 38, 39, 40, 41, 42, 43, 44, 45, 46, 47, 48, 49, 50, 51, 52, 53, 54, 55, 56, 57, 58, 59, 60, 61, 62, 63, 64, 65, 66, 67, 68, 69, 70, 71, 72, 73, 74, 75, 76, 77, 78, 79, 80, 81, 82, 83, 84, 85, 86, 87, 88, 89, 90, 91, 92, 93, 94, 95, 96, 97, 98, 99, 100, 101] (by decide +kernel) (by decide +kernel)
set_option maxRecDepth 20000 in
theorem gX7_variable_X7_isProblem : GoodIn wsX7_variable (wsV RX7 214 RX7 yX7_isProblem wsX7_isProblem) := goodIn_app (goodIn_of _ (by decide +kernel)) ggX7_variable_X7_isProblem
theorem dX7_variable_0 : decode cX7_variable 0 = .ok (.aload_n 0, 1) := by decide +kernel
theorem dX7_variable_1 : decode cX7_variable 1 = .ok (.iconst 0, 1) := by decide +kernel
theorem dX7_variable_2 : decode cX7_variable 2 = .ok (.putfield 201, 3) := by decide +kernel
theorem dX7_variable_5 : decode cX7_variable 5 = .ok (.aload_n 0, 1) := by decide +kernel
theorem dX7_variable_6 : decode cX7_variable 6 = .ok (.iload_n 1, 1) := by decide +kernel
theorem dX7_variable_7 : decode cX7_variable 7 = .ok (.invokevirtual 214, 3) := by decide +kernel
theorem dX7_variable_10 : decode cX7_variable 10 = .ok (.ifCond .eq 22, 3) := by decide +kernel
theorem dX7_variable_32 : decode cX7_variable 32 = .ok (.iconst (-1), 1) := by decide +kernel
theorem dX7_variable_33 : decode cX7_variable 33 = .ok (.ireturn, 1) := by decide +kernel
theorem dX7_no_0 : decode cX7_no 0 = .ok (.aload_n 0, 1) := by decide +kernel
theorem dX7_no_1 : decode cX7_no 1 = .ok (.iload_n 1, 1) := by decide +kernel
theorem dX7_no_2 : decode cX7_no 2 = .ok (.putfield 221, 3) := by decide +kernel
theorem dX7_no_5 : decode cX7_no 5 = .ok (.ldc 224, 2) := by decide +kernel
theorem dX7_no_7 : decode cX7_no 7 = .ok (.ireturn, 1) := by decide +kernel
set_option maxRecDepth 20000 in
theorem ggX7_isValue_X7_isProblem : GoodIn wsX7_isValue wsX7_isProblem := goodIn_r _ [7, 8, 9, 10, 6, 11, 12, 13, 14, 15, 16, 17, 18, 19, 20, 21, 22, 23, 24, 25, 26, 27, 28, 29, 30, 31, 32, 33, 34, 35, 36, 37, 38, 39, 40, 41, 42, 43, 44, 45, 46, 47, 48, 49, 50, 51, 52, 53, 54, 55, 56, 57, 58, 59, 60, 61, 62, 63, 64, 65, 66, 67, 68, 69, 70, 71, 72, 73, 74, 75, 76, 77, 78, 79, 80, 81, 82, 83, 84, 85, 86, 87, 88, 89, 90] (by decide +kernel) (by decide +kernel)
set_option maxRecDepth 20000 in
theorem gX7_isValue_X7_isProblem : GoodIn wsX7_isValue (wsV RX7 214 RX7 yX7_isProblem wsX7_isProblem) := goodIn_app (goodIn_of _ (by decide +kernel)) ggX7_isValue_X7_isProblem
theorem dX7_isValue_0 : decode cX7_isValue 0 = .ok (.aload_n 0, 1) := by decide +kernel
theorem dX7_isValue_1 : decode cX7_isValue 1 = .ok (.iload_n 1, 1) := by decide +kernel
theorem dX7_isValue_2 : decode cX7_isValue 2 = .ok (.invokevirtual 214, 3) := by decide +kernel
theorem dX7_isValue_5 : decode cX7_isValue 5 = .ok (.ifCond .eq 44, 3) := by decide +kernel
theorem dX7_isValue_49 : decode cX7_isValue 49 = .ok (.iconst 0, 1) := by decide +kernel
theorem dX7_isValue_50 : decode cX7_isValue 50 = .ok (.ireturn, 1) := by decide +kernel
set_option maxRecDepth 20000 in
theorem ggX7_cost_X7_isValue : GoodIn wsX7_cost wsX7_isValue := goodIn_r _ [13, 14, 15, 16, 17, 18, 12, 19, 20, 21, 22, 23, 37, 38, 39, 40, 41, 42, 43, 44, 45, 46, 47, 48, 49, 50, 51, 52, 53, 54, 55, 56, 57, 58, 59, 60, 61, 62, 63, 64, 65, 66, 67, 68, 69, 70, 71, 72, 73, 74, 75, 76, 77, 78, 79, 80, 81, 82, 83, 84, 85, 86, 87, 88, 89, 90, 91, 92, 93, 94, 95, 96, 97, 98, 99, 100, 101, 102, 103, 104, 105, 106, 107, 108, 109, 110, 111, 112, 113, 114, 115] (by decide +kernel) (by decide +kernel)
set_option maxRecDepth 20000 in
theorem gX7_cost_X7_isValue : GoodIn wsX7_cost (wsV RX7 225 RX7 yX7_isValue wsX7_isValue) := goodIn_app (goodIn_of _ (by decide +kernel)) ggX7_cost_X7_isValue
set_option maxRecDepth 20000 in
theorem ggX7_cost_X7_no : GoodIn wsX7_cost wsX7_no := goodIn_r _ [27, 2, 28, 37, 38, 39, 40, 41, 42, 43, 44, 45, 46, 47, 48, 49, 50, 51, 52, 53, 54, 55, 56, 57, 58, 59, 60, 61, 62, 63, 64, 65, 66, 67, 68, 69, 70, 71, 72, 73, 74, 75, 76, 77, 78, 79, 80, 81, 82, 83, 84, 85, 86, 87, 88, 89, 90, 91, 92, 93, 94, 95, 96, 97, 98, 99, 100, 101, 102, 103, 104, 105, 106, 107, 108, 109, 110, 111, 112, 113, 114, 115] (by decide +kernel) (by decide +kernel)
set_option maxRecDepth 20000 in
theorem gX7_cost_X7_no : GoodIn wsX7_cost (wsV RX7 230 RX7 yX7_no wsX7_no) := goodIn_app (goodIn_of _ (by decide +kernel)) ggX7_cost_X7_no
theorem dX7_cost_0 : decode cX7_cost 0 = .ok (.aload_n 0, 1) := by decide +kernel
theorem dX7_cost_1 : decode cX7_cost 1 = .ok (.iconst 0, 1) := by decide +kernel
theorem dX7_cost_2 : decode cX7_cost 2 = .ok (.putfield 201, 3) := by decide +kernel
theorem dX7_cost_5 : decode cX7_cost 5 = .ok (.aload_n 0, 1) := by decide +kernel
theorem dX7_cost_6 : decode cX7_cost 6 = .ok (.iconst 0, 1) := by decide +kernel
theorem dX7_cost_7 : decode cX7_cost 7 = .ok (.putfield 221, 3) := by decide +kernel
theorem dX7_cost_10 : decode cX7_cost 10 = .ok (.aload_n 0, 1) := by decide +kernel
theorem dX7_cost_11 : decode cX7_cost 11 = .ok (.iload_n 1, 1) := by decide +kernel
theorem dX7_cost_12 : decode cX7_cost 12 = .ok (.iload_n 2, 1) := by decide +kernel
theorem dX7_cost_13 : decode cX7_cost 13 = .ok (.iload_n 3, 1) := by decide +kernel
theorem dX7_cost_14 : decode cX7_cost 14 = .ok (.invokevirtual 225, 3) := by decide +kernel
theorem dX7_cost_17 : decode cX7_cost 17 = .ok (.ifCond .eq 15, 3) := by decide +kernel
theorem dX7_cost_32 : decode cX7_cost 32 = .ok (.aload_n 0, 1) := by decide +kernel
theorem dX7_cost_33 : decode cX7_cost 33 = .ok (.iconst (-1), 1) := by decide +kernel
theorem dX7_cost_34 : decode cX7_cost 34 = .ok (.invokevirtual 230, 3) := by decide +kernel
theorem dX7_cost_37 : decode cX7_cost 37 = .ok (.ireturn, 1) := by decide +kernel
set_option maxRecDepth 20000 in
theorem ggX7_rule_X7_isProblem : GoodIn wsX7_rule wsX7_isProblem := goodIn_r _ [10, 11, 12, 13, 9, 14, 23, 24, 25, 26, 27, 28, 29, 30, 31, 32, 33, 34, 35, 36, 37, 38, 39, 40, 41, 42, 43, 44, 45, 46, 47, 48, 49, 50, 51, 52, 53, 54, 55, 56, 57, 58, 59, 60, 61, 62, 63, 64, 65, 66, 67, 68, 69, 70, 71, 72, 73, 74, 75, 76, 77, 78, 79, 80, 81, 82, 83, 84, 85, 86, 87, 88, 89, 90, 91, 92, 93, 94, 95, 96, 97, 98, 99, 100, 101] (by decide +kernel) (by decide +kernel)
set_option maxRecDepth 20000 in
theorem gX7_rule_X7_isProblem : GoodIn wsX7_rule (wsV RX7 214 RX7 yX7_isProblem wsX7_isProblem) := goodIn_app (goodIn_of _ (by decide +kernel)) ggX7_rule_X7_isProblem
theorem dX7_rule_0 : decode cX7_rule 0 = .ok (.aload_n 0, 1) := by decide +kernel
theorem dX7_rule_1 : decode cX7_rule 1 = .ok (.iconst 0, 1) := by decide +kernel
theorem dX7_rule_2 : decode cX7_rule 2 = .ok (.putfield 201, 3) := by decide +kernel
theorem dX7_rule_5 : decode cX7_rule 5 = .ok (.aload_n 0, 1) := by decide +kernel
theorem dX7_rule_6 : decode cX7_rule 6 = .ok (.iload_n 1, 1) := by decide +kernel
theorem dX7_rule_7 : decode cX7_rule 7 = .ok (.invokevirtual 214, 3) := by decide +kernel
theorem dX7_rule_10 : decode cX7_rule 10 = .ok (.ifCond .eq 26, 3) := by decide +kernel
theorem dX7_rule_36 : decode cX7_rule 36 = .ok (.iconst (-1), 1) := by decide +kernel
theorem dX7_rule_37 : decode cX7_rule 37 = .ok (.ireturn, 1) := by decide +kernel
set_option maxRecDepth 20000 in
theorem ggX7_isRule_X7_isProblem : GoodIn wsX7_isRule wsX7_isProblem := goodIn_r _ [6, 7, 8, 9, 5, 10, 11, 12, 13, 14, 15, 16, 17, 18, 19, 20, 21, 22, 23, 24, 25, 26, 27, 28, 29, 30, 31, 32, 33, 34, 35, 36, 37, 38, 39, 40, 41, 42, 43, 44, 45, 46, 47, 48, 49, 50, 51, 52, 53, 54, 55, 56, 57, 58, 59, 60, 61, 62, 63, 64, 65, 66, 67, 68, 69, 70, 71, 72, 73, 74, 75, 76, 77, 78, 79, 80, 81, 82, 83, 84, 85, 86, 87, 88, 89] (by decide +kernel) (by decide +kernel)
set_option maxRecDepth 20000 in
theorem gX7_isRule_X7_isProblem : GoodIn wsX7_isRule (wsV RX7 214 RX7 yX7_isProblem wsX7_isProblem) := goodIn_app (goodIn_of _ (by decide +kernel)) ggX7_isRule_X7_isProblem
theorem dX7_isRule_0 : decode cX7_isRule 0 = .ok (.aload_n 0, 1) := by decide +kernel
theorem dX7_isRule_1 : decode cX7_isRule 1 = .ok (.iload_n 1, 1) := by decide +kernel
theorem dX7_isRule_2 : decode cX7_isRule 2 = .ok (.invokevirtual 214, 3) := by decide +kernel
theorem dX7_isRule_5 : decode cX7_isRule 5 = .ok (.ifCond .eq 23, 3) := by decide +kernel
theorem dX7_isRule_28 : decode cX7_isRule 28 = .ok (.iconst 0, 1) := by decide +kernel
theorem dX7_isRule_29 : decode cX7_isRule 29 = .ok (.ireturn, 1) := by decide +kernel
set_option maxRecDepth 20000 in
theorem ggX7_part_X7_isRule : GoodIn wsX7_part wsX7_isRule := goodIn_r _ [11, 12, 13, 14, 15, 10, 16, 17, 18, 19, 20, 33, 34, 35, 36, 37, 38, 39, 40, 41, 42, 43, 44, 45, 46, 47, 48, 49, 50, 51, 52, 53, 54, 55, 56, 57, 58, 59, 60, 61, 62, 63, 64, 65, 66, 67, 68, 69, 70, 71, 72, 73, 74, 75, 76, 77, 78, 79, 80, 81, 82, 83, 84, 85, 86, 87, 88, 89, 90, 91, 92, 93, 94, 95, 96, 97, 98, 99, 100, 101, 102, 103, 104, 105, 106, 107, 108, 109, 110, 111] (by decide +kernel) (by decide +kernel)
set_option maxRecDepth 20000 in
theorem gX7_part_X7_isRule : GoodIn wsX7_part (wsV RX7 235 RX7 yX7_isRule wsX7_isRule) := goodIn_app (goodIn_of _ (by decide +kernel)) ggX7_part_X7_isRule
theorem dX7_part_0 : decode cX7_part 0 = .ok (.aload_n 0, 1) := by decide +kernel
theorem dX7_part_1 : decode cX7_part 1 = .ok (.iconst 0, 1) := by decide +kernel
theorem dX7_part_2 : decode cX7_part 2 = .ok (.putfield 201, 3) := by decide +kernel
theorem dX7_part_5 : decode cX7_part 5 = .ok (.aload_n 0, 1) := by decide +kernel
theorem dX7_part_6 : decode cX7_part 6 = .ok (.iload_n 1, 1) := by decide +kernel
theorem dX7_part_7 : decode cX7_part 7 = .ok (.iload_n 2, 1) := by decide +kernel
theorem dX7_part_8 : decode cX7_part 8 = .ok (.invokevirtual 235, 3) := by decide +kernel
theorem dX7_part_11 : decode cX7_part 11 = .ok (.ifCond .eq 31, 3) := by decide +kernel
theorem dX7_part_42 : decode cX7_part 42 = .ok (.iconst (-1), 1) := by decide +kernel
theorem dX7_part_43 : decode cX7_part 43 = .ok (.ireturn, 1) := by decide +kernel
set_option maxRecDepth 20000 in
theorem ggX7_number_X7_isRule : GoodIn wsX7_number wsX7_isRule := goodIn_r _ [9, 10, 11, 12, 13, 8, 14, 15, 16, 17, 18, 32, 33, 34, 35, 36, 37, 38, 39, 40, 41, 42, 43, 44, 45, 46, 47, 48, 49, 50, 51, 52, 53, 54, 55, 56, 57, 58, 59, 60, 61, 62, 63, 64, 65, 66, 67, 68, 69, 70, 71, 72, 73, 74, 75, 76, 77, 78, 79, 80, 81, 82, 83, 84, 85, 86, 87, 88, 89, 90, 91, 92, 93, 94, 95, 96, 97, 98, 99, 100, 101, 102, 103, 104, 105, 106, 107, 108, 109, 110] (by decide +kernel) (by decide +kernel)
set_option maxRecDepth 20000 in
theorem gX7_number_X7_isRule : GoodIn wsX7_number (wsV RX7 235 RX7 yX7_isRule wsX7_isRule) := goodIn_app (goodIn_of _ (by decide +kernel)) ggX7_number_X7_isRule
set_option maxRecDepth 20000 in
theorem ggX7_number_X7_no : GoodIn wsX7_number wsX7_no := goodIn_r _ [22, 2, 23, 32, 33, 34, 35, 36, 37, 38, 39, 40, 41, 42, 43, 44, 45, 46, 47, 48, 49, 50, 51, 52, 53, 54, 55, 56, 57, 58, 59, 60, 61, 62, 63, 64, 65, 66, 67, 68, 69, 70, 71, 72, 73, 74, 75, 76, 77, 78, 79, 80, 81, 82, 83, 84, 85, 86, 87, 88, 89, 90, 91, 92, 93, 94, 95, 96, 97, 98, 99, 100, 101, 102, 103, 104, 105, 106, 107, 108, 109, 110] (by decide +kernel) (by decide +kernel)
set_option maxRecDepth 20000 in
theorem gX7_number_X7_no : GoodIn wsX7_number (wsV RX7 230 RX7 yX7_no wsX7_no) := goodIn_app (goodIn_of _ (by decide +kernel)) ggX7_number_X7_no
theorem dX7_number_0 : decode cX7_number 0 = .ok (.aload_n 0, 1) := by decide +kernel
theorem dX7_number_1 : decode cX7_number 1 = .ok (.iconst 0, 1) := by decide +kernel
theorem dX7_number_2 : decode cX7_number 2 = .ok (.putfield 201, 3) := by decide +kernel
theorem dX7_number_5 : decode cX7_number 5 = .ok (.aload_n 0, 1) := by decide +kernel
theorem dX7_number_6 : decode cX7_number 6 = .ok (.iconst 0, 1) := by decide +kernel
theorem dX7_number_7 : decode cX7_number 7 = .ok (.putfield 221, 3) := by decide +kernel
theorem dX7_number_10 : decode cX7_number 10 = .ok (.aload_n 0, 1) := by decide +kernel
theorem dX7_number_11 : decode cX7_number 11 = .ok (.iload_n 1, 1) := by decide +kernel
theorem dX7_number_12 : decode cX7_number 12 = .ok (.iload_n 2, 1) := by decide +kernel
theorem dX7_number_13 : decode cX7_number 13 = .ok (.invokevirtual 235, 3) := by decide +kernel
theorem dX7_number_16 : decode cX7_number 16 = .ok (.ifCond .eq 16, 3) := by decide +kernel
theorem dX7_number_32 : decode cX7_number 32 = .ok (.aload_n 0, 1) := by decide +kernel
theorem dX7_number_33 : decode cX7_number 33 = .ok (.iconst (-1), 1) := by decide +kernel
theorem dX7_number_34 : decode cX7_number 34 = .ok (.invokevirtual 230, 3) := by decide +kernel
theorem dX7_number_37 : decode cX7_number 37 = .ok (.ireturn, 1) := by decide +kernel
set_option maxRecDepth 20000 in
theorem ggX7_helpers_X7_in : GoodIn wsX7_helpers wsX7_in := goodIn_r _ [8] (by decide +kernel) (by decide +kernel)
set_option maxRecDepth 20000 in
theorem gX7_helpers_X7_in : GoodIn wsX7_helpers (va_wsS RX7 207 yX7_in wsX7_in) := goodIn_app (goodIn_of _ (by decide +kernel)) ggX7_helpers_X7_in
theorem dX7_helpers_0 : decode cX7_helpers 0 = .ok (.aload_n 0, 1) := by decide +kernel
theorem dX7_helpers_1 : decode cX7_helpers 1 = .ok (.iconst 0, 1) := by decide +kernel
theorem dX7_helpers_2 : decode cX7_helpers 2 = .ok (.putfield 201, 3) := by decide +kernel
theorem dX7_helpers_5 : decode cX7_helpers 5 = .ok (.iload_n 1, 1) := by decide +kernel
theorem dX7_helpers_6 : decode cX7_helpers 6 = .ok (.iconst 1, 1) := by decide +kernel
theorem dX7_helpers_7 : decode cX7_helpers 7 = .ok (.iconst 5, 1) := by decide +kernel
theorem dX7_helpers_8 : decode cX7_helpers 8 = .ok (.invokestatic 207, 3) := by decide +kernel
theorem dX7_helpers_11 : decode cX7_helpers 11 = .ok (.ifCond .ne 5, 3) := by decide +kernel
theorem dX7_helpers_14 : decode cX7_helpers 14 = .ok (.iconst (-1), 1) := by decide +kernel
theorem dX7_helpers_15 : decode cX7_helpers 15 = .ok (.ireturn, 1) := by decide +kernel
theorem dX7_helpers_16 : decode cX7_helpers 16 = .ok (.aload_n 0, 1) := by decide +kernel
theorem dX7_helpers_17 : decode cX7_helpers 17 = .ok (.getfield 62, 3) := by decide +kernel
theorem dX7_helpers_20 : decode cX7_helpers 20 = .ok (.bipush (-9), 2) := by decide +kernel
theorem dX7_helpers_22 : decode cX7_helpers 22 = .ok (.if_icmp .eq 6, 3) := by decide +kernel
theorem dX7_helpers_28 : decode cX7_helpers 28 = .ok (.aload_n 0, 1) := by decide +kernel
theorem dX7_helpers_29 : decode cX7_helpers 29 = .ok (.getfield 43, 3) := by decide +kernel
theorem dX7_helpers_32 : decode cX7_helpers 32 = .ok (.istore_n 2, 1) := by decide +kernel
theorem dX7_helpers_33 : decode cX7_helpers 33 = .ok (.aload_n 0, 1) := by decide +kernel
theorem dX7_helpers_34 : decode cX7_helpers 34 = .ok (.iload_n 1, 1) := by decide +kernel
theorem dX7_helpers_35 : decode cX7_helpers 35 = .ok (.putfield 43, 3) := by decide +kernel
theorem dX7_helpers_38 : decode cX7_helpers 38 = .ok (.iconst 0, 1) := by decide +kernel
theorem dX7_helpers_39 : decode cX7_helpers 39 = .ok (.istore_n 3, 1) := by decide +kernel
theorem dX7_helpers_40 : decode cX7_helpers 40 = .ok (.iload_n 3, 1) := by decide +kernel
theorem dX7_helpers_41 : decode cX7_helpers 41 = .ok (.iconst 5, 1) := by decide +kernel
theorem dX7_helpers_42 : decode cX7_helpers 42 = .ok (.if_icmp .ge 16, 3) := by decide +kernel
theorem dX7_helpers_45 : decode cX7_helpers 45 = .ok (.aload_n 0, 1) := by decide +kernel
theorem dX7_helpers_46 : decode cX7_helpers 46 = .ok (.getfield 47, 3) := by decide +kernel
theorem dX7_helpers_49 : decode cX7_helpers 49 = .ok (.iload_n 3, 1) := by decide +kernel
theorem dX7_helpers_50 : decode cX7_helpers 50 = .ok (.iconst 0, 1) := by decide +kernel
theorem dX7_helpers_51 : decode cX7_helpers 51 = .ok (.iastore, 1) := by decide +kernel
theorem dX7_helpers_52 : decode cX7_helpers 52 = .ok (.iinc 3 1, 3) := by decide +kernel
theorem dX7_helpers_55 : decode cX7_helpers 55 = .ok (.goto (-15), 3) := by decide +kernel
theorem dX7_helpers_58 : decode cX7_helpers 58 = .ok (.iload_n 2, 1) := by decide +kernel
theorem dX7_helpers_59 : decode cX7_helpers 59 = .ok (.ireturn, 1) := by decide +kernel
set_option maxRecDepth 20000 in
theorem ggX7_fail_X7_in : GoodIn wsX7_fail wsX7_in := goodIn_r _ [8] (by decide +kernel) (by decide +kernel)
set_option maxRecDepth 20000 in
theorem gX7_fail_X7_in : GoodIn wsX7_fail (va_wsS RX7 207 yX7_in wsX7_in) := goodIn_app (goodIn_of _ (by decide +kernel)) ggX7_fail_X7_in
theorem dX7_fail_0 : decode cX7_fail 0 = .ok (.aload_n 0, 1) := by decide +kernel
theorem dX7_fail_1 : decode cX7_fail 1 = .ok (.iconst 0, 1) := by decide +kernel
theorem dX7_fail_2 : decode cX7_fail 2 = .ok (.putfield 201, 3) := by decide +kernel
theorem dX7_fail_5 : decode cX7_fail 5 = .ok (.iload_n 1, 1) := by decide +kernel
theorem dX7_fail_6 : decode cX7_fail 6 = .ok (.iconst 0, 1) := by decide +kernel
theorem dX7_fail_7 : decode cX7_fail 7 = .ok (.aload_n 0, 1) := by decide +kernel
theorem dX7_fail_8 : decode cX7_fail 8 = .ok (.getfield 43, 3) := by decide +kernel
theorem dX7_fail_11 : decode cX7_fail 11 = .ok (.iconst 1, 1) := by decide +kernel
theorem dX7_fail_12 : decode cX7_fail 12 = .ok (.isub, 1) := by decide +kernel
theorem dX7_fail_13 : decode cX7_fail 13 = .ok (.invokestatic 207, 3) := by decide +kernel
theorem dX7_fail_16 : decode cX7_fail 16 = .ok (.ifCond .eq 14, 3) := by decide +kernel
theorem dX7_fail_19 : decode cX7_fail 19 = .ok (.iload_n 2, 1) := by decide +kernel
theorem dX7_fail_20 : decode cX7_fail 20 = .ok (.iconst 0, 1) := by decide +kernel
theorem dX7_fail_21 : decode cX7_fail 21 = .ok (.sipush 200, 3) := by decide +kernel
theorem dX7_fail_24 : decode cX7_fail 24 = .ok (.invokestatic 207, 3) := by decide +kernel
theorem dX7_fail_27 : decode cX7_fail 27 = .ok (.ifCond .ne 5, 3) := by decide +kernel
theorem dX7_fail_30 : decode cX7_fail 30 = .ok (.iconst (-1), 1) := by decide +kernel
theorem dX7_fail_31 : decode cX7_fail 31 = .ok (.ireturn, 1) := by decide +kernel
theorem dX7_fail_32 : decode cX7_fail 32 = .ok (.aload_n 0, 1) := by decide +kernel
theorem dX7_fail_33 : decode cX7_fail 33 = .ok (.getfield 62, 3) := by decide +kernel
theorem dX7_fail_36 : decode cX7_fail 36 = .ok (.bipush (-9), 2) := by decide +kernel
theorem dX7_fail_38 : decode cX7_fail 38 = .ok (.if_icmp .eq 6, 3) := by decide +kernel
theorem dX7_fail_44 : decode cX7_fail 44 = .ok (.aload_n 0, 1) := by decide +kernel
theorem dX7_fail_45 : decode cX7_fail 45 = .ok (.getfield 47, 3) := by decide +kernel
theorem dX7_fail_48 : decode cX7_fail 48 = .ok (.iload_n 1, 1) := by decide +kernel
theorem dX7_fail_49 : decode cX7_fail 49 = .ok (.iload_n 2, 1) := by decide +kernel
theorem dX7_fail_50 : decode cX7_fail 50 = .ok (.iastore, 1) := by decide +kernel
theorem dX7_fail_51 : decode cX7_fail 51 = .ok (.iconst 1, 1) := by decide +kernel
theorem dX7_fail_52 : decode cX7_fail 52 = .ok (.ireturn, 1) := by decide +kernel
set_option maxRecDepth 20000 in
theorem ggX7_turn_X7_in : GoodIn wsX7_turn wsX7_in := goodIn_r _ [8] (by decide +kernel) (by decide +kernel)
set_option maxRecDepth 20000 in
theorem gX7_turn_X7_in : GoodIn wsX7_turn (va_wsS RX7 207 yX7_in wsX7_in) := goodIn_app (goodIn_of _ (by decide +kernel)) ggX7_turn_X7_in
theorem dX7_turn_0 : decode cX7_turn 0 = .ok (.aload_n 0, 1) := by decide +kernel
theorem dX7_turn_1 : decode cX7_turn 1 = .ok (.iconst 0, 1) := by decide +kernel
theorem dX7_turn_2 : decode cX7_turn 2 = .ok (.putfield 201, 3) := by decide +kernel
theorem dX7_turn_5 : decode cX7_turn 5 = .ok (.iload_n 1, 1) := by decide +kernel
theorem dX7_turn_6 : decode cX7_turn 6 = .ok (.iconst 0, 1) := by decide +kernel
theorem dX7_turn_7 : decode cX7_turn 7 = .ok (.iconst 4, 1) := by decide +kernel
theorem dX7_turn_8 : decode cX7_turn 8 = .ok (.invokestatic 207, 3) := by decide +kernel
theorem dX7_turn_11 : decode cX7_turn 11 = .ok (.ifCond .ne 5, 3) := by decide +kernel
theorem dX7_turn_14 : decode cX7_turn 14 = .ok (.iconst (-1), 1) := by decide +kernel
theorem dX7_turn_15 : decode cX7_turn 15 = .ok (.ireturn, 1) := by decide +kernel
theorem dX7_turn_16 : decode cX7_turn 16 = .ok (.aload_n 0, 1) := by decide +kernel
theorem dX7_turn_17 : decode cX7_turn 17 = .ok (.getfield 62, 3) := by decide +kernel
theorem dX7_turn_20 : decode cX7_turn 20 = .ok (.bipush (-9), 2) := by decide +kernel
theorem dX7_turn_22 : decode cX7_turn 22 = .ok (.if_icmp .eq 6, 3) := by decide +kernel
theorem dX7_turn_28 : decode cX7_turn 28 = .ok (.aload_n 0, 1) := by decide +kernel
theorem dX7_turn_29 : decode cX7_turn 29 = .ok (.getfield 243, 3) := by decide +kernel
theorem dX7_turn_32 : decode cX7_turn 32 = .ok (.sipush 200, 3) := by decide +kernel
theorem dX7_turn_35 : decode cX7_turn 35 = .ok (.if_icmp .ne 6, 3) := by decide +kernel
theorem dX7_turn_41 : decode cX7_turn 41 = .ok (.aload_n 0, 1) := by decide +kernel
theorem dX7_turn_42 : decode cX7_turn 42 = .ok (.getfield 50, 3) := by decide +kernel
theorem dX7_turn_45 : decode cX7_turn 45 = .ok (.aload_n 0, 1) := by decide +kernel
theorem dX7_turn_46 : decode cX7_turn 46 = .ok (.getfield 243, 3) := by decide +kernel
theorem dX7_turn_49 : decode cX7_turn 49 = .ok (.iload_n 1, 1) := by decide +kernel
theorem dX7_turn_50 : decode cX7_turn 50 = .ok (.iastore, 1) := by decide +kernel
theorem dX7_turn_51 : decode cX7_turn 51 = .ok (.aload_n 0, 1) := by decide +kernel
theorem dX7_turn_52 : decode cX7_turn 52 = .ok (.dup, 1) := by decide +kernel
theorem dX7_turn_53 : decode cX7_turn 53 = .ok (.getfield 243, 3) := by decide +kernel
theorem dX7_turn_56 : decode cX7_turn 56 = .ok (.iconst 1, 1) := by decide +kernel
theorem dX7_turn_57 : decode cX7_turn 57 = .ok (.iadd, 1) := by decide +kernel
theorem dX7_turn_58 : decode cX7_turn 58 = .ok (.putfield 243, 3) := by decide +kernel
theorem dX7_turn_61 : decode cX7_turn 61 = .ok (.aload_n 0, 1) := by decide +kernel
theorem dX7_turn_62 : decode cX7_turn 62 = .ok (.getfield 243, 3) := by decide +kernel
theorem dX7_turn_65 : decode cX7_turn 65 = .ok (.ireturn, 1) := by decide +kernel
theorem dX7_plain_0 : decode cX7_plain 0 = .ok (.aload_n 0, 1) := by decide +kernel
theorem dX7_plain_1 : decode cX7_plain 1 = .ok (.iconst 0, 1) := by decide +kernel
theorem dX7_plain_2 : decode cX7_plain 2 = .ok (.putfield 201, 3) := by decide +kernel
theorem dX7_plain_5 : decode cX7_plain 5 = .ok (.aload_n 0, 1) := by decide +kernel
theorem dX7_plain_6 : decode cX7_plain 6 = .ok (.getfield 62, 3) := by decide +kernel
theorem dX7_plain_9 : decode cX7_plain 9 = .ok (.bipush (-9), 2) := by decide +kernel
theorem dX7_plain_11 : decode cX7_plain 11 = .ok (.if_icmp .eq 6, 3) := by decide +kernel
theorem dX7_plain_17 : decode cX7_plain 17 = .ok (.aload_n 0, 1) := by decide +kernel
theorem dX7_plain_18 : decode cX7_plain 18 = .ok (.getfield 243, 3) := by decide +kernel
theorem dX7_plain_21 : decode cX7_plain 21 = .ok (.istore_n 1, 1) := by decide +kernel
theorem dX7_plain_22 : decode cX7_plain 22 = .ok (.aload_n 0, 1) := by decide +kernel
theorem dX7_plain_23 : decode cX7_plain 23 = .ok (.iconst 0, 1) := by decide +kernel
theorem dX7_plain_24 : decode cX7_plain 24 = .ok (.putfield 243, 3) := by decide +kernel
theorem dX7_plain_27 : decode cX7_plain 27 = .ok (.iload_n 1, 1) := by decide +kernel
theorem dX7_plain_28 : decode cX7_plain 28 = .ok (.ireturn, 1) := by decide +kernel
set_option maxRecDepth 20000 in
theorem ggX7_limit_X7_in : GoodIn wsX7_limit wsX7_in := goodIn_r _ [7] (by decide +kernel) (by decide +kernel)
set_option maxRecDepth 20000 in
theorem gX7_limit_X7_in : GoodIn wsX7_limit (va_wsS RX7 207 yX7_in wsX7_in) := goodIn_app (goodIn_of _ (by decide +kernel)) ggX7_limit_X7_in
theorem dX7_limit_0 : decode cX7_limit 0 = .ok (.aload_n 0, 1) := by decide +kernel
theorem dX7_limit_1 : decode cX7_limit 1 = .ok (.iconst 0, 1) := by decide +kernel
theorem dX7_limit_2 : decode cX7_limit 2 = .ok (.putfield 201, 3) := by decide +kernel
theorem dX7_limit_5 : decode cX7_limit 5 = .ok (.iload_n 1, 1) := by decide +kernel
theorem dX7_limit_6 : decode cX7_limit 6 = .ok (.iconst 0, 1) := by decide +kernel
theorem dX7_limit_7 : decode cX7_limit 7 = .ok (.sipush 1000, 3) := by decide +kernel
theorem dX7_limit_10 : decode cX7_limit 10 = .ok (.invokestatic 207, 3) := by decide +kernel
theorem dX7_limit_13 : decode cX7_limit 13 = .ok (.ifCond .ne 5, 3) := by decide +kernel
theorem dX7_limit_16 : decode cX7_limit 16 = .ok (.iconst (-1), 1) := by decide +kernel
theorem dX7_limit_17 : decode cX7_limit 17 = .ok (.ireturn, 1) := by decide +kernel
theorem dX7_limit_18 : decode cX7_limit 18 = .ok (.aload_n 0, 1) := by decide +kernel
theorem dX7_limit_19 : decode cX7_limit 19 = .ok (.getfield 62, 3) := by decide +kernel
theorem dX7_limit_22 : decode cX7_limit 22 = .ok (.bipush (-9), 2) := by decide +kernel
theorem dX7_limit_24 : decode cX7_limit 24 = .ok (.if_icmp .eq 6, 3) := by decide +kernel
theorem dX7_limit_30 : decode cX7_limit 30 = .ok (.aload_n 0, 1) := by decide +kernel
theorem dX7_limit_31 : decode cX7_limit 31 = .ok (.getfield 246, 3) := by decide +kernel
theorem dX7_limit_34 : decode cX7_limit 34 = .ok (.istore_n 2, 1) := by decide +kernel
theorem dX7_limit_35 : decode cX7_limit 35 = .ok (.aload_n 0, 1) := by decide +kernel
theorem dX7_limit_36 : decode cX7_limit 36 = .ok (.iload_n 1, 1) := by decide +kernel
theorem dX7_limit_37 : decode cX7_limit 37 = .ok (.putfield 246, 3) := by decide +kernel
theorem dX7_limit_40 : decode cX7_limit 40 = .ok (.iload_n 2, 1) := by decide +kernel
theorem dX7_limit_41 : decode cX7_limit 41 = .ok (.ireturn, 1) := by decide +kernel
set_option maxRecDepth 20000 in
theorem ggX7_solve_X7_isProblem : GoodIn wsX7_solve wsX7_isProblem := goodIn_r _ [19, 20, 21, 22, 18, 23, 150, 151, 152, 153, 154, 155, 156, 157, 158, 159, 160, 161, 162, 163, 164, 165, 166, 167, 168, 169, 170, 171, 172, 173, 174, 175, 176, 177, 178, 179, 180, 181, 182, 183, 184, 185, 186, 187, 188, 189, 190, 191, 192, 193, 194, 195, 196, 197, 198, 199, 200, 201, 202, 203, 204, 205, 206, 207, 208, 209, 210, 211, 212, 213, 214, 215, 216, 217, 218, 219, 220, 221, 222, 223, 224, 225, 226, 227, 228] (by decide +kernel) (by decide +kernel)
set_option maxRecDepth 20000 in
theorem gX7_solve_X7_isProblem : GoodIn wsX7_solve (wsV RX7 214 RX7 yX7_isProblem wsX7_isProblem) := goodIn_app (goodIn_of _ (by decide +kernel)) ggX7_solve_X7_isProblem
theorem dX7_solve_0 : decode cX7_solve 0 = .ok (.aload_n 0, 1) := by decide +kernel
theorem dX7_solve_1 : decode cX7_solve 1 = .ok (.iconst 0, 1) := by decide +kernel
theorem dX7_solve_2 : decode cX7_solve 2 = .ok (.putfield 201, 3) := by decide +kernel
theorem dX7_solve_5 : decode cX7_solve 5 = .ok (.aload_n 0, 1) := by decide +kernel
theorem dX7_solve_6 : decode cX7_solve 6 = .ok (.iload_n 1, 1) := by decide +kernel
theorem dX7_solve_7 : decode cX7_solve 7 = .ok (.invokevirtual 214, 3) := by decide +kernel
theorem dX7_solve_10 : decode cX7_solve 10 = .ok (.ifCond .eq 14, 3) := by decide +kernel
theorem dX7_solve_24 : decode cX7_solve 24 = .ok (.iconst (-1), 1) := by decide +kernel
theorem dX7_solve_25 : decode cX7_solve 25 = .ok (.ireturn, 1) := by decide +kernel
theorem dX7_giveUp_0 : decode cX7_giveUp 0 = .ok (.aload_n 0, 1) := by decide +kernel
theorem dX7_giveUp_1 : decode cX7_giveUp 1 = .ok (.iconst 0, 1) := by decide +kernel
theorem dX7_giveUp_2 : decode cX7_giveUp 2 = .ok (.putfield 201, 3) := by decide +kernel
theorem dX7_giveUp_5 : decode cX7_giveUp 5 = .ok (.aload_n 0, 1) := by decide +kernel
theorem dX7_giveUp_6 : decode cX7_giveUp 6 = .ok (.getfield 62, 3) := by decide +kernel
theorem dX7_giveUp_9 : decode cX7_giveUp 9 = .ok (.bipush (-9), 2) := by decide +kernel
theorem dX7_giveUp_11 : decode cX7_giveUp 11 = .ok (.if_icmp .ne 6, 3) := by decide +kernel
theorem dX7_giveUp_14 : decode cX7_giveUp 14 = .ok (.bipush (-2), 2) := by decide +kernel
theorem dX7_giveUp_16 : decode cX7_giveUp 16 = .ok (.ireturn, 1) := by decide +kernel
set_option maxRecDepth 20000 in
theorem ggX7_told_X7_isProblem : GoodIn wsX7_told wsX7_isProblem := goodIn_r _ [8, 9, 10, 11, 7, 12, 13, 14, 15, 16, 17, 18, 19, 20, 21, 22, 23, 24, 25, 26, 27, 28, 29, 30, 31, 32, 33, 34, 35, 36, 37, 38, 39, 40, 41, 42, 43, 44, 45, 46, 47, 48, 49, 50, 51, 52, 53, 54, 55, 56, 57, 58, 59, 60, 61, 62, 63, 64, 65, 66, 67, 68, 69, 70, 71, 72, 73, 74, 75, 76, 77, 78, 79, 80, 81, 82, 83, 84, 85, 86, 87, 88, 89, 90, 91] (by decide +kernel) (by decide +kernel)
set_option maxRecDepth 20000 in
theorem gX7_told_X7_isProblem : GoodIn wsX7_told (wsV RX7 214 RX7 yX7_isProblem wsX7_isProblem) := goodIn_app (goodIn_of _ (by decide +kernel)) ggX7_told_X7_isProblem
theorem dX7_told_0 : decode cX7_told 0 = .ok (.aload_n 0, 1) := by decide +kernel
theorem dX7_told_1 : decode cX7_told 1 = .ok (.iconst 0, 1) := by decide +kernel
theorem dX7_told_2 : decode cX7_told 2 = .ok (.putfield 201, 3) := by decide +kernel
theorem dX7_told_5 : decode cX7_told 5 = .ok (.aload_n 0, 1) := by decide +kernel
theorem dX7_told_6 : decode cX7_told 6 = .ok (.iload_n 1, 1) := by decide +kernel
theorem dX7_told_7 : decode cX7_told 7 = .ok (.invokevirtual 214, 3) := by decide +kernel
theorem dX7_told_10 : decode cX7_told 10 = .ok (.ifCond .eq 12, 3) := by decide +kernel
theorem dX7_told_22 : decode cX7_told 22 = .ok (.iconst (-1), 1) := by decide +kernel
theorem dX7_told_23 : decode cX7_told 23 = .ok (.ireturn, 1) := by decide +kernel
set_option maxRecDepth 20000 in
theorem ggX7_answer_X7_isProblem : GoodIn wsX7_answer wsX7_isProblem := goodIn_r _ [9, 10, 11, 12, 8, 13, 14, 15, 16, 17, 18, 19, 20, 21, 22, 23, 24, 25, 26, 27, 28, 29, 30, 31, 32, 33, 34, 35, 36, 37, 38, 39, 40, 41, 42, 43, 44, 45, 46, 47, 48, 49, 50, 51, 52, 53, 54, 55, 56, 57, 58, 59, 60, 61, 62, 63, 64, 65, 66, 67, 68, 69, 70, 71, 72, 73, 74, 75, 76, 77, 78, 79, 80, 81, 82, 83, 84, 85, 86, 87, 88, 89, 90, 91, 92] (by decide +kernel) (by decide +kernel)
set_option maxRecDepth 20000 in
theorem gX7_answer_X7_isProblem : GoodIn wsX7_answer (wsV RX7 214 RX7 yX7_isProblem wsX7_isProblem) := goodIn_app (goodIn_of _ (by decide +kernel)) ggX7_answer_X7_isProblem
theorem dX7_answer_0 : decode cX7_answer 0 = .ok (.aload_n 0, 1) := by decide +kernel
theorem dX7_answer_1 : decode cX7_answer 1 = .ok (.iconst 0, 1) := by decide +kernel
theorem dX7_answer_2 : decode cX7_answer 2 = .ok (.putfield 201, 3) := by decide +kernel
theorem dX7_answer_5 : decode cX7_answer 5 = .ok (.aload_n 0, 1) := by decide +kernel
theorem dX7_answer_6 : decode cX7_answer 6 = .ok (.iload_n 1, 1) := by decide +kernel
theorem dX7_answer_7 : decode cX7_answer 7 = .ok (.invokevirtual 214, 3) := by decide +kernel
theorem dX7_answer_10 : decode cX7_answer 10 = .ok (.ifCond .eq 19, 3) := by decide +kernel
theorem dX7_answer_29 : decode cX7_answer 29 = .ok (.iconst (-1), 1) := by decide +kernel
theorem dX7_answer_30 : decode cX7_answer 30 = .ok (.ireturn, 1) := by decide +kernel
set_option maxRecDepth 20000 in
theorem ggX7_walked_X7_in : GoodIn wsX7_walked wsX7_in := goodIn_r _ [11] (by decide +kernel) (by decide +kernel)
set_option maxRecDepth 20000 in
theorem gX7_walked_X7_in : GoodIn wsX7_walked (va_wsS RX7 207 yX7_in wsX7_in) := goodIn_app (goodIn_of _ (by decide +kernel)) ggX7_walked_X7_in
theorem dX7_walked_0 : decode cX7_walked 0 = .ok (.aload_n 0, 1) := by decide +kernel
theorem dX7_walked_1 : decode cX7_walked 1 = .ok (.iconst 0, 1) := by decide +kernel
theorem dX7_walked_2 : decode cX7_walked 2 = .ok (.putfield 201, 3) := by decide +kernel
theorem dX7_walked_5 : decode cX7_walked 5 = .ok (.iload_n 2, 1) := by decide +kernel
theorem dX7_walked_6 : decode cX7_walked 6 = .ok (.iconst 0, 1) := by decide +kernel
theorem dX7_walked_7 : decode cX7_walked 7 = .ok (.bipush 9, 2) := by decide +kernel
theorem dX7_walked_9 : decode cX7_walked 9 = .ok (.invokestatic 207, 3) := by decide +kernel
theorem dX7_walked_12 : decode cX7_walked 12 = .ok (.ifCond .ne 5, 3) := by decide +kernel
theorem dX7_walked_15 : decode cX7_walked 15 = .ok (.iconst (-1), 1) := by decide +kernel
theorem dX7_walked_16 : decode cX7_walked 16 = .ok (.ireturn, 1) := by decide +kernel
theorem dX7_walked_17 : decode cX7_walked 17 = .ok (.iload_n 1, 1) := by decide +kernel
theorem dX7_walked_18 : decode cX7_walked 18 = .ok (.iconst 0, 1) := by decide +kernel
theorem dX7_walked_19 : decode cX7_walked 19 = .ok (.aload_n 0, 1) := by decide +kernel
theorem dX7_walked_20 : decode cX7_walked 20 = .ok (.getfield 313, 3) := by decide +kernel
theorem dX7_walked_23 : decode cX7_walked 23 = .ok (.iconst 1, 1) := by decide +kernel
theorem dX7_walked_24 : decode cX7_walked 24 = .ok (.isub, 1) := by decide +kernel
theorem dX7_walked_25 : decode cX7_walked 25 = .ok (.invokestatic 207, 3) := by decide +kernel
theorem dX7_walked_28 : decode cX7_walked 28 = .ok (.ifCond .ne 6, 3) := by decide +kernel
theorem dX7_walked_31 : decode cX7_walked 31 = .ok (.bipush (-9), 2) := by decide +kernel
theorem dX7_walked_33 : decode cX7_walked 33 = .ok (.ireturn, 1) := by decide +kernel
set_option maxRecDepth 20000 in
theorem ggX7_closed_X7_in : GoodIn wsX7_closed wsX7_in := goodIn_r _ [9] (by decide +kernel) (by decide +kernel)
set_option maxRecDepth 20000 in
theorem gX7_closed_X7_in : GoodIn wsX7_closed (va_wsS RX7 207 yX7_in wsX7_in) := goodIn_app (goodIn_of _ (by decide +kernel)) ggX7_closed_X7_in
theorem dX7_closed_0 : decode cX7_closed 0 = .ok (.aload_n 0, 1) := by decide +kernel
theorem dX7_closed_1 : decode cX7_closed 1 = .ok (.iconst 0, 1) := by decide +kernel
theorem dX7_closed_2 : decode cX7_closed 2 = .ok (.putfield 201, 3) := by decide +kernel
theorem dX7_closed_5 : decode cX7_closed 5 = .ok (.iload_n 3, 1) := by decide +kernel
theorem dX7_closed_6 : decode cX7_closed 6 = .ok (.iconst 0, 1) := by decide +kernel
theorem dX7_closed_7 : decode cX7_closed 7 = .ok (.iconst 1, 1) := by decide +kernel
theorem dX7_closed_8 : decode cX7_closed 8 = .ok (.invokestatic 207, 3) := by decide +kernel
theorem dX7_closed_11 : decode cX7_closed 11 = .ok (.ifCond .ne 5, 3) := by decide +kernel
theorem dX7_closed_14 : decode cX7_closed 14 = .ok (.iconst (-1), 1) := by decide +kernel
theorem dX7_closed_15 : decode cX7_closed 15 = .ok (.ireturn, 1) := by decide +kernel
theorem dX7_closed_16 : decode cX7_closed 16 = .ok (.iload_n 1, 1) := by decide +kernel
theorem dX7_closed_17 : decode cX7_closed 17 = .ok (.iconst 0, 1) := by decide +kernel
theorem dX7_closed_18 : decode cX7_closed 18 = .ok (.aload_n 0, 1) := by decide +kernel
theorem dX7_closed_19 : decode cX7_closed 19 = .ok (.getfield 313, 3) := by decide +kernel
theorem dX7_closed_22 : decode cX7_closed 22 = .ok (.iconst 1, 1) := by decide +kernel
theorem dX7_closed_23 : decode cX7_closed 23 = .ok (.isub, 1) := by decide +kernel
theorem dX7_closed_24 : decode cX7_closed 24 = .ok (.invokestatic 207, 3) := by decide +kernel
theorem dX7_closed_27 : decode cX7_closed 27 = .ok (.ifCond .eq 19, 3) := by decide +kernel
theorem dX7_closed_46 : decode cX7_closed 46 = .ok (.bipush (-9), 2) := by decide +kernel
theorem dX7_closed_48 : decode cX7_closed 48 = .ok (.ireturn, 1) := by decide +kernel
set_option maxRecDepth 20000 in
theorem ggX7_helper_X7_in : GoodIn wsX7_helper wsX7_in := goodIn_r _ [8] (by decide +kernel) (by decide +kernel)
set_option maxRecDepth 20000 in
theorem gX7_helper_X7_in : GoodIn wsX7_helper (va_wsS RX7 207 yX7_in wsX7_in) := goodIn_app (goodIn_of _ (by decide +kernel)) ggX7_helper_X7_in
theorem dX7_helper_0 : decode cX7_helper 0 = .ok (.aload_n 0, 1) := by decide +kernel
theorem dX7_helper_1 : decode cX7_helper 1 = .ok (.iconst 0, 1) := by decide +kernel
theorem dX7_helper_2 : decode cX7_helper 2 = .ok (.putfield 201, 3) := by decide +kernel
theorem dX7_helper_5 : decode cX7_helper 5 = .ok (.iload_n 1, 1) := by decide +kernel
theorem dX7_helper_6 : decode cX7_helper 6 = .ok (.iconst 0, 1) := by decide +kernel
theorem dX7_helper_7 : decode cX7_helper 7 = .ok (.iconst 4, 1) := by decide +kernel
theorem dX7_helper_8 : decode cX7_helper 8 = .ok (.invokestatic 207, 3) := by decide +kernel
theorem dX7_helper_11 : decode cX7_helper 11 = .ok (.ifCond .eq 12, 3) := by decide +kernel
theorem dX7_helper_14 : decode cX7_helper 14 = .ok (.iload_n 2, 1) := by decide +kernel
theorem dX7_helper_15 : decode cX7_helper 15 = .ok (.iconst 0, 1) := by decide +kernel
theorem dX7_helper_16 : decode cX7_helper 16 = .ok (.iconst 2, 1) := by decide +kernel
theorem dX7_helper_17 : decode cX7_helper 17 = .ok (.invokestatic 207, 3) := by decide +kernel
theorem dX7_helper_20 : decode cX7_helper 20 = .ok (.ifCond .ne 5, 3) := by decide +kernel
theorem dX7_helper_23 : decode cX7_helper 23 = .ok (.iconst (-1), 1) := by decide +kernel
theorem dX7_helper_24 : decode cX7_helper 24 = .ok (.ireturn, 1) := by decide +kernel
theorem dX7_helper_25 : decode cX7_helper 25 = .ok (.iload_n 2, 1) := by decide +kernel
theorem dX7_helper_26 : decode cX7_helper 26 = .ok (.ifCond .ne 12, 3) := by decide +kernel
theorem dX7_helper_29 : decode cX7_helper 29 = .ok (.aload_n 0, 1) := by decide +kernel
theorem dX7_helper_30 : decode cX7_helper 30 = .ok (.getfield 59, 3) := by decide +kernel
theorem dX7_helper_33 : decode cX7_helper 33 = .ok (.iload_n 1, 1) := by decide +kernel
theorem dX7_helper_34 : decode cX7_helper 34 = .ok (.iaload, 1) := by decide +kernel
theorem dX7_helper_35 : decode cX7_helper 35 = .ok (.goto 23, 3) := by decide +kernel
theorem dX7_helper_38 : decode cX7_helper 38 = .ok (.iload_n 2, 1) := by decide +kernel
theorem dX7_helper_39 : decode cX7_helper 39 = .ok (.iconst 1, 1) := by decide +kernel
theorem dX7_helper_40 : decode cX7_helper 40 = .ok (.if_icmp .ne 12, 3) := by decide +kernel
theorem dX7_helper_43 : decode cX7_helper 43 = .ok (.aload_n 0, 1) := by decide +kernel
theorem dX7_helper_44 : decode cX7_helper 44 = .ok (.getfield 53, 3) := by decide +kernel
theorem dX7_helper_47 : decode cX7_helper 47 = .ok (.iload_n 1, 1) := by decide +kernel
theorem dX7_helper_48 : decode cX7_helper 48 = .ok (.iaload, 1) := by decide +kernel
theorem dX7_helper_49 : decode cX7_helper 49 = .ok (.goto 9, 3) := by decide +kernel
theorem dX7_helper_52 : decode cX7_helper 52 = .ok (.aload_n 0, 1) := by decide +kernel
theorem dX7_helper_53 : decode cX7_helper 53 = .ok (.getfield 56, 3) := by decide +kernel
theorem dX7_helper_56 : decode cX7_helper 56 = .ok (.iload_n 1, 1) := by decide +kernel
theorem dX7_helper_57 : decode cX7_helper 57 = .ok (.iaload, 1) := by decide +kernel
theorem dX7_helper_58 : decode cX7_helper 58 = .ok (.ireturn, 1) := by decide +kernel
set_option maxRecDepth 20000 in
theorem ggX7_ask_X7_isProblem : GoodIn wsX7_ask wsX7_isProblem := goodIn_r _ [11, 12, 13, 14, 10, 15, 16, 17, 18, 19, 20, 21, 22, 23, 24, 25, 26, 27, 28, 29, 30, 31, 32, 33, 34, 35, 36, 37, 38, 39, 40, 41, 42, 43, 44, 45, 46, 47, 48, 49, 50, 51, 52, 53, 54, 55, 56, 57, 58, 59, 60, 61, 62, 63, 64, 65, 66, 67, 68, 69, 70, 71, 72, 73, 74, 75, 76, 77, 78, 79, 80, 81, 82, 83, 84, 85, 86, 87, 88, 89, 90, 91, 92, 93, 94] (by decide +kernel) (by decide +kernel)
set_option maxRecDepth 20000 in
theorem gX7_ask_X7_isProblem : GoodIn wsX7_ask (wsV RX7 214 RX7 yX7_isProblem wsX7_isProblem) := goodIn_app (goodIn_of _ (by decide +kernel)) ggX7_ask_X7_isProblem
theorem dX7_ask_0 : decode cX7_ask 0 = .ok (.aload_n 0, 1) := by decide +kernel
theorem dX7_ask_1 : decode cX7_ask 1 = .ok (.iconst 0, 1) := by decide +kernel
theorem dX7_ask_2 : decode cX7_ask 2 = .ok (.putfield 201, 3) := by decide +kernel
theorem dX7_ask_5 : decode cX7_ask 5 = .ok (.aload_n 0, 1) := by decide +kernel
theorem dX7_ask_6 : decode cX7_ask 6 = .ok (.iload_n 1, 1) := by decide +kernel
theorem dX7_ask_7 : decode cX7_ask 7 = .ok (.invokevirtual 214, 3) := by decide +kernel
theorem dX7_ask_10 : decode cX7_ask 10 = .ok (.ifCond .ne 5, 3) := by decide +kernel
theorem dX7_ask_13 : decode cX7_ask 13 = .ok (.iconst (-1), 1) := by decide +kernel
theorem dX7_ask_14 : decode cX7_ask 14 = .ok (.ireturn, 1) := by decide +kernel
theorem dX7_with_0 : decode cX7_with 0 = .ok (.aload_n 0, 1) := by decide +kernel
theorem dX7_with_1 : decode cX7_with 1 = .ok (.iconst 0, 1) := by decide +kernel
theorem dX7_with_2 : decode cX7_with 2 = .ok (.putfield 201, 3) := by decide +kernel
theorem dX7_with_5 : decode cX7_with 5 = .ok (.aload_n 0, 1) := by decide +kernel
theorem dX7_with_6 : decode cX7_with 6 = .ok (.getfield 147, 3) := by decide +kernel
theorem dX7_with_9 : decode cX7_with 9 = .ok (.bipush (-9), 2) := by decide +kernel
theorem dX7_with_11 : decode cX7_with 11 = .ok (.if_icmp .eq 46, 3) := by decide +kernel
theorem dX7_with_57 : decode cX7_with 57 = .ok (.iconst (-1), 1) := by decide +kernel
theorem dX7_with_58 : decode cX7_with 58 = .ok (.ireturn, 1) := by decide +kernel
set_option maxRecDepth 20000 in
theorem ggX7_node_X7_in : GoodIn wsX7_node wsX7_in := goodIn_r _ [14] (by decide +kernel) (by decide +kernel)
set_option maxRecDepth 20000 in
theorem gX7_node_X7_in : GoodIn wsX7_node (va_wsS RX7 207 yX7_in wsX7_in) := goodIn_app (goodIn_of _ (by decide +kernel)) ggX7_node_X7_in
theorem dX7_node_0 : decode cX7_node 0 = .ok (.aload_n 0, 1) := by decide +kernel
theorem dX7_node_1 : decode cX7_node 1 = .ok (.iconst 0, 1) := by decide +kernel
theorem dX7_node_2 : decode cX7_node 2 = .ok (.putfield 201, 3) := by decide +kernel
theorem dX7_node_5 : decode cX7_node 5 = .ok (.iload_n 1, 1) := by decide +kernel
theorem dX7_node_6 : decode cX7_node 6 = .ok (.iconst 0, 1) := by decide +kernel
theorem dX7_node_7 : decode cX7_node 7 = .ok (.iconst 4, 1) := by decide +kernel
theorem dX7_node_8 : decode cX7_node 8 = .ok (.invokestatic 207, 3) := by decide +kernel
theorem dX7_node_11 : decode cX7_node 11 = .ok (.ifCond .ne 5, 3) := by decide +kernel
theorem dX7_node_14 : decode cX7_node 14 = .ok (.iconst (-1), 1) := by decide +kernel
theorem dX7_node_15 : decode cX7_node 15 = .ok (.ireturn, 1) := by decide +kernel
theorem dX7_node_16 : decode cX7_node 16 = .ok (.aload_n 0, 1) := by decide +kernel
theorem dX7_node_17 : decode cX7_node 17 = .ok (.getfield 147, 3) := by decide +kernel
theorem dX7_node_20 : decode cX7_node 20 = .ok (.bipush (-9), 2) := by decide +kernel
theorem dX7_node_22 : decode cX7_node 22 = .ok (.if_icmp .eq 19, 3) := by decide +kernel
theorem dX7_node_41 : decode cX7_node 41 = .ok (.bipush (-2), 2) := by decide +kernel
theorem dX7_node_43 : decode cX7_node 43 = .ok (.ireturn, 1) := by decide +kernel
set_option maxRecDepth 20000 in
theorem ggX7_second_X7_isProblem : GoodIn wsX7_second wsX7_isProblem := goodIn_r _ [16, 17, 18, 19, 15, 20, 138, 139, 140, 141, 142, 143, 144, 145, 146, 147, 148, 149, 150, 151, 152, 153, 154, 155, 156, 157, 158, 159, 160, 161, 162, 163, 164, 165, 166, 167, 168, 169, 170, 171, 172, 173, 174, 175, 176, 177, 178, 179, 180, 181, 182, 183, 184, 185, 186, 187, 188, 189, 190, 191, 192, 193, 194, 195, 196, 197, 198, 199, 200, 201, 202, 203, 204, 205, 206, 207, 208, 209, 210, 211, 212, 213, 214, 215, 216] (by decide +kernel) (by decide +kernel)
set_option maxRecDepth 20000 in
theorem gX7_second_X7_isProblem : GoodIn wsX7_second (wsV RX7 214 RX7 yX7_isProblem wsX7_isProblem) := goodIn_app (goodIn_of _ (by decide +kernel)) ggX7_second_X7_isProblem
theorem dX7_second_0 : decode cX7_second 0 = .ok (.aload_n 0, 1) := by decide +kernel
theorem dX7_second_1 : decode cX7_second 1 = .ok (.iconst 0, 1) := by decide +kernel
theorem dX7_second_2 : decode cX7_second 2 = .ok (.putfield 201, 3) := by decide +kernel
theorem dX7_second_5 : decode cX7_second 5 = .ok (.aload_n 0, 1) := by decide +kernel
theorem dX7_second_6 : decode cX7_second 6 = .ok (.iload_n 1, 1) := by decide +kernel
theorem dX7_second_7 : decode cX7_second 7 = .ok (.invokevirtual 214, 3) := by decide +kernel
theorem dX7_second_10 : decode cX7_second 10 = .ok (.ifCond .eq 13, 3) := by decide +kernel
theorem dX7_second_23 : decode cX7_second 23 = .ok (.ldc_w 353, 3) := by decide +kernel
theorem dX7_second_26 : decode cX7_second 26 = .ok (.ireturn, 1) := by decide +kernel
theorem dX7_row_0 : decode cX7_row 0 = .ok (.aload_n 0, 1) := by decide +kernel
theorem dX7_row_1 : decode cX7_row 1 = .ok (.iconst 0, 1) := by decide +kernel
theorem dX7_row_2 : decode cX7_row 2 = .ok (.putfield 201, 3) := by decide +kernel
theorem dX7_row_5 : decode cX7_row 5 = .ok (.aload_n 0, 1) := by decide +kernel
theorem dX7_row_6 : decode cX7_row 6 = .ok (.getfield 153, 3) := by decide +kernel
theorem dX7_row_9 : decode cX7_row 9 = .ok (.bipush (-9), 2) := by decide +kernel
theorem dX7_row_11 : decode cX7_row 11 = .ok (.if_icmp .eq 26, 3) := by decide +kernel
theorem dX7_row_37 : decode cX7_row 37 = .ok (.bipush (-9), 2) := by decide +kernel
theorem dX7_row_39 : decode cX7_row 39 = .ok (.ireturn, 1) := by decide +kernel
set_option maxRecDepth 20000 in
theorem ggX7_same_X7_isProblem : GoodIn wsX7_same wsX7_isProblem := goodIn_r _ [7, 8, 9, 10, 6, 11, 12, 13, 14, 15, 16, 17, 18, 19, 20, 21, 22, 23, 24, 25, 26, 27, 28, 29, 30, 31, 32, 33, 34, 35, 36, 37, 38, 39, 40, 41, 42, 43, 44, 45, 46, 47, 48, 49, 50, 51, 52, 53, 54, 55, 56, 57, 58, 59, 60, 61, 62, 63, 64, 65, 66, 67, 68, 69, 70, 71, 72, 73, 74, 75, 76, 77, 78, 79, 80, 81, 82, 83, 84, 85, 86, 87, 88, 89, 90] (by decide +kernel) (by decide +kernel)
set_option maxRecDepth 20000 in
theorem gX7_same_X7_isProblem : GoodIn wsX7_same (wsV RX7 214 RX7 yX7_isProblem wsX7_isProblem) := goodIn_app (goodIn_of _ (by decide +kernel)) ggX7_same_X7_isProblem
theorem dX7_same_0 : decode cX7_same 0 = .ok (.aload_n 0, 1) := by decide +kernel
theorem dX7_same_1 : decode cX7_same 1 = .ok (.iconst 0, 1) := by decide +kernel
theorem dX7_same_2 : decode cX7_same 2 = .ok (.putfield 201, 3) := by decide +kernel
theorem dX7_same_5 : decode cX7_same 5 = .ok (.aload_n 0, 1) := by decide +kernel
theorem dX7_same_6 : decode cX7_same 6 = .ok (.iload_n 1, 1) := by decide +kernel
theorem dX7_same_7 : decode cX7_same 7 = .ok (.invokevirtual 214, 3) := by decide +kernel
theorem dX7_same_10 : decode cX7_same 10 = .ok (.ifCond .eq 12, 3) := by decide +kernel
theorem dX7_same_22 : decode cX7_same 22 = .ok (.iconst (-1), 1) := by decide +kernel
theorem dX7_same_23 : decode cX7_same 23 = .ok (.ireturn, 1) := by decide +kernel
theorem dX7_count_0 : decode cX7_count 0 = .ok (.aload_n 0, 1) := by decide +kernel
theorem dX7_count_1 : decode cX7_count 1 = .ok (.iconst 0, 1) := by decide +kernel
theorem dX7_count_2 : decode cX7_count 2 = .ok (.putfield 201, 3) := by decide +kernel
theorem dX7_count_5 : decode cX7_count 5 = .ok (.iload_n 1, 1) := by decide +kernel
theorem dX7_count_6 : decode cX7_count 6 = .ok (.tableswitch 125 0 7 #[46, 51, 56, 61, 66, 71, 89, 107], 46) := by decide +kernel
theorem dX7_count_52 : decode cX7_count 52 = .ok (.aload_n 0, 1) := by decide +kernel
theorem dX7_count_53 : decode cX7_count 53 = .ok (.getfield 204, 3) := by decide +kernel
theorem dX7_count_56 : decode cX7_count 56 = .ok (.ireturn, 1) := by decide +kernel
theorem dX7_count_57 : decode cX7_count 57 = .ok (.aload_n 0, 1) := by decide +kernel
theorem dX7_count_58 : decode cX7_count 58 = .ok (.getfield 246, 3) := by decide +kernel
theorem dX7_count_61 : decode cX7_count 61 = .ok (.ireturn, 1) := by decide +kernel
theorem dX7_count_62 : decode cX7_count 62 = .ok (.aload_n 0, 1) := by decide +kernel
theorem dX7_count_63 : decode cX7_count 63 = .ok (.getfield 43, 3) := by decide +kernel
theorem dX7_count_66 : decode cX7_count 66 = .ok (.ireturn, 1) := by decide +kernel
theorem dX7_count_67 : decode cX7_count 67 = .ok (.aload_n 0, 1) := by decide +kernel
theorem dX7_count_68 : decode cX7_count 68 = .ok (.getfield 243, 3) := by decide +kernel
theorem dX7_count_71 : decode cX7_count 71 = .ok (.ireturn, 1) := by decide +kernel
theorem dX7_count_72 : decode cX7_count 72 = .ok (.aload_n 0, 1) := by decide +kernel
theorem dX7_count_73 : decode cX7_count 73 = .ok (.getfield 62, 3) := by decide +kernel
theorem dX7_count_76 : decode cX7_count 76 = .ok (.ireturn, 1) := by decide +kernel
theorem dX7_count_77 : decode cX7_count 77 = .ok (.aload_n 0, 1) := by decide +kernel
theorem dX7_count_78 : decode cX7_count 78 = .ok (.getfield 62, 3) := by decide +kernel
theorem dX7_count_81 : decode cX7_count 81 = .ok (.bipush (-9), 2) := by decide +kernel
theorem dX7_count_83 : decode cX7_count 83 = .ok (.if_icmp .ne 7, 3) := by decide +kernel
theorem dX7_count_86 : decode cX7_count 86 = .ok (.iconst 0, 1) := by decide +kernel
theorem dX7_count_87 : decode cX7_count 87 = .ok (.goto 7, 3) := by decide +kernel
theorem dX7_count_94 : decode cX7_count 94 = .ok (.ireturn, 1) := by decide +kernel
theorem dX7_count_95 : decode cX7_count 95 = .ok (.aload_n 0, 1) := by decide +kernel
theorem dX7_count_96 : decode cX7_count 96 = .ok (.getfield 62, 3) := by decide +kernel
theorem dX7_count_99 : decode cX7_count 99 = .ok (.bipush (-9), 2) := by decide +kernel
theorem dX7_count_101 : decode cX7_count 101 = .ok (.if_icmp .ne 7, 3) := by decide +kernel
theorem dX7_count_104 : decode cX7_count 104 = .ok (.iconst 0, 1) := by decide +kernel
theorem dX7_count_105 : decode cX7_count 105 = .ok (.goto 7, 3) := by decide +kernel
theorem dX7_count_112 : decode cX7_count 112 = .ok (.ireturn, 1) := by decide +kernel
theorem dX7_count_113 : decode cX7_count 113 = .ok (.aload_n 0, 1) := by decide +kernel
theorem dX7_count_114 : decode cX7_count 114 = .ok (.getfield 62, 3) := by decide +kernel
theorem dX7_count_117 : decode cX7_count 117 = .ok (.bipush (-9), 2) := by decide +kernel
theorem dX7_count_119 : decode cX7_count 119 = .ok (.if_icmp .ne 7, 3) := by decide +kernel
theorem dX7_count_122 : decode cX7_count 122 = .ok (.iconst 0, 1) := by decide +kernel
theorem dX7_count_123 : decode cX7_count 123 = .ok (.goto 7, 3) := by decide +kernel
theorem dX7_count_130 : decode cX7_count 130 = .ok (.ireturn, 1) := by decide +kernel
theorem dX7_count_131 : decode cX7_count 131 = .ok (.iconst (-1), 1) := by decide +kernel
theorem dX7_count_132 : decode cX7_count 132 = .ok (.ireturn, 1) := by decide +kernel
set_option maxRecDepth 20000 in
theorem ggX7_about_X7_isProblem : GoodIn wsX7_about wsX7_isProblem := goodIn_r _ [14, 15, 16, 17, 13, 18, 28, 29, 30, 31, 32, 33, 34, 35, 36, 37, 38, 39, 40, 41, 42, 43, 44, 45, 46, 47, 48, 49, 50, 51, 52, 53, 54, 55, 56, 57, 58, 59, 60, 61, 62, 63, 64, 65, 66, 67, 68, 69, 70, 71, 72, 73, 74, 75, 76, 77, 78, 79, 80, 81, 82, 83, 84, 85, 86, 87, 88, 89, 90, 91, 92, 93, 94, 95, 96, 97, 98, 99, 100, 101, 102, 103, 104, 105, 106] (by decide +kernel) (by decide +kernel)
set_option maxRecDepth 20000 in
theorem gX7_about_X7_isProblem : GoodIn wsX7_about (wsV RX7 214 RX7 yX7_isProblem wsX7_isProblem) := goodIn_app (goodIn_of _ (by decide +kernel)) ggX7_about_X7_isProblem
set_option maxRecDepth 20000 in
theorem ggX7_about_X7_no : GoodIn wsX7_about wsX7_no := goodIn_r _ [22, 2, 23, 28, 29, 30, 31, 32, 33, 34, 35, 36, 37, 38, 39, 40, 41, 42, 43, 44, 45, 46, 47, 48, 49, 50, 51, 52, 53, 54, 55, 56, 57, 58, 59, 60, 61, 62, 63, 64, 65, 66, 67, 68, 69, 70, 71, 72, 73, 74, 75, 76, 77, 78, 79, 80, 81, 82, 83, 84, 85, 86, 87, 88, 89, 90, 91, 92, 93, 94, 95, 96, 97, 98, 99, 100, 101, 102, 103, 104, 105, 106] (by decide +kernel) (by decide +kernel)
set_option maxRecDepth 20000 in
theorem gX7_about_X7_no : GoodIn wsX7_about (wsV RX7 230 RX7 yX7_no wsX7_no) := goodIn_app (goodIn_of _ (by decide +kernel)) ggX7_about_X7_no
theorem dX7_about_0 : decode cX7_about 0 = .ok (.aload_n 0, 1) := by decide +kernel
theorem dX7_about_1 : decode cX7_about 1 = .ok (.iconst 0, 1) := by decide +kernel
theorem dX7_about_2 : decode cX7_about 2 = .ok (.putfield 201, 3) := by decide +kernel
theorem dX7_about_5 : decode cX7_about 5 = .ok (.aload_n 0, 1) := by decide +kernel
theorem dX7_about_6 : decode cX7_about 6 = .ok (.iconst 0, 1) := by decide +kernel
theorem dX7_about_7 : decode cX7_about 7 = .ok (.putfield 221, 3) := by decide +kernel
theorem dX7_about_10 : decode cX7_about 10 = .ok (.aload_n 0, 1) := by decide +kernel
theorem dX7_about_11 : decode cX7_about 11 = .ok (.iload_n 1, 1) := by decide +kernel
theorem dX7_about_12 : decode cX7_about 12 = .ok (.invokevirtual 214, 3) := by decide +kernel
theorem dX7_about_15 : decode cX7_about 15 = .ok (.ifCond .eq 13, 3) := by decide +kernel
theorem dX7_about_28 : decode cX7_about 28 = .ok (.aload_n 0, 1) := by decide +kernel
theorem dX7_about_29 : decode cX7_about 29 = .ok (.iconst (-1), 1) := by decide +kernel
theorem dX7_about_30 : decode cX7_about 30 = .ok (.invokevirtual 230, 3) := by decide +kernel
theorem dX7_about_33 : decode cX7_about 33 = .ok (.ireturn, 1) := by decide +kernel
set_option maxRecDepth 20000 in
theorem ggX7_costs_X7_isValue : GoodIn wsX7_costs wsX7_isValue := goodIn_r _ [7, 8, 9, 10, 11, 12, 6, 13, 14, 15, 16, 17, 28, 29, 30, 31, 32, 33, 34, 35, 36, 37, 38, 39, 40, 41, 42, 43, 44, 45, 46, 47, 48, 49, 50, 51, 52, 53, 54, 55, 56, 57, 58, 59, 60, 61, 62, 63, 64, 65, 66, 67, 68, 69, 70, 71, 72, 73, 74, 75, 76, 77, 78, 79, 80, 81, 82, 83, 84, 85, 86, 87, 88, 89, 90, 91, 92, 93, 94, 95, 96, 97, 98, 99, 100, 101, 102, 103, 104, 105, 106] (by decide +kernel) (by decide +kernel)
set_option maxRecDepth 20000 in
theorem gX7_costs_X7_isValue : GoodIn wsX7_costs (wsV RX7 225 RX7 yX7_isValue wsX7_isValue) := goodIn_app (goodIn_of _ (by decide +kernel)) ggX7_costs_X7_isValue
set_option maxRecDepth 20000 in
theorem ggX7_costs_X7_no : GoodIn wsX7_costs wsX7_no := goodIn_r _ [26, 2, 27, 28, 29, 30, 31, 32, 33, 34, 35, 36, 37, 38, 39, 40, 41, 42, 43, 44, 45, 46, 47, 48, 49, 50, 51, 52, 53, 54, 55, 56, 57, 58, 59, 60, 61, 62, 63, 64, 65, 66, 67, 68, 69, 70, 71, 72, 73, 74, 75, 76, 77, 78, 79, 80, 81, 82, 83, 84, 85, 86, 87, 88, 89, 90, 91, 92, 93, 94, 95, 96, 97, 98, 99, 100, 101, 102, 103, 104, 105, 106] (by decide +kernel) (by decide +kernel)
set_option maxRecDepth 20000 in
theorem gX7_costs_X7_no : GoodIn wsX7_costs (wsV RX7 230 RX7 yX7_no wsX7_no) := goodIn_app (goodIn_of _ (by decide +kernel)) ggX7_costs_X7_no
theorem dX7_costs_0 : decode cX7_costs 0 = .ok (.aload_n 0, 1) := by decide +kernel
theorem dX7_costs_1 : decode cX7_costs 1 = .ok (.iconst 0, 1) := by decide +kernel
theorem dX7_costs_2 : decode cX7_costs 2 = .ok (.putfield 201, 3) := by decide +kernel
theorem dX7_costs_5 : decode cX7_costs 5 = .ok (.aload_n 0, 1) := by decide +kernel
theorem dX7_costs_6 : decode cX7_costs 6 = .ok (.iconst 0, 1) := by decide +kernel
theorem dX7_costs_7 : decode cX7_costs 7 = .ok (.putfield 221, 3) := by decide +kernel
theorem dX7_costs_10 : decode cX7_costs 10 = .ok (.aload_n 0, 1) := by decide +kernel
theorem dX7_costs_11 : decode cX7_costs 11 = .ok (.iload_n 1, 1) := by decide +kernel
theorem dX7_costs_12 : decode cX7_costs 12 = .ok (.iload_n 2, 1) := by decide +kernel
theorem dX7_costs_13 : decode cX7_costs 13 = .ok (.iload_n 3, 1) := by decide +kernel
theorem dX7_costs_14 : decode cX7_costs 14 = .ok (.invokevirtual 225, 3) := by decide +kernel
theorem dX7_costs_17 : decode cX7_costs 17 = .ok (.ifCond .eq 13, 3) := by decide +kernel
theorem dX7_costs_30 : decode cX7_costs 30 = .ok (.aload_n 0, 1) := by decide +kernel
theorem dX7_costs_31 : decode cX7_costs 31 = .ok (.iconst (-1), 1) := by decide +kernel
theorem dX7_costs_32 : decode cX7_costs 32 = .ok (.invokevirtual 230, 3) := by decide +kernel
theorem dX7_costs_35 : decode cX7_costs 35 = .ok (.ireturn, 1) := by decide +kernel
theorem dX7_status_0 : decode cX7_status 0 = .ok (.aload_n 0, 1) := by decide +kernel
theorem dX7_status_1 : decode cX7_status 1 = .ok (.iconst 0, 1) := by decide +kernel
theorem dX7_status_2 : decode cX7_status 2 = .ok (.putfield 201, 3) := by decide +kernel
theorem dX7_status_5 : decode cX7_status 5 = .ok (.aload_n 0, 1) := by decide +kernel
theorem dX7_status_6 : decode cX7_status 6 = .ok (.getfield 221, 3) := by decide +kernel
theorem dX7_status_9 : decode cX7_status 9 = .ok (.ireturn, 1) := by decide +kernel
