/-! part 42.zrows -/
theorem dX7_in_0 : decode cX7_in 0 = .ok (.iload_n 0, 1) := by decide +kernel
theorem dX7_in_1 : decode cX7_in 1 = .ok (.iload_n 1, 1) := by decide +kernel
theorem dX7_in_2 : decode cX7_in 2 = .ok (.if_icmp .lt 12, 3) := by decide +kernel
theorem dX7_in_5 : decode cX7_in 5 = .ok (.iload_n 0, 1) := by decide +kernel
theorem dX7_in_6 : decode cX7_in 6 = .ok (.iload_n 2, 1) := by decide +kernel
theorem dX7_in_7 : decode cX7_in 7 = .ok (.if_icmp .gt 7, 3) := by decide +kernel
theorem dX7_in_10 : decode cX7_in 10 = .ok (.iconst 1, 1) := by decide +kernel
theorem dX7_in_11 : decode cX7_in 11 = .ok (.goto 4, 3) := by decide +kernel
theorem dX7_in_14 : decode cX7_in 14 = .ok (.iconst 0, 1) := by decide +kernel
theorem dX7_in_15 : decode cX7_in 15 = .ok (.ireturn, 1) := by decide +kernel
set_option maxRecDepth 20000 in
theorem ggX7_isProblem_X7_in : GoodIn wsX7_isProblem wsX7_in := goodIn_g _ [(5, 1)] rfl (by decide +kernel)
set_option maxRecDepth 20000 in
theorem gX7_isProblem_X7_in : GoodIn wsX7_isProblem (va_wsS RX7 207 yX7_in wsX7_in) := goodIn_app (goodIn_of _ (by decide +kernel)) ggX7_isProblem_X7_in
theorem dX7_isProblem_0 : decode cX7_isProblem 0 = .ok (.iload_n 1, 1) := by decide +kernel
theorem dX7_isProblem_1 : decode cX7_isProblem 1 = .ok (.iconst 0, 1) := by decide +kernel
theorem dX7_isProblem_2 : decode cX7_isProblem 2 = .ok (.aload_n 0, 1) := by decide +kernel
theorem dX7_isProblem_3 : decode cX7_isProblem 3 = .ok (.getfield 204, 3) := by decide +kernel
theorem dX7_isProblem_6 : decode cX7_isProblem 6 = .ok (.iconst 1, 1) := by decide +kernel
theorem dX7_isProblem_7 : decode cX7_isProblem 7 = .ok (.isub, 1) := by decide +kernel
theorem dX7_isProblem_8 : decode cX7_isProblem 8 = .ok (.invokestatic 207, 3) := by decide +kernel
theorem dX7_isProblem_11 : decode cX7_isProblem 11 = .ok (.ireturn, 1) := by decide +kernel
theorem dX7_changes_0 : decode cX7_changes 0 = .ok (.aload_n 0, 1) := by decide +kernel
theorem dX7_changes_1 : decode cX7_changes 1 = .ok (.dup, 1) := by decide +kernel
theorem dX7_changes_2 : decode cX7_changes 2 = .ok (.getfield 211, 3) := by decide +kernel
theorem dX7_changes_5 : decode cX7_changes 5 = .ok (.iconst 1, 1) := by decide +kernel
theorem dX7_changes_6 : decode cX7_changes 6 = .ok (.iadd, 1) := by decide +kernel
theorem dX7_changes_7 : decode cX7_changes 7 = .ok (.putfield 211, 3) := by decide +kernel
theorem dX7_changes_10 : decode cX7_changes 10 = .ok (.aload_n 0, 1) := by decide +kernel
theorem dX7_changes_11 : decode cX7_changes 11 = .ok (.getfield 40, 3) := by decide +kernel
theorem dX7_changes_14 : decode cX7_changes 14 = .ok (.iload_n 1, 1) := by decide +kernel
theorem dX7_changes_15 : decode cX7_changes 15 = .ok (.aload_n 0, 1) := by decide +kernel
theorem dX7_changes_16 : decode cX7_changes 16 = .ok (.getfield 211, 3) := by decide +kernel
theorem dX7_changes_19 : decode cX7_changes 19 = .ok (.iastore, 1) := by decide +kernel
theorem dX7_changes_20 : decode cX7_changes 20 = .ok (.aload_n 0, 1) := by decide +kernel
theorem dX7_changes_21 : decode cX7_changes 21 = .ok (.getfield 114, 3) := by decide +kernel
theorem dX7_changes_24 : decode cX7_changes 24 = .ok (.iload_n 1, 1) := by decide +kernel
theorem dX7_changes_25 : decode cX7_changes 25 = .ok (.iconst 0, 1) := by decide +kernel
theorem dX7_changes_26 : decode cX7_changes 26 = .ok (.bastore, 1) := by decide +kernel
theorem dX7_changes_27 : decode cX7_changes 27 = .ok (.aload_n 0, 1) := by decide +kernel
theorem dX7_changes_28 : decode cX7_changes 28 = .ok (.getfield 117, 3) := by decide +kernel
theorem dX7_changes_31 : decode cX7_changes 31 = .ok (.iload_n 1, 1) := by decide +kernel
theorem dX7_changes_32 : decode cX7_changes 32 = .ok (.iconst 0, 1) := by decide +kernel
theorem dX7_changes_33 : decode cX7_changes 33 = .ok (.bastore, 1) := by decide +kernel
theorem dX7_changes_34 : decode cX7_changes 34 = .ok (.return_, 1) := by decide +kernel
theorem dX7_problem_0 : decode cX7_problem 0 = .ok (.aload_n 0, 1) := by decide +kernel
theorem dX7_problem_1 : decode cX7_problem 1 = .ok (.iconst 0, 1) := by decide +kernel
theorem dX7_problem_2 : decode cX7_problem 2 = .ok (.putfield 201, 3) := by decide +kernel
theorem dX7_problem_5 : decode cX7_problem 5 = .ok (.aload_n 0, 1) := by decide +kernel
theorem dX7_problem_6 : decode cX7_problem 6 = .ok (.getfield 62, 3) := by decide +kernel
theorem dX7_problem_9 : decode cX7_problem 9 = .ok (.bipush (-9), 2) := by decide +kernel
theorem dX7_problem_11 : decode cX7_problem 11 = .ok (.if_icmp .eq 6, 3) := by decide +kernel
theorem dX7_problem_14 : decode cX7_problem 14 = .ok (.bipush (-2), 2) := by decide +kernel
theorem dX7_problem_16 : decode cX7_problem 16 = .ok (.ireturn, 1) := by decide +kernel
theorem dX7_problem_17 : decode cX7_problem 17 = .ok (.aload_n 0, 1) := by decide +kernel
theorem dX7_problem_18 : decode cX7_problem 18 = .ok (.getfield 204, 3) := by decide +kernel
theorem dX7_problem_21 : decode cX7_problem 21 = .ok (.iconst 5, 1) := by decide +kernel
theorem dX7_problem_22 : decode cX7_problem 22 = .ok (.if_icmp .ne 6, 3) := by decide +kernel
theorem dX7_problem_25 : decode cX7_problem 25 = .ok (.bipush (-3), 2) := by decide +kernel
theorem dX7_problem_27 : decode cX7_problem 27 = .ok (.ireturn, 1) := by decide +kernel
theorem dX7_problem_28 : decode cX7_problem 28 = .ok (.aload_n 0, 1) := by decide +kernel
theorem dX7_problem_29 : decode cX7_problem 29 = .ok (.dup, 1) := by decide +kernel
theorem dX7_problem_30 : decode cX7_problem 30 = .ok (.getfield 204, 3) := by decide +kernel
theorem dX7_problem_33 : decode cX7_problem 33 = .ok (.iconst 1, 1) := by decide +kernel
theorem dX7_problem_34 : decode cX7_problem 34 = .ok (.iadd, 1) := by decide +kernel
theorem dX7_problem_35 : decode cX7_problem 35 = .ok (.putfield 204, 3) := by decide +kernel
theorem dX7_problem_38 : decode cX7_problem 38 = .ok (.aload_n 0, 1) := by decide +kernel
theorem dX7_problem_39 : decode cX7_problem 39 = .ok (.getfield 204, 3) := by decide +kernel
theorem dX7_problem_42 : decode cX7_problem 42 = .ok (.iconst 1, 1) := by decide +kernel
theorem dX7_problem_43 : decode cX7_problem 43 = .ok (.isub, 1) := by decide +kernel
theorem dX7_problem_44 : decode cX7_problem 44 = .ok (.ireturn, 1) := by decide +kernel
set_option maxRecDepth 20000 in
theorem ggX7_variable_X7_isProblem : GoodIn wsX7_variable wsX7_isProblem := goodIn_g _ [(10, 4), (9, 1), (14, 1), (23, 79)] rfl (by decide +kernel)
set_option maxRecDepth 20000 in
theorem gX7_variable_X7_isProblem : GoodIn wsX7_variable (wsV RX7 214 RX7 yX7_isProblem wsX7_isProblem) := goodIn_app (goodIn_of _ (by decide +kernel)) ggX7_variable_X7_isProblem
set_option maxRecDepth 20000 in
theorem ggX7_variable_X7_in : GoodIn wsX7_variable wsX7_in := goodIn_g _ [(14, 1)] rfl (by decide +kernel)
set_option maxRecDepth 20000 in
theorem gX7_variable_X7_in : GoodIn wsX7_variable (va_wsS RX7 207 yX7_in wsX7_in) := goodIn_app (goodIn_of _ (by decide +kernel)) ggX7_variable_X7_in
set_option maxRecDepth 20000 in
theorem ggX7_variable_X7_changes : GoodIn wsX7_variable wsX7_changes := goodIn_g _ [(18, 84)] rfl (by decide +kernel)
set_option maxRecDepth 20000 in
theorem gX7_variable_X7_changes : GoodIn wsX7_variable (wsV RX7 218 RX7 yX7_changes wsX7_changes) := goodIn_app (goodIn_of _ (by decide +kernel)) ggX7_variable_X7_changes
theorem dX7_variable_0 : decode cX7_variable 0 = .ok (.aload_n 0, 1) := by decide +kernel
theorem dX7_variable_1 : decode cX7_variable 1 = .ok (.iconst 0, 1) := by decide +kernel
theorem dX7_variable_2 : decode cX7_variable 2 = .ok (.putfield 201, 3) := by decide +kernel
theorem dX7_variable_5 : decode cX7_variable 5 = .ok (.aload_n 0, 1) := by decide +kernel
theorem dX7_variable_6 : decode cX7_variable 6 = .ok (.iload_n 1, 1) := by decide +kernel
theorem dX7_variable_7 : decode cX7_variable 7 = .ok (.invokevirtual 214, 3) := by decide +kernel
theorem dX7_variable_10 : decode cX7_variable 10 = .ok (.ifCond .eq 22, 3) := by decide +kernel
theorem dX7_variable_13 : decode cX7_variable 13 = .ok (.iload_n 2, 1) := by decide +kernel
theorem dX7_variable_14 : decode cX7_variable 14 = .ok (.iconst 1, 1) := by decide +kernel
theorem dX7_variable_15 : decode cX7_variable 15 = .ok (.bipush 6, 2) := by decide +kernel
theorem dX7_variable_17 : decode cX7_variable 17 = .ok (.invokestatic 207, 3) := by decide +kernel
theorem dX7_variable_20 : decode cX7_variable 20 = .ok (.ifCond .eq 12, 3) := by decide +kernel
theorem dX7_variable_23 : decode cX7_variable 23 = .ok (.iload_n 3, 1) := by decide +kernel
theorem dX7_variable_24 : decode cX7_variable 24 = .ok (.iconst 0, 1) := by decide +kernel
theorem dX7_variable_25 : decode cX7_variable 25 = .ok (.iconst 3, 1) := by decide +kernel
theorem dX7_variable_26 : decode cX7_variable 26 = .ok (.invokestatic 207, 3) := by decide +kernel
theorem dX7_variable_29 : decode cX7_variable 29 = .ok (.ifCond .ne 5, 3) := by decide +kernel
theorem dX7_variable_32 : decode cX7_variable 32 = .ok (.iconst (-1), 1) := by decide +kernel
theorem dX7_variable_33 : decode cX7_variable 33 = .ok (.ireturn, 1) := by decide +kernel
theorem dX7_variable_34 : decode cX7_variable 34 = .ok (.aload_n 0, 1) := by decide +kernel
theorem dX7_variable_35 : decode cX7_variable 35 = .ok (.getfield 62, 3) := by decide +kernel
theorem dX7_variable_38 : decode cX7_variable 38 = .ok (.bipush (-9), 2) := by decide +kernel
theorem dX7_variable_40 : decode cX7_variable 40 = .ok (.if_icmp .eq 6, 3) := by decide +kernel
theorem dX7_variable_43 : decode cX7_variable 43 = .ok (.bipush (-2), 2) := by decide +kernel
theorem dX7_variable_45 : decode cX7_variable 45 = .ok (.ireturn, 1) := by decide +kernel
theorem dX7_variable_46 : decode cX7_variable 46 = .ok (.aload_n 0, 1) := by decide +kernel
theorem dX7_variable_47 : decode cX7_variable 47 = .ok (.getfield 7, 3) := by decide +kernel
theorem dX7_variable_50 : decode cX7_variable 50 = .ok (.iload_n 1, 1) := by decide +kernel
theorem dX7_variable_51 : decode cX7_variable 51 = .ok (.iaload, 1) := by decide +kernel
theorem dX7_variable_52 : decode cX7_variable 52 = .ok (.bipush 6, 2) := by decide +kernel
theorem dX7_variable_54 : decode cX7_variable 54 = .ok (.if_icmp .ne 6, 3) := by decide +kernel
theorem dX7_variable_57 : decode cX7_variable 57 = .ok (.bipush (-3), 2) := by decide +kernel
theorem dX7_variable_59 : decode cX7_variable 59 = .ok (.ireturn, 1) := by decide +kernel
theorem dX7_variable_60 : decode cX7_variable 60 = .ok (.aload_n 0, 1) := by decide +kernel
theorem dX7_variable_61 : decode cX7_variable 61 = .ok (.getfield 7, 3) := by decide +kernel
theorem dX7_variable_64 : decode cX7_variable 64 = .ok (.iload_n 1, 1) := by decide +kernel
theorem dX7_variable_65 : decode cX7_variable 65 = .ok (.iaload, 1) := by decide +kernel
theorem dX7_variable_66 : decode cX7_variable 66 = .ok (.istore 4, 2) := by decide +kernel
theorem dX7_variable_68 : decode cX7_variable 68 = .ok (.aload_n 0, 1) := by decide +kernel
theorem dX7_variable_69 : decode cX7_variable 69 = .ok (.getfield 16, 3) := by decide +kernel
theorem dX7_variable_72 : decode cX7_variable 72 = .ok (.bipush 6, 2) := by decide +kernel
theorem dX7_variable_74 : decode cX7_variable 74 = .ok (.iload_n 1, 1) := by decide +kernel
theorem dX7_variable_75 : decode cX7_variable 75 = .ok (.imul, 1) := by decide +kernel
theorem dX7_variable_76 : decode cX7_variable 76 = .ok (.iload 4, 2) := by decide +kernel
theorem dX7_variable_78 : decode cX7_variable 78 = .ok (.iadd, 1) := by decide +kernel
theorem dX7_variable_79 : decode cX7_variable 79 = .ok (.iload_n 2, 1) := by decide +kernel
theorem dX7_variable_80 : decode cX7_variable 80 = .ok (.iastore, 1) := by decide +kernel
theorem dX7_variable_81 : decode cX7_variable 81 = .ok (.aload_n 0, 1) := by decide +kernel
theorem dX7_variable_82 : decode cX7_variable 82 = .ok (.getfield 19, 3) := by decide +kernel
theorem dX7_variable_85 : decode cX7_variable 85 = .ok (.bipush 6, 2) := by decide +kernel
theorem dX7_variable_87 : decode cX7_variable 87 = .ok (.iload_n 1, 1) := by decide +kernel
theorem dX7_variable_88 : decode cX7_variable 88 = .ok (.imul, 1) := by decide +kernel
theorem dX7_variable_89 : decode cX7_variable 89 = .ok (.iload 4, 2) := by decide +kernel
theorem dX7_variable_91 : decode cX7_variable 91 = .ok (.iadd, 1) := by decide +kernel
theorem dX7_variable_92 : decode cX7_variable 92 = .ok (.iload_n 3, 1) := by decide +kernel
theorem dX7_variable_93 : decode cX7_variable 93 = .ok (.iastore, 1) := by decide +kernel
theorem dX7_variable_94 : decode cX7_variable 94 = .ok (.aload_n 0, 1) := by decide +kernel
theorem dX7_variable_95 : decode cX7_variable 95 = .ok (.getfield 7, 3) := by decide +kernel
theorem dX7_variable_98 : decode cX7_variable 98 = .ok (.iload_n 1, 1) := by decide +kernel
theorem dX7_variable_99 : decode cX7_variable 99 = .ok (.dup2, 1) := by decide +kernel
theorem dX7_variable_100 : decode cX7_variable 100 = .ok (.iaload, 1) := by decide +kernel
theorem dX7_variable_101 : decode cX7_variable 101 = .ok (.iconst 1, 1) := by decide +kernel
theorem dX7_variable_102 : decode cX7_variable 102 = .ok (.iadd, 1) := by decide +kernel
theorem dX7_variable_103 : decode cX7_variable 103 = .ok (.iastore, 1) := by decide +kernel
theorem dX7_variable_104 : decode cX7_variable 104 = .ok (.aload_n 0, 1) := by decide +kernel
theorem dX7_variable_105 : decode cX7_variable 105 = .ok (.iload_n 1, 1) := by decide +kernel
theorem dX7_variable_106 : decode cX7_variable 106 = .ok (.invokevirtual 218, 3) := by decide +kernel
theorem dX7_variable_109 : decode cX7_variable 109 = .ok (.iload 4, 2) := by decide +kernel
theorem dX7_variable_111 : decode cX7_variable 111 = .ok (.ireturn, 1) := by decide +kernel
theorem dX7_no_0 : decode cX7_no 0 = .ok (.aload_n 0, 1) := by decide +kernel
theorem dX7_no_1 : decode cX7_no 1 = .ok (.iload_n 1, 1) := by decide +kernel
theorem dX7_no_2 : decode cX7_no 2 = .ok (.putfield 221, 3) := by decide +kernel
theorem dX7_no_5 : decode cX7_no 5 = .ok (.ldc 224, 2) := by decide +kernel
theorem dX7_no_7 : decode cX7_no 7 = .ok (.ireturn, 1) := by decide +kernel
set_option maxRecDepth 20000 in
theorem ggX7_isValue_X7_isProblem : GoodIn wsX7_isValue wsX7_isProblem := goodIn_g _ [(7, 4), (6, 1), (11, 80)] rfl (by decide +kernel)
set_option maxRecDepth 20000 in
theorem gX7_isValue_X7_isProblem : GoodIn wsX7_isValue (wsV RX7 214 RX7 yX7_isProblem wsX7_isProblem) := goodIn_app (goodIn_of _ (by decide +kernel)) ggX7_isValue_X7_isProblem
set_option maxRecDepth 20000 in
theorem ggX7_isValue_X7_in : GoodIn wsX7_isValue wsX7_in := goodIn_g _ [(11, 1)] rfl (by decide +kernel)
set_option maxRecDepth 20000 in
theorem gX7_isValue_X7_in : GoodIn wsX7_isValue (va_wsS RX7 207 yX7_in wsX7_in) := goodIn_app (goodIn_of _ (by decide +kernel)) ggX7_isValue_X7_in
theorem dX7_isValue_0 : decode cX7_isValue 0 = .ok (.aload_n 0, 1) := by decide +kernel
theorem dX7_isValue_1 : decode cX7_isValue 1 = .ok (.iload_n 1, 1) := by decide +kernel
theorem dX7_isValue_2 : decode cX7_isValue 2 = .ok (.invokevirtual 214, 3) := by decide +kernel
theorem dX7_isValue_5 : decode cX7_isValue 5 = .ok (.ifCond .eq 44, 3) := by decide +kernel
theorem dX7_isValue_8 : decode cX7_isValue 8 = .ok (.iload_n 2, 1) := by decide +kernel
theorem dX7_isValue_9 : decode cX7_isValue 9 = .ok (.iconst 0, 1) := by decide +kernel
theorem dX7_isValue_10 : decode cX7_isValue 10 = .ok (.aload_n 0, 1) := by decide +kernel
theorem dX7_isValue_11 : decode cX7_isValue 11 = .ok (.getfield 7, 3) := by decide +kernel
theorem dX7_isValue_14 : decode cX7_isValue 14 = .ok (.iload_n 1, 1) := by decide +kernel
theorem dX7_isValue_15 : decode cX7_isValue 15 = .ok (.iaload, 1) := by decide +kernel
theorem dX7_isValue_16 : decode cX7_isValue 16 = .ok (.iconst 1, 1) := by decide +kernel
theorem dX7_isValue_17 : decode cX7_isValue 17 = .ok (.isub, 1) := by decide +kernel
theorem dX7_isValue_18 : decode cX7_isValue 18 = .ok (.invokestatic 207, 3) := by decide +kernel
theorem dX7_isValue_21 : decode cX7_isValue 21 = .ok (.ifCond .eq 28, 3) := by decide +kernel
theorem dX7_isValue_24 : decode cX7_isValue 24 = .ok (.iload_n 3, 1) := by decide +kernel
theorem dX7_isValue_25 : decode cX7_isValue 25 = .ok (.iconst 0, 1) := by decide +kernel
theorem dX7_isValue_26 : decode cX7_isValue 26 = .ok (.aload_n 0, 1) := by decide +kernel
theorem dX7_isValue_27 : decode cX7_isValue 27 = .ok (.getfield 16, 3) := by decide +kernel
theorem dX7_isValue_30 : decode cX7_isValue 30 = .ok (.bipush 6, 2) := by decide +kernel
theorem dX7_isValue_32 : decode cX7_isValue 32 = .ok (.iload_n 1, 1) := by decide +kernel
theorem dX7_isValue_33 : decode cX7_isValue 33 = .ok (.imul, 1) := by decide +kernel
theorem dX7_isValue_34 : decode cX7_isValue 34 = .ok (.iload_n 2, 1) := by decide +kernel
theorem dX7_isValue_35 : decode cX7_isValue 35 = .ok (.iadd, 1) := by decide +kernel
theorem dX7_isValue_36 : decode cX7_isValue 36 = .ok (.iaload, 1) := by decide +kernel
theorem dX7_isValue_37 : decode cX7_isValue 37 = .ok (.iconst 1, 1) := by decide +kernel
theorem dX7_isValue_38 : decode cX7_isValue 38 = .ok (.isub, 1) := by decide +kernel
theorem dX7_isValue_39 : decode cX7_isValue 39 = .ok (.invokestatic 207, 3) := by decide +kernel
theorem dX7_isValue_42 : decode cX7_isValue 42 = .ok (.ifCond .eq 7, 3) := by decide +kernel
theorem dX7_isValue_45 : decode cX7_isValue 45 = .ok (.iconst 1, 1) := by decide +kernel
theorem dX7_isValue_46 : decode cX7_isValue 46 = .ok (.goto 4, 3) := by decide +kernel
theorem dX7_isValue_49 : decode cX7_isValue 49 = .ok (.iconst 0, 1) := by decide +kernel
theorem dX7_isValue_50 : decode cX7_isValue 50 = .ok (.ireturn, 1) := by decide +kernel
theorem dX7_costAt_0 : decode cX7_costAt 0 = .ok (.aload_n 0, 1) := by decide +kernel
theorem dX7_costAt_1 : decode cX7_costAt 1 = .ok (.getfield 22, 3) := by decide +kernel
theorem dX7_costAt_4 : decode cX7_costAt 4 = .ok (.bipush 36, 2) := by decide +kernel
theorem dX7_costAt_6 : decode cX7_costAt 6 = .ok (.iload_n 1, 1) := by decide +kernel
theorem dX7_costAt_7 : decode cX7_costAt 7 = .ok (.imul, 1) := by decide +kernel
theorem dX7_costAt_8 : decode cX7_costAt 8 = .ok (.bipush 6, 2) := by decide +kernel
theorem dX7_costAt_10 : decode cX7_costAt 10 = .ok (.iload_n 2, 1) := by decide +kernel
theorem dX7_costAt_11 : decode cX7_costAt 11 = .ok (.imul, 1) := by decide +kernel
theorem dX7_costAt_12 : decode cX7_costAt 12 = .ok (.iadd, 1) := by decide +kernel
theorem dX7_costAt_13 : decode cX7_costAt 13 = .ok (.iload_n 3, 1) := by decide +kernel
theorem dX7_costAt_14 : decode cX7_costAt 14 = .ok (.iadd, 1) := by decide +kernel
theorem dX7_costAt_15 : decode cX7_costAt 15 = .ok (.iaload, 1) := by decide +kernel
theorem dX7_costAt_16 : decode cX7_costAt 16 = .ok (.ireturn, 1) := by decide +kernel
set_option maxRecDepth 20000 in
theorem ggX7_cost_X7_isValue : GoodIn wsX7_cost wsX7_isValue := goodIn_g _ [(13, 6), (12, 1), (19, 5), (37, 79)] rfl (by decide +kernel)
set_option maxRecDepth 20000 in
theorem gX7_cost_X7_isValue : GoodIn wsX7_cost (wsV RX7 225 RX7 yX7_isValue wsX7_isValue) := goodIn_app (goodIn_of _ (by decide +kernel)) ggX7_cost_X7_isValue
set_option maxRecDepth 20000 in
theorem ggX7_cost_X7_in : GoodIn wsX7_cost wsX7_in := goodIn_g _ [(23, 1)] rfl (by decide +kernel)
set_option maxRecDepth 20000 in
theorem gX7_cost_X7_in : GoodIn wsX7_cost (va_wsS RX7 207 yX7_in wsX7_in) := goodIn_app (goodIn_of _ (by decide +kernel)) ggX7_cost_X7_in
set_option maxRecDepth 20000 in
theorem ggX7_cost_X7_no : GoodIn wsX7_cost wsX7_no := goodIn_g _ [(27, 1), (2, 1), (28, 1), (37, 79)] rfl (by decide +kernel)
set_option maxRecDepth 20000 in
theorem gX7_cost_X7_no : GoodIn wsX7_cost (wsV RX7 230 RX7 yX7_no wsX7_no) := goodIn_app (goodIn_of _ (by decide +kernel)) ggX7_cost_X7_no
set_option maxRecDepth 20000 in
theorem ggX7_cost_X7_changes : GoodIn wsX7_cost wsX7_changes := goodIn_g _ [(32, 84)] rfl (by decide +kernel)
set_option maxRecDepth 20000 in
theorem gX7_cost_X7_changes : GoodIn wsX7_cost (wsV RX7 218 RX7 yX7_changes wsX7_changes) := goodIn_app (goodIn_of _ (by decide +kernel)) ggX7_cost_X7_changes
theorem dX7_cost_0 : decode cX7_cost 0 = .ok (.aload_n 0, 1) := by decide +kernel
theorem dX7_cost_1 : decode cX7_cost 1 = .ok (.iconst 0, 1) := by decide +kernel
theorem dX7_cost_2 : decode cX7_cost 2 = .ok (.putfield 201, 3) := by decide +kernel
theorem dX7_cost_5 : decode cX7_cost 5 = .ok (.aload_n 0, 1) := by decide +kernel
theorem dX7_cost_6 : decode cX7_cost 6 = .ok (.iconst 0, 1) := by decide +kernel
theorem dX7_cost_7 : decode cX7_cost 7 = .ok (.putfield 221, 3) := by decide +kernel
theorem dX7_cost_10 : decode cX7_cost 10 = .ok (.aload_n 0, 1) := by decide +kernel
theorem dX7_cost_11 : decode cX7_cost 11 = .ok (.iload_n 1, 1) := by decide +kernel
theorem dX7_cost_12 : decode cX7_cost 12 = .ok (.iload_n 2, 1) := by decide +kernel
theorem dX7_cost_13 : decode cX7_cost 13 = .ok (.iload_n 3, 1) := by decide +kernel
theorem dX7_cost_14 : decode cX7_cost 14 = .ok (.invokevirtual 225, 3) := by decide +kernel
theorem dX7_cost_17 : decode cX7_cost 17 = .ok (.ifCond .eq 15, 3) := by decide +kernel
theorem dX7_cost_20 : decode cX7_cost 20 = .ok (.iload 4, 2) := by decide +kernel
theorem dX7_cost_22 : decode cX7_cost 22 = .ok (.ldc 228, 2) := by decide +kernel
theorem dX7_cost_24 : decode cX7_cost 24 = .ok (.ldc 229, 2) := by decide +kernel
theorem dX7_cost_26 : decode cX7_cost 26 = .ok (.invokestatic 207, 3) := by decide +kernel
theorem dX7_cost_29 : decode cX7_cost 29 = .ok (.ifCond .ne 9, 3) := by decide +kernel
theorem dX7_cost_32 : decode cX7_cost 32 = .ok (.aload_n 0, 1) := by decide +kernel
theorem dX7_cost_33 : decode cX7_cost 33 = .ok (.iconst (-1), 1) := by decide +kernel
theorem dX7_cost_34 : decode cX7_cost 34 = .ok (.invokevirtual 230, 3) := by decide +kernel
theorem dX7_cost_37 : decode cX7_cost 37 = .ok (.ireturn, 1) := by decide +kernel
theorem dX7_cost_38 : decode cX7_cost 38 = .ok (.aload_n 0, 1) := by decide +kernel
theorem dX7_cost_39 : decode cX7_cost 39 = .ok (.getfield 62, 3) := by decide +kernel
theorem dX7_cost_42 : decode cX7_cost 42 = .ok (.bipush (-9), 2) := by decide +kernel
theorem dX7_cost_44 : decode cX7_cost 44 = .ok (.if_icmp .eq 10, 3) := by decide +kernel
theorem dX7_cost_47 : decode cX7_cost 47 = .ok (.aload_n 0, 1) := by decide +kernel
theorem dX7_cost_48 : decode cX7_cost 48 = .ok (.bipush (-2), 2) := by decide +kernel
theorem dX7_cost_50 : decode cX7_cost 50 = .ok (.invokevirtual 230, 3) := by decide +kernel
theorem dX7_cost_53 : decode cX7_cost 53 = .ok (.ireturn, 1) := by decide +kernel
theorem dX7_cost_54 : decode cX7_cost 54 = .ok (.aload_n 0, 1) := by decide +kernel
theorem dX7_cost_55 : decode cX7_cost 55 = .ok (.getfield 19, 3) := by decide +kernel
theorem dX7_cost_58 : decode cX7_cost 58 = .ok (.bipush 6, 2) := by decide +kernel
theorem dX7_cost_60 : decode cX7_cost 60 = .ok (.iload_n 1, 1) := by decide +kernel
theorem dX7_cost_61 : decode cX7_cost 61 = .ok (.imul, 1) := by decide +kernel
theorem dX7_cost_62 : decode cX7_cost 62 = .ok (.iload_n 2, 1) := by decide +kernel
theorem dX7_cost_63 : decode cX7_cost 63 = .ok (.iadd, 1) := by decide +kernel
theorem dX7_cost_64 : decode cX7_cost 64 = .ok (.iaload, 1) := by decide +kernel
theorem dX7_cost_65 : decode cX7_cost 65 = .ok (.istore 5, 2) := by decide +kernel
theorem dX7_cost_67 : decode cX7_cost 67 = .ok (.iload 5, 2) := by decide +kernel
theorem dX7_cost_69 : decode cX7_cost 69 = .ok (.ifCond .ne 9, 3) := by decide +kernel
theorem dX7_cost_72 : decode cX7_cost 72 = .ok (.iload 4, 2) := by decide +kernel
theorem dX7_cost_74 : decode cX7_cost 74 = .ok (.i2b, 1) := by decide +kernel
theorem dX7_cost_75 : decode cX7_cost 75 = .ok (.goto 31, 3) := by decide +kernel
theorem dX7_cost_78 : decode cX7_cost 78 = .ok (.iload 5, 2) := by decide +kernel
theorem dX7_cost_80 : decode cX7_cost 80 = .ok (.iconst 1, 1) := by decide +kernel
theorem dX7_cost_81 : decode cX7_cost 81 = .ok (.if_icmp .ne 9, 3) := by decide +kernel
theorem dX7_cost_84 : decode cX7_cost 84 = .ok (.iload 4, 2) := by decide +kernel
theorem dX7_cost_86 : decode cX7_cost 86 = .ok (.i2s, 1) := by decide +kernel
theorem dX7_cost_87 : decode cX7_cost 87 = .ok (.goto 19, 3) := by decide +kernel
theorem dX7_cost_90 : decode cX7_cost 90 = .ok (.iload 5, 2) := by decide +kernel
theorem dX7_cost_92 : decode cX7_cost 92 = .ok (.iconst 2, 1) := by decide +kernel
theorem dX7_cost_93 : decode cX7_cost 93 = .ok (.if_icmp .ne 11, 3) := by decide +kernel
theorem dX7_cost_96 : decode cX7_cost 96 = .ok (.iload 4, 2) := by decide +kernel
theorem dX7_cost_98 : decode cX7_cost 98 = .ok (.ldc 234, 2) := by decide +kernel
theorem dX7_cost_100 : decode cX7_cost 100 = .ok (.iand, 1) := by decide +kernel
theorem dX7_cost_101 : decode cX7_cost 101 = .ok (.goto 5, 3) := by decide +kernel
theorem dX7_cost_104 : decode cX7_cost 104 = .ok (.iload 4, 2) := by decide +kernel
theorem dX7_cost_106 : decode cX7_cost 106 = .ok (.istore 6, 2) := by decide +kernel
theorem dX7_cost_108 : decode cX7_cost 108 = .ok (.aload_n 0, 1) := by decide +kernel
theorem dX7_cost_109 : decode cX7_cost 109 = .ok (.getfield 22, 3) := by decide +kernel
theorem dX7_cost_112 : decode cX7_cost 112 = .ok (.bipush 36, 2) := by decide +kernel
theorem dX7_cost_114 : decode cX7_cost 114 = .ok (.iload_n 1, 1) := by decide +kernel
theorem dX7_cost_115 : decode cX7_cost 115 = .ok (.imul, 1) := by decide +kernel
theorem dX7_cost_116 : decode cX7_cost 116 = .ok (.bipush 6, 2) := by decide +kernel
theorem dX7_cost_118 : decode cX7_cost 118 = .ok (.iload_n 2, 1) := by decide +kernel
theorem dX7_cost_119 : decode cX7_cost 119 = .ok (.imul, 1) := by decide +kernel
theorem dX7_cost_120 : decode cX7_cost 120 = .ok (.iadd, 1) := by decide +kernel
theorem dX7_cost_121 : decode cX7_cost 121 = .ok (.iload_n 3, 1) := by decide +kernel
theorem dX7_cost_122 : decode cX7_cost 122 = .ok (.iadd, 1) := by decide +kernel
theorem dX7_cost_123 : decode cX7_cost 123 = .ok (.iload 6, 2) := by decide +kernel
theorem dX7_cost_125 : decode cX7_cost 125 = .ok (.iastore, 1) := by decide +kernel
theorem dX7_cost_126 : decode cX7_cost 126 = .ok (.aload_n 0, 1) := by decide +kernel
theorem dX7_cost_127 : decode cX7_cost 127 = .ok (.iload_n 1, 1) := by decide +kernel
theorem dX7_cost_128 : decode cX7_cost 128 = .ok (.invokevirtual 218, 3) := by decide +kernel
theorem dX7_cost_131 : decode cX7_cost 131 = .ok (.iload 6, 2) := by decide +kernel
theorem dX7_cost_133 : decode cX7_cost 133 = .ok (.ireturn, 1) := by decide +kernel
set_option maxRecDepth 20000 in
theorem ggX7_rule_X7_isProblem : GoodIn wsX7_rule wsX7_isProblem := goodIn_g _ [(10, 4), (9, 1), (14, 1), (23, 79)] rfl (by decide +kernel)
set_option maxRecDepth 20000 in
theorem gX7_rule_X7_isProblem : GoodIn wsX7_rule (wsV RX7 214 RX7 yX7_isProblem wsX7_isProblem) := goodIn_app (goodIn_of _ (by decide +kernel)) ggX7_rule_X7_isProblem
set_option maxRecDepth 20000 in
theorem ggX7_rule_X7_in : GoodIn wsX7_rule wsX7_in := goodIn_g _ [(14, 1)] rfl (by decide +kernel)
set_option maxRecDepth 20000 in
theorem gX7_rule_X7_in : GoodIn wsX7_rule (va_wsS RX7 207 yX7_in wsX7_in) := goodIn_app (goodIn_of _ (by decide +kernel)) ggX7_rule_X7_in
set_option maxRecDepth 20000 in
theorem ggX7_rule_X7_changes : GoodIn wsX7_rule wsX7_changes := goodIn_g _ [(18, 84)] rfl (by decide +kernel)
set_option maxRecDepth 20000 in
theorem gX7_rule_X7_changes : GoodIn wsX7_rule (wsV RX7 218 RX7 yX7_changes wsX7_changes) := goodIn_app (goodIn_of _ (by decide +kernel)) ggX7_rule_X7_changes
theorem dX7_rule_0 : decode cX7_rule 0 = .ok (.aload_n 0, 1) := by decide +kernel
theorem dX7_rule_1 : decode cX7_rule 1 = .ok (.iconst 0, 1) := by decide +kernel
theorem dX7_rule_2 : decode cX7_rule 2 = .ok (.putfield 201, 3) := by decide +kernel
theorem dX7_rule_5 : decode cX7_rule 5 = .ok (.aload_n 0, 1) := by decide +kernel
theorem dX7_rule_6 : decode cX7_rule 6 = .ok (.iload_n 1, 1) := by decide +kernel
theorem dX7_rule_7 : decode cX7_rule 7 = .ok (.invokevirtual 214, 3) := by decide +kernel
theorem dX7_rule_10 : decode cX7_rule 10 = .ok (.ifCond .eq 26, 3) := by decide +kernel
theorem dX7_rule_13 : decode cX7_rule 13 = .ok (.iload_n 2, 1) := by decide +kernel
theorem dX7_rule_14 : decode cX7_rule 14 = .ok (.iconst 0, 1) := by decide +kernel
theorem dX7_rule_15 : decode cX7_rule 15 = .ok (.bipush 7, 2) := by decide +kernel
theorem dX7_rule_17 : decode cX7_rule 17 = .ok (.invokestatic 207, 3) := by decide +kernel
theorem dX7_rule_20 : decode cX7_rule 20 = .ok (.ifCond .eq 16, 3) := by decide +kernel
theorem dX7_rule_23 : decode cX7_rule 23 = .ok (.iload_n 3, 1) := by decide +kernel
theorem dX7_rule_24 : decode cX7_rule 24 = .ok (.sipush (-1000), 3) := by decide +kernel
theorem dX7_rule_27 : decode cX7_rule 27 = .ok (.sipush 1000, 3) := by decide +kernel
theorem dX7_rule_30 : decode cX7_rule 30 = .ok (.invokestatic 207, 3) := by decide +kernel
theorem dX7_rule_33 : decode cX7_rule 33 = .ok (.ifCond .ne 5, 3) := by decide +kernel
theorem dX7_rule_36 : decode cX7_rule 36 = .ok (.iconst (-1), 1) := by decide +kernel
theorem dX7_rule_37 : decode cX7_rule 37 = .ok (.ireturn, 1) := by decide +kernel
theorem dX7_rule_38 : decode cX7_rule 38 = .ok (.aload_n 0, 1) := by decide +kernel
theorem dX7_rule_39 : decode cX7_rule 39 = .ok (.getfield 62, 3) := by decide +kernel
theorem dX7_rule_42 : decode cX7_rule 42 = .ok (.bipush (-9), 2) := by decide +kernel
theorem dX7_rule_44 : decode cX7_rule 44 = .ok (.if_icmp .eq 6, 3) := by decide +kernel
theorem dX7_rule_47 : decode cX7_rule 47 = .ok (.bipush (-2), 2) := by decide +kernel
theorem dX7_rule_49 : decode cX7_rule 49 = .ok (.ireturn, 1) := by decide +kernel
theorem dX7_rule_50 : decode cX7_rule 50 = .ok (.aload_n 0, 1) := by decide +kernel
theorem dX7_rule_51 : decode cX7_rule 51 = .ok (.getfield 13, 3) := by decide +kernel
theorem dX7_rule_54 : decode cX7_rule 54 = .ok (.iload_n 1, 1) := by decide +kernel
theorem dX7_rule_55 : decode cX7_rule 55 = .ok (.iaload, 1) := by decide +kernel
theorem dX7_rule_56 : decode cX7_rule 56 = .ok (.bipush 8, 2) := by decide +kernel
theorem dX7_rule_58 : decode cX7_rule 58 = .ok (.if_icmp .ne 6, 3) := by decide +kernel
theorem dX7_rule_61 : decode cX7_rule 61 = .ok (.bipush (-3), 2) := by decide +kernel
theorem dX7_rule_63 : decode cX7_rule 63 = .ok (.ireturn, 1) := by decide +kernel
theorem dX7_rule_64 : decode cX7_rule 64 = .ok (.aload_n 0, 1) := by decide +kernel
theorem dX7_rule_65 : decode cX7_rule 65 = .ok (.getfield 13, 3) := by decide +kernel
theorem dX7_rule_68 : decode cX7_rule 68 = .ok (.iload_n 1, 1) := by decide +kernel
theorem dX7_rule_69 : decode cX7_rule 69 = .ok (.iaload, 1) := by decide +kernel
theorem dX7_rule_70 : decode cX7_rule 70 = .ok (.istore 4, 2) := by decide +kernel
theorem dX7_rule_72 : decode cX7_rule 72 = .ok (.aload_n 0, 1) := by decide +kernel
theorem dX7_rule_73 : decode cX7_rule 73 = .ok (.getfield 25, 3) := by decide +kernel
theorem dX7_rule_76 : decode cX7_rule 76 = .ok (.bipush 8, 2) := by decide +kernel
theorem dX7_rule_78 : decode cX7_rule 78 = .ok (.iload_n 1, 1) := by decide +kernel
theorem dX7_rule_79 : decode cX7_rule 79 = .ok (.imul, 1) := by decide +kernel
theorem dX7_rule_80 : decode cX7_rule 80 = .ok (.iload 4, 2) := by decide +kernel
theorem dX7_rule_82 : decode cX7_rule 82 = .ok (.iadd, 1) := by decide +kernel
theorem dX7_rule_83 : decode cX7_rule 83 = .ok (.iload_n 2, 1) := by decide +kernel
theorem dX7_rule_84 : decode cX7_rule 84 = .ok (.iastore, 1) := by decide +kernel
theorem dX7_rule_85 : decode cX7_rule 85 = .ok (.aload_n 0, 1) := by decide +kernel
theorem dX7_rule_86 : decode cX7_rule 86 = .ok (.getfield 28, 3) := by decide +kernel
theorem dX7_rule_89 : decode cX7_rule 89 = .ok (.bipush 8, 2) := by decide +kernel
theorem dX7_rule_91 : decode cX7_rule 91 = .ok (.iload_n 1, 1) := by decide +kernel
theorem dX7_rule_92 : decode cX7_rule 92 = .ok (.imul, 1) := by decide +kernel
theorem dX7_rule_93 : decode cX7_rule 93 = .ok (.iload 4, 2) := by decide +kernel
theorem dX7_rule_95 : decode cX7_rule 95 = .ok (.iadd, 1) := by decide +kernel
theorem dX7_rule_96 : decode cX7_rule 96 = .ok (.iload_n 3, 1) := by decide +kernel
theorem dX7_rule_97 : decode cX7_rule 97 = .ok (.iastore, 1) := by decide +kernel
theorem dX7_rule_98 : decode cX7_rule 98 = .ok (.aload_n 0, 1) := by decide +kernel
theorem dX7_rule_99 : decode cX7_rule 99 = .ok (.getfield 13, 3) := by decide +kernel
theorem dX7_rule_102 : decode cX7_rule 102 = .ok (.iload_n 1, 1) := by decide +kernel
theorem dX7_rule_103 : decode cX7_rule 103 = .ok (.dup2, 1) := by decide +kernel
theorem dX7_rule_104 : decode cX7_rule 104 = .ok (.iaload, 1) := by decide +kernel
theorem dX7_rule_105 : decode cX7_rule 105 = .ok (.iconst 1, 1) := by decide +kernel
theorem dX7_rule_106 : decode cX7_rule 106 = .ok (.iadd, 1) := by decide +kernel
theorem dX7_rule_107 : decode cX7_rule 107 = .ok (.iastore, 1) := by decide +kernel
theorem dX7_rule_108 : decode cX7_rule 108 = .ok (.aload_n 0, 1) := by decide +kernel
theorem dX7_rule_109 : decode cX7_rule 109 = .ok (.iload_n 1, 1) := by decide +kernel
theorem dX7_rule_110 : decode cX7_rule 110 = .ok (.invokevirtual 218, 3) := by decide +kernel
theorem dX7_rule_113 : decode cX7_rule 113 = .ok (.iload 4, 2) := by decide +kernel
theorem dX7_rule_115 : decode cX7_rule 115 = .ok (.ireturn, 1) := by decide +kernel
theorem dX7_partAt_0 : decode cX7_partAt 0 = .ok (.bipush 8, 2) := by decide +kernel
theorem dX7_partAt_2 : decode cX7_partAt 2 = .ok (.iload_n 1, 1) := by decide +kernel
theorem dX7_partAt_3 : decode cX7_partAt 3 = .ok (.imul, 1) := by decide +kernel
theorem dX7_partAt_4 : decode cX7_partAt 4 = .ok (.iload_n 2, 1) := by decide +kernel
theorem dX7_partAt_5 : decode cX7_partAt 5 = .ok (.iadd, 1) := by decide +kernel
theorem dX7_partAt_6 : decode cX7_partAt 6 = .ok (.istore 4, 2) := by decide +kernel
theorem dX7_partAt_8 : decode cX7_partAt 8 = .ok (.iconst 0, 1) := by decide +kernel
theorem dX7_partAt_9 : decode cX7_partAt 9 = .ok (.istore 5, 2) := by decide +kernel
theorem dX7_partAt_11 : decode cX7_partAt 11 = .ok (.iload 5, 2) := by decide +kernel
theorem dX7_partAt_13 : decode cX7_partAt 13 = .ok (.aload_n 0, 1) := by decide +kernel
theorem dX7_partAt_14 : decode cX7_partAt 14 = .ok (.getfield 31, 3) := by decide +kernel
theorem dX7_partAt_17 : decode cX7_partAt 17 = .ok (.iload 4, 2) := by decide +kernel
theorem dX7_partAt_19 : decode cX7_partAt 19 = .ok (.iaload, 1) := by decide +kernel
theorem dX7_partAt_20 : decode cX7_partAt 20 = .ok (.if_icmp .ge 29, 3) := by decide +kernel
theorem dX7_partAt_23 : decode cX7_partAt 23 = .ok (.aload_n 0, 1) := by decide +kernel
theorem dX7_partAt_24 : decode cX7_partAt 24 = .ok (.getfield 34, 3) := by decide +kernel
theorem dX7_partAt_27 : decode cX7_partAt 27 = .ok (.bipush 6, 2) := by decide +kernel
theorem dX7_partAt_29 : decode cX7_partAt 29 = .ok (.iload 4, 2) := by decide +kernel
theorem dX7_partAt_31 : decode cX7_partAt 31 = .ok (.imul, 1) := by decide +kernel
theorem dX7_partAt_32 : decode cX7_partAt 32 = .ok (.iload 5, 2) := by decide +kernel
theorem dX7_partAt_34 : decode cX7_partAt 34 = .ok (.iadd, 1) := by decide +kernel
theorem dX7_partAt_35 : decode cX7_partAt 35 = .ok (.iaload, 1) := by decide +kernel
theorem dX7_partAt_36 : decode cX7_partAt 36 = .ok (.iload_n 3, 1) := by decide +kernel
theorem dX7_partAt_37 : decode cX7_partAt 37 = .ok (.if_icmp .ne 6, 3) := by decide +kernel
theorem dX7_partAt_40 : decode cX7_partAt 40 = .ok (.iload 5, 2) := by decide +kernel
theorem dX7_partAt_42 : decode cX7_partAt 42 = .ok (.ireturn, 1) := by decide +kernel
theorem dX7_partAt_43 : decode cX7_partAt 43 = .ok (.iinc 5 1, 3) := by decide +kernel
theorem dX7_partAt_46 : decode cX7_partAt 46 = .ok (.goto (-35), 3) := by decide +kernel
theorem dX7_partAt_49 : decode cX7_partAt 49 = .ok (.bipush (-9), 2) := by decide +kernel
theorem dX7_partAt_51 : decode cX7_partAt 51 = .ok (.ireturn, 1) := by decide +kernel
set_option maxRecDepth 20000 in
theorem ggX7_isRule_X7_isProblem : GoodIn wsX7_isRule wsX7_isProblem := goodIn_g _ [(6, 4), (5, 1), (10, 80)] rfl (by decide +kernel)
set_option maxRecDepth 20000 in
theorem gX7_isRule_X7_isProblem : GoodIn wsX7_isRule (wsV RX7 214 RX7 yX7_isProblem wsX7_isProblem) := goodIn_app (goodIn_of _ (by decide +kernel)) ggX7_isRule_X7_isProblem
set_option maxRecDepth 20000 in
theorem ggX7_isRule_X7_in : GoodIn wsX7_isRule wsX7_in := goodIn_g _ [(10, 1)] rfl (by decide +kernel)
set_option maxRecDepth 20000 in
theorem gX7_isRule_X7_in : GoodIn wsX7_isRule (va_wsS RX7 207 yX7_in wsX7_in) := goodIn_app (goodIn_of _ (by decide +kernel)) ggX7_isRule_X7_in
theorem dX7_isRule_0 : decode cX7_isRule 0 = .ok (.aload_n 0, 1) := by decide +kernel
theorem dX7_isRule_1 : decode cX7_isRule 1 = .ok (.iload_n 1, 1) := by decide +kernel
theorem dX7_isRule_2 : decode cX7_isRule 2 = .ok (.invokevirtual 214, 3) := by decide +kernel
theorem dX7_isRule_5 : decode cX7_isRule 5 = .ok (.ifCond .eq 23, 3) := by decide +kernel
theorem dX7_isRule_8 : decode cX7_isRule 8 = .ok (.iload_n 2, 1) := by decide +kernel
theorem dX7_isRule_9 : decode cX7_isRule 9 = .ok (.iconst 0, 1) := by decide +kernel
theorem dX7_isRule_10 : decode cX7_isRule 10 = .ok (.aload_n 0, 1) := by decide +kernel
theorem dX7_isRule_11 : decode cX7_isRule 11 = .ok (.getfield 13, 3) := by decide +kernel
theorem dX7_isRule_14 : decode cX7_isRule 14 = .ok (.iload_n 1, 1) := by decide +kernel
theorem dX7_isRule_15 : decode cX7_isRule 15 = .ok (.iaload, 1) := by decide +kernel
theorem dX7_isRule_16 : decode cX7_isRule 16 = .ok (.iconst 1, 1) := by decide +kernel
theorem dX7_isRule_17 : decode cX7_isRule 17 = .ok (.isub, 1) := by decide +kernel
theorem dX7_isRule_18 : decode cX7_isRule 18 = .ok (.invokestatic 207, 3) := by decide +kernel
theorem dX7_isRule_21 : decode cX7_isRule 21 = .ok (.ifCond .eq 7, 3) := by decide +kernel
theorem dX7_isRule_24 : decode cX7_isRule 24 = .ok (.iconst 1, 1) := by decide +kernel
theorem dX7_isRule_25 : decode cX7_isRule 25 = .ok (.goto 4, 3) := by decide +kernel
theorem dX7_isRule_28 : decode cX7_isRule 28 = .ok (.iconst 0, 1) := by decide +kernel
theorem dX7_isRule_29 : decode cX7_isRule 29 = .ok (.ireturn, 1) := by decide +kernel
set_option maxRecDepth 20000 in
theorem ggX7_part_X7_isRule : GoodIn wsX7_part wsX7_isRule := goodIn_g _ [(11, 5), (10, 1), (16, 5), (33, 79)] rfl (by decide +kernel)
set_option maxRecDepth 20000 in
theorem gX7_part_X7_isRule : GoodIn wsX7_part (wsV RX7 235 RX7 yX7_isRule wsX7_isRule) := goodIn_app (goodIn_of _ (by decide +kernel)) ggX7_part_X7_isRule
set_option maxRecDepth 20000 in
theorem ggX7_part_X7_in : GoodIn wsX7_part wsX7_in := goodIn_g _ [(20, 1)] rfl (by decide +kernel)
set_option maxRecDepth 20000 in
theorem gX7_part_X7_in : GoodIn wsX7_part (va_wsS RX7 207 yX7_in wsX7_in) := goodIn_app (goodIn_of _ (by decide +kernel)) ggX7_part_X7_in
set_option maxRecDepth 20000 in
theorem ggX7_part_X7_partAt : GoodIn wsX7_part wsX7_partAt := goodIn_g _ [(24, 1), (5, 1), (4, 1), (33, 79)] rfl (by decide +kernel)
set_option maxRecDepth 20000 in
theorem gX7_part_X7_partAt : GoodIn wsX7_part (wsV RX7 239 RX7 yX7_partAt wsX7_partAt) := goodIn_app (goodIn_of _ (by decide +kernel)) ggX7_part_X7_partAt
set_option maxRecDepth 20000 in
theorem ggX7_part_X7_changes : GoodIn wsX7_part wsX7_changes := goodIn_g _ [(28, 84)] rfl (by decide +kernel)
set_option maxRecDepth 20000 in
theorem gX7_part_X7_changes : GoodIn wsX7_part (wsV RX7 218 RX7 yX7_changes wsX7_changes) := goodIn_app (goodIn_of _ (by decide +kernel)) ggX7_part_X7_changes
theorem dX7_part_0 : decode cX7_part 0 = .ok (.aload_n 0, 1) := by decide +kernel
theorem dX7_part_1 : decode cX7_part 1 = .ok (.iconst 0, 1) := by decide +kernel
theorem dX7_part_2 : decode cX7_part 2 = .ok (.putfield 201, 3) := by decide +kernel
theorem dX7_part_5 : decode cX7_part 5 = .ok (.aload_n 0, 1) := by decide +kernel
theorem dX7_part_6 : decode cX7_part 6 = .ok (.iload_n 1, 1) := by decide +kernel
theorem dX7_part_7 : decode cX7_part 7 = .ok (.iload_n 2, 1) := by decide +kernel
theorem dX7_part_8 : decode cX7_part 8 = .ok (.invokevirtual 235, 3) := by decide +kernel
theorem dX7_part_11 : decode cX7_part 11 = .ok (.ifCond .eq 31, 3) := by decide +kernel
theorem dX7_part_14 : decode cX7_part 14 = .ok (.iload_n 3, 1) := by decide +kernel
theorem dX7_part_15 : decode cX7_part 15 = .ok (.iconst 0, 1) := by decide +kernel
theorem dX7_part_16 : decode cX7_part 16 = .ok (.aload_n 0, 1) := by decide +kernel
theorem dX7_part_17 : decode cX7_part 17 = .ok (.getfield 7, 3) := by decide +kernel
theorem dX7_part_20 : decode cX7_part 20 = .ok (.iload_n 1, 1) := by decide +kernel
theorem dX7_part_21 : decode cX7_part 21 = .ok (.iaload, 1) := by decide +kernel
theorem dX7_part_22 : decode cX7_part 22 = .ok (.iconst 1, 1) := by decide +kernel
theorem dX7_part_23 : decode cX7_part 23 = .ok (.isub, 1) := by decide +kernel
theorem dX7_part_24 : decode cX7_part 24 = .ok (.invokestatic 207, 3) := by decide +kernel
theorem dX7_part_27 : decode cX7_part 27 = .ok (.ifCond .eq 15, 3) := by decide +kernel
theorem dX7_part_30 : decode cX7_part 30 = .ok (.iload 4, 2) := by decide +kernel
theorem dX7_part_32 : decode cX7_part 32 = .ok (.bipush (-50), 2) := by decide +kernel
theorem dX7_part_34 : decode cX7_part 34 = .ok (.bipush 50, 2) := by decide +kernel
theorem dX7_part_36 : decode cX7_part 36 = .ok (.invokestatic 207, 3) := by decide +kernel
theorem dX7_part_39 : decode cX7_part 39 = .ok (.ifCond .ne 5, 3) := by decide +kernel
theorem dX7_part_42 : decode cX7_part 42 = .ok (.iconst (-1), 1) := by decide +kernel
theorem dX7_part_43 : decode cX7_part 43 = .ok (.ireturn, 1) := by decide +kernel
theorem dX7_part_44 : decode cX7_part 44 = .ok (.aload_n 0, 1) := by decide +kernel
theorem dX7_part_45 : decode cX7_part 45 = .ok (.getfield 62, 3) := by decide +kernel
theorem dX7_part_48 : decode cX7_part 48 = .ok (.bipush (-9), 2) := by decide +kernel
theorem dX7_part_50 : decode cX7_part 50 = .ok (.if_icmp .ne 15, 3) := by decide +kernel
theorem dX7_part_53 : decode cX7_part 53 = .ok (.aload_n 0, 1) := by decide +kernel
theorem dX7_part_54 : decode cX7_part 54 = .ok (.iload_n 1, 1) := by decide +kernel
theorem dX7_part_55 : decode cX7_part 55 = .ok (.iload_n 2, 1) := by decide +kernel
theorem dX7_part_56 : decode cX7_part 56 = .ok (.iload_n 3, 1) := by decide +kernel
theorem dX7_part_57 : decode cX7_part 57 = .ok (.invokevirtual 239, 3) := by decide +kernel
theorem dX7_part_60 : decode cX7_part 60 = .ok (.bipush (-9), 2) := by decide +kernel
theorem dX7_part_62 : decode cX7_part 62 = .ok (.if_icmp .eq 6, 3) := by decide +kernel
theorem dX7_part_65 : decode cX7_part 65 = .ok (.bipush (-2), 2) := by decide +kernel
theorem dX7_part_67 : decode cX7_part 67 = .ok (.ireturn, 1) := by decide +kernel
theorem dX7_part_68 : decode cX7_part 68 = .ok (.bipush 8, 2) := by decide +kernel
theorem dX7_part_70 : decode cX7_part 70 = .ok (.iload_n 1, 1) := by decide +kernel
theorem dX7_part_71 : decode cX7_part 71 = .ok (.imul, 1) := by decide +kernel
theorem dX7_part_72 : decode cX7_part 72 = .ok (.iload_n 2, 1) := by decide +kernel
theorem dX7_part_73 : decode cX7_part 73 = .ok (.iadd, 1) := by decide +kernel
theorem dX7_part_74 : decode cX7_part 74 = .ok (.istore 5, 2) := by decide +kernel
theorem dX7_part_76 : decode cX7_part 76 = .ok (.aload_n 0, 1) := by decide +kernel
theorem dX7_part_77 : decode cX7_part 77 = .ok (.getfield 34, 3) := by decide +kernel
theorem dX7_part_80 : decode cX7_part 80 = .ok (.bipush 6, 2) := by decide +kernel
theorem dX7_part_82 : decode cX7_part 82 = .ok (.iload 5, 2) := by decide +kernel
theorem dX7_part_84 : decode cX7_part 84 = .ok (.imul, 1) := by decide +kernel
theorem dX7_part_85 : decode cX7_part 85 = .ok (.aload_n 0, 1) := by decide +kernel
theorem dX7_part_86 : decode cX7_part 86 = .ok (.getfield 31, 3) := by decide +kernel
theorem dX7_part_89 : decode cX7_part 89 = .ok (.iload 5, 2) := by decide +kernel
theorem dX7_part_91 : decode cX7_part 91 = .ok (.iaload, 1) := by decide +kernel
theorem dX7_part_92 : decode cX7_part 92 = .ok (.iadd, 1) := by decide +kernel
theorem dX7_part_93 : decode cX7_part 93 = .ok (.iload_n 3, 1) := by decide +kernel
theorem dX7_part_94 : decode cX7_part 94 = .ok (.iastore, 1) := by decide +kernel
theorem dX7_part_95 : decode cX7_part 95 = .ok (.aload_n 0, 1) := by decide +kernel
theorem dX7_part_96 : decode cX7_part 96 = .ok (.getfield 37, 3) := by decide +kernel
theorem dX7_part_99 : decode cX7_part 99 = .ok (.bipush 6, 2) := by decide +kernel
theorem dX7_part_101 : decode cX7_part 101 = .ok (.iload 5, 2) := by decide +kernel
theorem dX7_part_103 : decode cX7_part 103 = .ok (.imul, 1) := by decide +kernel
theorem dX7_part_104 : decode cX7_part 104 = .ok (.aload_n 0, 1) := by decide +kernel
theorem dX7_part_105 : decode cX7_part 105 = .ok (.getfield 31, 3) := by decide +kernel
theorem dX7_part_108 : decode cX7_part 108 = .ok (.iload 5, 2) := by decide +kernel
theorem dX7_part_110 : decode cX7_part 110 = .ok (.iaload, 1) := by decide +kernel
theorem dX7_part_111 : decode cX7_part 111 = .ok (.iadd, 1) := by decide +kernel
theorem dX7_part_112 : decode cX7_part 112 = .ok (.iload 4, 2) := by decide +kernel
theorem dX7_part_114 : decode cX7_part 114 = .ok (.iastore, 1) := by decide +kernel
theorem dX7_part_115 : decode cX7_part 115 = .ok (.aload_n 0, 1) := by decide +kernel
theorem dX7_part_116 : decode cX7_part 116 = .ok (.getfield 31, 3) := by decide +kernel
theorem dX7_part_119 : decode cX7_part 119 = .ok (.iload 5, 2) := by decide +kernel
theorem dX7_part_121 : decode cX7_part 121 = .ok (.dup2, 1) := by decide +kernel
theorem dX7_part_122 : decode cX7_part 122 = .ok (.iaload, 1) := by decide +kernel
theorem dX7_part_123 : decode cX7_part 123 = .ok (.iconst 1, 1) := by decide +kernel
theorem dX7_part_124 : decode cX7_part 124 = .ok (.iadd, 1) := by decide +kernel
theorem dX7_part_125 : decode cX7_part 125 = .ok (.iastore, 1) := by decide +kernel
theorem dX7_part_126 : decode cX7_part 126 = .ok (.aload_n 0, 1) := by decide +kernel
theorem dX7_part_127 : decode cX7_part 127 = .ok (.iload_n 1, 1) := by decide +kernel
theorem dX7_part_128 : decode cX7_part 128 = .ok (.invokevirtual 218, 3) := by decide +kernel
theorem dX7_part_131 : decode cX7_part 131 = .ok (.aload_n 0, 1) := by decide +kernel
theorem dX7_part_132 : decode cX7_part 132 = .ok (.getfield 31, 3) := by decide +kernel
theorem dX7_part_135 : decode cX7_part 135 = .ok (.iload 5, 2) := by decide +kernel
theorem dX7_part_137 : decode cX7_part 137 = .ok (.iaload, 1) := by decide +kernel
theorem dX7_part_138 : decode cX7_part 138 = .ok (.ireturn, 1) := by decide +kernel
set_option maxRecDepth 20000 in
theorem ggX7_number_X7_isRule : GoodIn wsX7_number wsX7_isRule := goodIn_g _ [(9, 5), (8, 1), (14, 5), (32, 79)] rfl (by decide +kernel)
set_option maxRecDepth 20000 in
theorem gX7_number_X7_isRule : GoodIn wsX7_number (wsV RX7 235 RX7 yX7_isRule wsX7_isRule) := goodIn_app (goodIn_of _ (by decide +kernel)) ggX7_number_X7_isRule
set_option maxRecDepth 20000 in
theorem ggX7_number_X7_in : GoodIn wsX7_number wsX7_in := goodIn_g _ [(18, 1)] rfl (by decide +kernel)
set_option maxRecDepth 20000 in
theorem gX7_number_X7_in : GoodIn wsX7_number (va_wsS RX7 207 yX7_in wsX7_in) := goodIn_app (goodIn_of _ (by decide +kernel)) ggX7_number_X7_in
set_option maxRecDepth 20000 in
theorem ggX7_number_X7_no : GoodIn wsX7_number wsX7_no := goodIn_g _ [(22, 1), (2, 1), (23, 1), (32, 79)] rfl (by decide +kernel)
set_option maxRecDepth 20000 in
theorem gX7_number_X7_no : GoodIn wsX7_number (wsV RX7 230 RX7 yX7_no wsX7_no) := goodIn_app (goodIn_of _ (by decide +kernel)) ggX7_number_X7_no
set_option maxRecDepth 20000 in
theorem ggX7_number_X7_changes : GoodIn wsX7_number wsX7_changes := goodIn_g _ [(27, 84)] rfl (by decide +kernel)
set_option maxRecDepth 20000 in
theorem gX7_number_X7_changes : GoodIn wsX7_number (wsV RX7 218 RX7 yX7_changes wsX7_changes) := goodIn_app (goodIn_of _ (by decide +kernel)) ggX7_number_X7_changes
theorem dX7_number_0 : decode cX7_number 0 = .ok (.aload_n 0, 1) := by decide +kernel
theorem dX7_number_1 : decode cX7_number 1 = .ok (.iconst 0, 1) := by decide +kernel
theorem dX7_number_2 : decode cX7_number 2 = .ok (.putfield 201, 3) := by decide +kernel
theorem dX7_number_5 : decode cX7_number 5 = .ok (.aload_n 0, 1) := by decide +kernel
theorem dX7_number_6 : decode cX7_number 6 = .ok (.iconst 0, 1) := by decide +kernel
theorem dX7_number_7 : decode cX7_number 7 = .ok (.putfield 221, 3) := by decide +kernel
theorem dX7_number_10 : decode cX7_number 10 = .ok (.aload_n 0, 1) := by decide +kernel
theorem dX7_number_11 : decode cX7_number 11 = .ok (.iload_n 1, 1) := by decide +kernel
theorem dX7_number_12 : decode cX7_number 12 = .ok (.iload_n 2, 1) := by decide +kernel
theorem dX7_number_13 : decode cX7_number 13 = .ok (.invokevirtual 235, 3) := by decide +kernel
theorem dX7_number_16 : decode cX7_number 16 = .ok (.ifCond .eq 16, 3) := by decide +kernel
theorem dX7_number_19 : decode cX7_number 19 = .ok (.iload_n 3, 1) := by decide +kernel
theorem dX7_number_20 : decode cX7_number 20 = .ok (.sipush (-1000), 3) := by decide +kernel
theorem dX7_number_23 : decode cX7_number 23 = .ok (.sipush 1000, 3) := by decide +kernel
theorem dX7_number_26 : decode cX7_number 26 = .ok (.invokestatic 207, 3) := by decide +kernel
theorem dX7_number_29 : decode cX7_number 29 = .ok (.ifCond .ne 9, 3) := by decide +kernel
theorem dX7_number_32 : decode cX7_number 32 = .ok (.aload_n 0, 1) := by decide +kernel
theorem dX7_number_33 : decode cX7_number 33 = .ok (.iconst (-1), 1) := by decide +kernel
theorem dX7_number_34 : decode cX7_number 34 = .ok (.invokevirtual 230, 3) := by decide +kernel
theorem dX7_number_37 : decode cX7_number 37 = .ok (.ireturn, 1) := by decide +kernel
theorem dX7_number_38 : decode cX7_number 38 = .ok (.aload_n 0, 1) := by decide +kernel
theorem dX7_number_39 : decode cX7_number 39 = .ok (.getfield 62, 3) := by decide +kernel
theorem dX7_number_42 : decode cX7_number 42 = .ok (.bipush (-9), 2) := by decide +kernel
theorem dX7_number_44 : decode cX7_number 44 = .ok (.if_icmp .eq 10, 3) := by decide +kernel
theorem dX7_number_47 : decode cX7_number 47 = .ok (.aload_n 0, 1) := by decide +kernel
theorem dX7_number_48 : decode cX7_number 48 = .ok (.bipush (-2), 2) := by decide +kernel
theorem dX7_number_50 : decode cX7_number 50 = .ok (.invokevirtual 230, 3) := by decide +kernel
theorem dX7_number_53 : decode cX7_number 53 = .ok (.ireturn, 1) := by decide +kernel
theorem dX7_number_54 : decode cX7_number 54 = .ok (.aload_n 0, 1) := by decide +kernel
theorem dX7_number_55 : decode cX7_number 55 = .ok (.getfield 28, 3) := by decide +kernel
theorem dX7_number_58 : decode cX7_number 58 = .ok (.bipush 8, 2) := by decide +kernel
theorem dX7_number_60 : decode cX7_number 60 = .ok (.iload_n 1, 1) := by decide +kernel
theorem dX7_number_61 : decode cX7_number 61 = .ok (.imul, 1) := by decide +kernel
theorem dX7_number_62 : decode cX7_number 62 = .ok (.iload_n 2, 1) := by decide +kernel
theorem dX7_number_63 : decode cX7_number 63 = .ok (.iadd, 1) := by decide +kernel
theorem dX7_number_64 : decode cX7_number 64 = .ok (.iaload, 1) := by decide +kernel
theorem dX7_number_65 : decode cX7_number 65 = .ok (.istore 4, 2) := by decide +kernel
theorem dX7_number_67 : decode cX7_number 67 = .ok (.aload_n 0, 1) := by decide +kernel
theorem dX7_number_68 : decode cX7_number 68 = .ok (.getfield 28, 3) := by decide +kernel
theorem dX7_number_71 : decode cX7_number 71 = .ok (.bipush 8, 2) := by decide +kernel
theorem dX7_number_73 : decode cX7_number 73 = .ok (.iload_n 1, 1) := by decide +kernel
theorem dX7_number_74 : decode cX7_number 74 = .ok (.imul, 1) := by decide +kernel
theorem dX7_number_75 : decode cX7_number 75 = .ok (.iload_n 2, 1) := by decide +kernel
theorem dX7_number_76 : decode cX7_number 76 = .ok (.iadd, 1) := by decide +kernel
theorem dX7_number_77 : decode cX7_number 77 = .ok (.iload_n 3, 1) := by decide +kernel
theorem dX7_number_78 : decode cX7_number 78 = .ok (.iastore, 1) := by decide +kernel
theorem dX7_number_79 : decode cX7_number 79 = .ok (.aload_n 0, 1) := by decide +kernel
theorem dX7_number_80 : decode cX7_number 80 = .ok (.iload_n 1, 1) := by decide +kernel
theorem dX7_number_81 : decode cX7_number 81 = .ok (.invokevirtual 218, 3) := by decide +kernel
theorem dX7_number_84 : decode cX7_number 84 = .ok (.iload 4, 2) := by decide +kernel
theorem dX7_number_86 : decode cX7_number 86 = .ok (.ireturn, 1) := by decide +kernel
set_option maxRecDepth 20000 in
theorem ggX7_helpers_X7_in : GoodIn wsX7_helpers wsX7_in := goodIn_g _ [(8, 1)] rfl (by decide +kernel)
set_option maxRecDepth 20000 in
theorem gX7_helpers_X7_in : GoodIn wsX7_helpers (va_wsS RX7 207 yX7_in wsX7_in) := goodIn_app (goodIn_of _ (by decide +kernel)) ggX7_helpers_X7_in
theorem dX7_helpers_0 : decode cX7_helpers 0 = .ok (.aload_n 0, 1) := by decide +kernel
theorem dX7_helpers_1 : decode cX7_helpers 1 = .ok (.iconst 0, 1) := by decide +kernel
theorem dX7_helpers_2 : decode cX7_helpers 2 = .ok (.putfield 201, 3) := by decide +kernel
theorem dX7_helpers_5 : decode cX7_helpers 5 = .ok (.iload_n 1, 1) := by decide +kernel
theorem dX7_helpers_6 : decode cX7_helpers 6 = .ok (.iconst 1, 1) := by decide +kernel
theorem dX7_helpers_7 : decode cX7_helpers 7 = .ok (.iconst 5, 1) := by decide +kernel
theorem dX7_helpers_8 : decode cX7_helpers 8 = .ok (.invokestatic 207, 3) := by decide +kernel
theorem dX7_helpers_11 : decode cX7_helpers 11 = .ok (.ifCond .ne 5, 3) := by decide +kernel
theorem dX7_helpers_14 : decode cX7_helpers 14 = .ok (.iconst (-1), 1) := by decide +kernel
theorem dX7_helpers_15 : decode cX7_helpers 15 = .ok (.ireturn, 1) := by decide +kernel
theorem dX7_helpers_16 : decode cX7_helpers 16 = .ok (.aload_n 0, 1) := by decide +kernel
theorem dX7_helpers_17 : decode cX7_helpers 17 = .ok (.getfield 62, 3) := by decide +kernel
theorem dX7_helpers_20 : decode cX7_helpers 20 = .ok (.bipush (-9), 2) := by decide +kernel
theorem dX7_helpers_22 : decode cX7_helpers 22 = .ok (.if_icmp .eq 6, 3) := by decide +kernel
theorem dX7_helpers_25 : decode cX7_helpers 25 = .ok (.bipush (-2), 2) := by decide +kernel
theorem dX7_helpers_27 : decode cX7_helpers 27 = .ok (.ireturn, 1) := by decide +kernel
theorem dX7_helpers_28 : decode cX7_helpers 28 = .ok (.aload_n 0, 1) := by decide +kernel
theorem dX7_helpers_29 : decode cX7_helpers 29 = .ok (.getfield 43, 3) := by decide +kernel
theorem dX7_helpers_32 : decode cX7_helpers 32 = .ok (.istore_n 2, 1) := by decide +kernel
theorem dX7_helpers_33 : decode cX7_helpers 33 = .ok (.aload_n 0, 1) := by decide +kernel
theorem dX7_helpers_34 : decode cX7_helpers 34 = .ok (.iload_n 1, 1) := by decide +kernel
theorem dX7_helpers_35 : decode cX7_helpers 35 = .ok (.putfield 43, 3) := by decide +kernel
theorem dX7_helpers_38 : decode cX7_helpers 38 = .ok (.iconst 0, 1) := by decide +kernel
theorem dX7_helpers_39 : decode cX7_helpers 39 = .ok (.istore_n 3, 1) := by decide +kernel
theorem dX7_helpers_40 : decode cX7_helpers 40 = .ok (.iload_n 3, 1) := by decide +kernel
theorem dX7_helpers_41 : decode cX7_helpers 41 = .ok (.iconst 5, 1) := by decide +kernel
theorem dX7_helpers_42 : decode cX7_helpers 42 = .ok (.if_icmp .ge 16, 3) := by decide +kernel
theorem dX7_helpers_45 : decode cX7_helpers 45 = .ok (.aload_n 0, 1) := by decide +kernel
theorem dX7_helpers_46 : decode cX7_helpers 46 = .ok (.getfield 47, 3) := by decide +kernel
theorem dX7_helpers_49 : decode cX7_helpers 49 = .ok (.iload_n 3, 1) := by decide +kernel
theorem dX7_helpers_50 : decode cX7_helpers 50 = .ok (.iconst 0, 1) := by decide +kernel
theorem dX7_helpers_51 : decode cX7_helpers 51 = .ok (.iastore, 1) := by decide +kernel
theorem dX7_helpers_52 : decode cX7_helpers 52 = .ok (.iinc 3 1, 3) := by decide +kernel
theorem dX7_helpers_55 : decode cX7_helpers 55 = .ok (.goto (-15), 3) := by decide +kernel
theorem dX7_helpers_58 : decode cX7_helpers 58 = .ok (.iload_n 2, 1) := by decide +kernel
theorem dX7_helpers_59 : decode cX7_helpers 59 = .ok (.ireturn, 1) := by decide +kernel
set_option maxRecDepth 20000 in
theorem ggX7_fail_X7_in : GoodIn wsX7_fail wsX7_in := goodIn_g _ [(8, 1)] rfl (by decide +kernel)
set_option maxRecDepth 20000 in
theorem gX7_fail_X7_in : GoodIn wsX7_fail (va_wsS RX7 207 yX7_in wsX7_in) := goodIn_app (goodIn_of _ (by decide +kernel)) ggX7_fail_X7_in
theorem dX7_fail_0 : decode cX7_fail 0 = .ok (.aload_n 0, 1) := by decide +kernel
theorem dX7_fail_1 : decode cX7_fail 1 = .ok (.iconst 0, 1) := by decide +kernel
theorem dX7_fail_2 : decode cX7_fail 2 = .ok (.putfield 201, 3) := by decide +kernel
theorem dX7_fail_5 : decode cX7_fail 5 = .ok (.iload_n 1, 1) := by decide +kernel
theorem dX7_fail_6 : decode cX7_fail 6 = .ok (.iconst 0, 1) := by decide +kernel
theorem dX7_fail_7 : decode cX7_fail 7 = .ok (.aload_n 0, 1) := by decide +kernel
theorem dX7_fail_8 : decode cX7_fail 8 = .ok (.getfield 43, 3) := by decide +kernel
theorem dX7_fail_11 : decode cX7_fail 11 = .ok (.iconst 1, 1) := by decide +kernel
theorem dX7_fail_12 : decode cX7_fail 12 = .ok (.isub, 1) := by decide +kernel
theorem dX7_fail_13 : decode cX7_fail 13 = .ok (.invokestatic 207, 3) := by decide +kernel
theorem dX7_fail_16 : decode cX7_fail 16 = .ok (.ifCond .eq 14, 3) := by decide +kernel
theorem dX7_fail_19 : decode cX7_fail 19 = .ok (.iload_n 2, 1) := by decide +kernel
theorem dX7_fail_20 : decode cX7_fail 20 = .ok (.iconst 0, 1) := by decide +kernel
theorem dX7_fail_21 : decode cX7_fail 21 = .ok (.sipush 200, 3) := by decide +kernel
theorem dX7_fail_24 : decode cX7_fail 24 = .ok (.invokestatic 207, 3) := by decide +kernel
theorem dX7_fail_27 : decode cX7_fail 27 = .ok (.ifCond .ne 5, 3) := by decide +kernel
theorem dX7_fail_30 : decode cX7_fail 30 = .ok (.iconst (-1), 1) := by decide +kernel
theorem dX7_fail_31 : decode cX7_fail 31 = .ok (.ireturn, 1) := by decide +kernel
theorem dX7_fail_32 : decode cX7_fail 32 = .ok (.aload_n 0, 1) := by decide +kernel
theorem dX7_fail_33 : decode cX7_fail 33 = .ok (.getfield 62, 3) := by decide +kernel
theorem dX7_fail_36 : decode cX7_fail 36 = .ok (.bipush (-9), 2) := by decide +kernel
theorem dX7_fail_38 : decode cX7_fail 38 = .ok (.if_icmp .eq 6, 3) := by decide +kernel
theorem dX7_fail_41 : decode cX7_fail 41 = .ok (.bipush (-2), 2) := by decide +kernel
theorem dX7_fail_43 : decode cX7_fail 43 = .ok (.ireturn, 1) := by decide +kernel
theorem dX7_fail_44 : decode cX7_fail 44 = .ok (.aload_n 0, 1) := by decide +kernel
theorem dX7_fail_45 : decode cX7_fail 45 = .ok (.getfield 47, 3) := by decide +kernel
theorem dX7_fail_48 : decode cX7_fail 48 = .ok (.iload_n 1, 1) := by decide +kernel
theorem dX7_fail_49 : decode cX7_fail 49 = .ok (.iload_n 2, 1) := by decide +kernel
theorem dX7_fail_50 : decode cX7_fail 50 = .ok (.iastore, 1) := by decide +kernel
theorem dX7_fail_51 : decode cX7_fail 51 = .ok (.iconst 1, 1) := by decide +kernel
theorem dX7_fail_52 : decode cX7_fail 52 = .ok (.ireturn, 1) := by decide +kernel
set_option maxRecDepth 20000 in
theorem ggX7_turn_X7_in : GoodIn wsX7_turn wsX7_in := goodIn_g _ [(8, 1)] rfl (by decide +kernel)
set_option maxRecDepth 20000 in
theorem gX7_turn_X7_in : GoodIn wsX7_turn (va_wsS RX7 207 yX7_in wsX7_in) := goodIn_app (goodIn_of _ (by decide +kernel)) ggX7_turn_X7_in
theorem dX7_turn_0 : decode cX7_turn 0 = .ok (.aload_n 0, 1) := by decide +kernel
theorem dX7_turn_1 : decode cX7_turn 1 = .ok (.iconst 0, 1) := by decide +kernel
theorem dX7_turn_2 : decode cX7_turn 2 = .ok (.putfield 201, 3) := by decide +kernel
theorem dX7_turn_5 : decode cX7_turn 5 = .ok (.iload_n 1, 1) := by decide +kernel
theorem dX7_turn_6 : decode cX7_turn 6 = .ok (.iconst 0, 1) := by decide +kernel
theorem dX7_turn_7 : decode cX7_turn 7 = .ok (.iconst 4, 1) := by decide +kernel
theorem dX7_turn_8 : decode cX7_turn 8 = .ok (.invokestatic 207, 3) := by decide +kernel
theorem dX7_turn_11 : decode cX7_turn 11 = .ok (.ifCond .ne 5, 3) := by decide +kernel
theorem dX7_turn_14 : decode cX7_turn 14 = .ok (.iconst (-1), 1) := by decide +kernel
theorem dX7_turn_15 : decode cX7_turn 15 = .ok (.ireturn, 1) := by decide +kernel
theorem dX7_turn_16 : decode cX7_turn 16 = .ok (.aload_n 0, 1) := by decide +kernel
theorem dX7_turn_17 : decode cX7_turn 17 = .ok (.getfield 62, 3) := by decide +kernel
theorem dX7_turn_20 : decode cX7_turn 20 = .ok (.bipush (-9), 2) := by decide +kernel
theorem dX7_turn_22 : decode cX7_turn 22 = .ok (.if_icmp .eq 6, 3) := by decide +kernel
theorem dX7_turn_25 : decode cX7_turn 25 = .ok (.bipush (-2), 2) := by decide +kernel
theorem dX7_turn_27 : decode cX7_turn 27 = .ok (.ireturn, 1) := by decide +kernel
theorem dX7_turn_28 : decode cX7_turn 28 = .ok (.aload_n 0, 1) := by decide +kernel
theorem dX7_turn_29 : decode cX7_turn 29 = .ok (.getfield 243, 3) := by decide +kernel
theorem dX7_turn_32 : decode cX7_turn 32 = .ok (.sipush 200, 3) := by decide +kernel
theorem dX7_turn_35 : decode cX7_turn 35 = .ok (.if_icmp .ne 6, 3) := by decide +kernel
theorem dX7_turn_38 : decode cX7_turn 38 = .ok (.bipush (-3), 2) := by decide +kernel
theorem dX7_turn_40 : decode cX7_turn 40 = .ok (.ireturn, 1) := by decide +kernel
theorem dX7_turn_41 : decode cX7_turn 41 = .ok (.aload_n 0, 1) := by decide +kernel
theorem dX7_turn_42 : decode cX7_turn 42 = .ok (.getfield 50, 3) := by decide +kernel
theorem dX7_turn_45 : decode cX7_turn 45 = .ok (.aload_n 0, 1) := by decide +kernel
theorem dX7_turn_46 : decode cX7_turn 46 = .ok (.getfield 243, 3) := by decide +kernel
theorem dX7_turn_49 : decode cX7_turn 49 = .ok (.iload_n 1, 1) := by decide +kernel
theorem dX7_turn_50 : decode cX7_turn 50 = .ok (.iastore, 1) := by decide +kernel
theorem dX7_turn_51 : decode cX7_turn 51 = .ok (.aload_n 0, 1) := by decide +kernel
theorem dX7_turn_52 : decode cX7_turn 52 = .ok (.dup, 1) := by decide +kernel
theorem dX7_turn_53 : decode cX7_turn 53 = .ok (.getfield 243, 3) := by decide +kernel
theorem dX7_turn_56 : decode cX7_turn 56 = .ok (.iconst 1, 1) := by decide +kernel
theorem dX7_turn_57 : decode cX7_turn 57 = .ok (.iadd, 1) := by decide +kernel
theorem dX7_turn_58 : decode cX7_turn 58 = .ok (.putfield 243, 3) := by decide +kernel
theorem dX7_turn_61 : decode cX7_turn 61 = .ok (.aload_n 0, 1) := by decide +kernel
theorem dX7_turn_62 : decode cX7_turn 62 = .ok (.getfield 243, 3) := by decide +kernel
theorem dX7_turn_65 : decode cX7_turn 65 = .ok (.ireturn, 1) := by decide +kernel
theorem dX7_plain_0 : decode cX7_plain 0 = .ok (.aload_n 0, 1) := by decide +kernel
theorem dX7_plain_1 : decode cX7_plain 1 = .ok (.iconst 0, 1) := by decide +kernel
theorem dX7_plain_2 : decode cX7_plain 2 = .ok (.putfield 201, 3) := by decide +kernel
theorem dX7_plain_5 : decode cX7_plain 5 = .ok (.aload_n 0, 1) := by decide +kernel
theorem dX7_plain_6 : decode cX7_plain 6 = .ok (.getfield 62, 3) := by decide +kernel
theorem dX7_plain_9 : decode cX7_plain 9 = .ok (.bipush (-9), 2) := by decide +kernel
theorem dX7_plain_11 : decode cX7_plain 11 = .ok (.if_icmp .eq 6, 3) := by decide +kernel
theorem dX7_plain_14 : decode cX7_plain 14 = .ok (.bipush (-2), 2) := by decide +kernel
theorem dX7_plain_16 : decode cX7_plain 16 = .ok (.ireturn, 1) := by decide +kernel
theorem dX7_plain_17 : decode cX7_plain 17 = .ok (.aload_n 0, 1) := by decide +kernel
theorem dX7_plain_18 : decode cX7_plain 18 = .ok (.getfield 243, 3) := by decide +kernel
theorem dX7_plain_21 : decode cX7_plain 21 = .ok (.istore_n 1, 1) := by decide +kernel
theorem dX7_plain_22 : decode cX7_plain 22 = .ok (.aload_n 0, 1) := by decide +kernel
theorem dX7_plain_23 : decode cX7_plain 23 = .ok (.iconst 0, 1) := by decide +kernel
theorem dX7_plain_24 : decode cX7_plain 24 = .ok (.putfield 243, 3) := by decide +kernel
theorem dX7_plain_27 : decode cX7_plain 27 = .ok (.iload_n 1, 1) := by decide +kernel
theorem dX7_plain_28 : decode cX7_plain 28 = .ok (.ireturn, 1) := by decide +kernel
set_option maxRecDepth 20000 in
theorem ggX7_limit_X7_in : GoodIn wsX7_limit wsX7_in := goodIn_g _ [(7, 1)] rfl (by decide +kernel)
set_option maxRecDepth 20000 in
theorem gX7_limit_X7_in : GoodIn wsX7_limit (va_wsS RX7 207 yX7_in wsX7_in) := goodIn_app (goodIn_of _ (by decide +kernel)) ggX7_limit_X7_in
theorem dX7_limit_0 : decode cX7_limit 0 = .ok (.aload_n 0, 1) := by decide +kernel
theorem dX7_limit_1 : decode cX7_limit 1 = .ok (.iconst 0, 1) := by decide +kernel
theorem dX7_limit_2 : decode cX7_limit 2 = .ok (.putfield 201, 3) := by decide +kernel
theorem dX7_limit_5 : decode cX7_limit 5 = .ok (.iload_n 1, 1) := by decide +kernel
theorem dX7_limit_6 : decode cX7_limit 6 = .ok (.iconst 0, 1) := by decide +kernel
theorem dX7_limit_7 : decode cX7_limit 7 = .ok (.sipush 1000, 3) := by decide +kernel
theorem dX7_limit_10 : decode cX7_limit 10 = .ok (.invokestatic 207, 3) := by decide +kernel
theorem dX7_limit_13 : decode cX7_limit 13 = .ok (.ifCond .ne 5, 3) := by decide +kernel
theorem dX7_limit_16 : decode cX7_limit 16 = .ok (.iconst (-1), 1) := by decide +kernel
theorem dX7_limit_17 : decode cX7_limit 17 = .ok (.ireturn, 1) := by decide +kernel
theorem dX7_limit_18 : decode cX7_limit 18 = .ok (.aload_n 0, 1) := by decide +kernel
theorem dX7_limit_19 : decode cX7_limit 19 = .ok (.getfield 62, 3) := by decide +kernel
theorem dX7_limit_22 : decode cX7_limit 22 = .ok (.bipush (-9), 2) := by decide +kernel
theorem dX7_limit_24 : decode cX7_limit 24 = .ok (.if_icmp .eq 6, 3) := by decide +kernel
theorem dX7_limit_27 : decode cX7_limit 27 = .ok (.bipush (-2), 2) := by decide +kernel
theorem dX7_limit_29 : decode cX7_limit 29 = .ok (.ireturn, 1) := by decide +kernel
theorem dX7_limit_30 : decode cX7_limit 30 = .ok (.aload_n 0, 1) := by decide +kernel
theorem dX7_limit_31 : decode cX7_limit 31 = .ok (.getfield 246, 3) := by decide +kernel
theorem dX7_limit_34 : decode cX7_limit 34 = .ok (.istore_n 2, 1) := by decide +kernel
theorem dX7_limit_35 : decode cX7_limit 35 = .ok (.aload_n 0, 1) := by decide +kernel
theorem dX7_limit_36 : decode cX7_limit 36 = .ok (.iload_n 1, 1) := by decide +kernel
theorem dX7_limit_37 : decode cX7_limit 37 = .ok (.putfield 246, 3) := by decide +kernel
theorem dX7_limit_40 : decode cX7_limit 40 = .ok (.iload_n 2, 1) := by decide +kernel
theorem dX7_limit_41 : decode cX7_limit 41 = .ok (.ireturn, 1) := by decide +kernel
theorem dX7_isLoaded_0 : decode cX7_isLoaded 0 = .ok (.iconst 0, 1) := by decide +kernel
theorem dX7_isLoaded_1 : decode cX7_isLoaded 1 = .ok (.istore_n 2, 1) := by decide +kernel
theorem dX7_isLoaded_2 : decode cX7_isLoaded 2 = .ok (.iload_n 2, 1) := by decide +kernel
theorem dX7_isLoaded_3 : decode cX7_isLoaded 3 = .ok (.bipush 6, 2) := by decide +kernel
theorem dX7_isLoaded_5 : decode cX7_isLoaded 5 = .ok (.if_icmp .ge 108, 3) := by decide +kernel
theorem dX7_isLoaded_8 : decode cX7_isLoaded 8 = .ok (.iconst 0, 1) := by decide +kernel
theorem dX7_isLoaded_9 : decode cX7_isLoaded 9 = .ok (.istore_n 3, 1) := by decide +kernel
theorem dX7_isLoaded_10 : decode cX7_isLoaded 10 = .ok (.iconst 0, 1) := by decide +kernel
theorem dX7_isLoaded_11 : decode cX7_isLoaded 11 = .ok (.istore 4, 2) := by decide +kernel
theorem dX7_isLoaded_13 : decode cX7_isLoaded 13 = .ok (.iload 4, 2) := by decide +kernel
theorem dX7_isLoaded_15 : decode cX7_isLoaded 15 = .ok (.aload_n 0, 1) := by decide +kernel
theorem dX7_isLoaded_16 : decode cX7_isLoaded 16 = .ok (.getfield 31, 3) := by decide +kernel
theorem dX7_isLoaded_19 : decode cX7_isLoaded 19 = .ok (.iload_n 1, 1) := by decide +kernel
theorem dX7_isLoaded_20 : decode cX7_isLoaded 20 = .ok (.iaload, 1) := by decide +kernel
theorem dX7_isLoaded_21 : decode cX7_isLoaded 21 = .ok (.if_icmp .ge 74, 3) := by decide +kernel
theorem dX7_isLoaded_24 : decode cX7_isLoaded 24 = .ok (.aload_n 0, 1) := by decide +kernel
theorem dX7_isLoaded_25 : decode cX7_isLoaded 25 = .ok (.getfield 37, 3) := by decide +kernel
theorem dX7_isLoaded_28 : decode cX7_isLoaded 28 = .ok (.bipush 6, 2) := by decide +kernel
theorem dX7_isLoaded_30 : decode cX7_isLoaded 30 = .ok (.iload_n 1, 1) := by decide +kernel
theorem dX7_isLoaded_31 : decode cX7_isLoaded 31 = .ok (.imul, 1) := by decide +kernel
theorem dX7_isLoaded_32 : decode cX7_isLoaded 32 = .ok (.iload 4, 2) := by decide +kernel
theorem dX7_isLoaded_34 : decode cX7_isLoaded 34 = .ok (.iadd, 1) := by decide +kernel
theorem dX7_isLoaded_35 : decode cX7_isLoaded 35 = .ok (.iaload, 1) := by decide +kernel
theorem dX7_isLoaded_36 : decode cX7_isLoaded 36 = .ok (.istore 5, 2) := by decide +kernel
theorem dX7_isLoaded_38 : decode cX7_isLoaded 38 = .ok (.aload_n 0, 1) := by decide +kernel
theorem dX7_isLoaded_39 : decode cX7_isLoaded 39 = .ok (.getfield 159, 3) := by decide +kernel
theorem dX7_isLoaded_42 : decode cX7_isLoaded 42 = .ok (.aload_n 0, 1) := by decide +kernel
theorem dX7_isLoaded_43 : decode cX7_isLoaded 43 = .ok (.getfield 34, 3) := by decide +kernel
theorem dX7_isLoaded_46 : decode cX7_isLoaded 46 = .ok (.bipush 6, 2) := by decide +kernel
theorem dX7_isLoaded_48 : decode cX7_isLoaded 48 = .ok (.iload_n 1, 1) := by decide +kernel
theorem dX7_isLoaded_49 : decode cX7_isLoaded 49 = .ok (.imul, 1) := by decide +kernel
theorem dX7_isLoaded_50 : decode cX7_isLoaded 50 = .ok (.iload 4, 2) := by decide +kernel
theorem dX7_isLoaded_52 : decode cX7_isLoaded 52 = .ok (.iadd, 1) := by decide +kernel
theorem dX7_isLoaded_53 : decode cX7_isLoaded 53 = .ok (.iaload, 1) := by decide +kernel
theorem dX7_isLoaded_54 : decode cX7_isLoaded 54 = .ok (.iaload, 1) := by decide +kernel
theorem dX7_isLoaded_55 : decode cX7_isLoaded 55 = .ok (.istore 6, 2) := by decide +kernel
theorem dX7_isLoaded_57 : decode cX7_isLoaded 57 = .ok (.iload_n 3, 1) := by decide +kernel
theorem dX7_isLoaded_58 : decode cX7_isLoaded 58 = .ok (.iload 6, 2) := by decide +kernel
theorem dX7_isLoaded_60 : decode cX7_isLoaded 60 = .ok (.iload_n 2, 1) := by decide +kernel
theorem dX7_isLoaded_61 : decode cX7_isLoaded 61 = .ok (.if_icmp .ne 8, 3) := by decide +kernel
theorem dX7_isLoaded_64 : decode cX7_isLoaded 64 = .ok (.iload 5, 2) := by decide +kernel
theorem dX7_isLoaded_66 : decode cX7_isLoaded 66 = .ok (.goto 21, 3) := by decide +kernel
theorem dX7_isLoaded_69 : decode cX7_isLoaded 69 = .ok (.iload 6, 2) := by decide +kernel
theorem dX7_isLoaded_71 : decode cX7_isLoaded 71 = .ok (.bipush (-9), 2) := by decide +kernel
theorem dX7_isLoaded_73 : decode cX7_isLoaded 73 = .ok (.if_icmp .ne 13, 3) := by decide +kernel
theorem dX7_isLoaded_76 : decode cX7_isLoaded 76 = .ok (.iload 5, 2) := by decide +kernel
theorem dX7_isLoaded_78 : decode cX7_isLoaded 78 = .ok (.ifCond .ge 8, 3) := by decide +kernel
theorem dX7_isLoaded_81 : decode cX7_isLoaded 81 = .ok (.iload 5, 2) := by decide +kernel
theorem dX7_isLoaded_83 : decode cX7_isLoaded 83 = .ok (.goto 4, 3) := by decide +kernel
theorem dX7_isLoaded_86 : decode cX7_isLoaded 86 = .ok (.iconst 0, 1) := by decide +kernel
theorem dX7_isLoaded_87 : decode cX7_isLoaded 87 = .ok (.iadd, 1) := by decide +kernel
theorem dX7_isLoaded_88 : decode cX7_isLoaded 88 = .ok (.istore_n 3, 1) := by decide +kernel
theorem dX7_isLoaded_89 : decode cX7_isLoaded 89 = .ok (.iinc 4 1, 3) := by decide +kernel
theorem dX7_isLoaded_92 : decode cX7_isLoaded 92 = .ok (.goto (-79), 3) := by decide +kernel
theorem dX7_isLoaded_95 : decode cX7_isLoaded 95 = .ok (.iload_n 3, 1) := by decide +kernel
theorem dX7_isLoaded_96 : decode cX7_isLoaded 96 = .ok (.aload_n 0, 1) := by decide +kernel
theorem dX7_isLoaded_97 : decode cX7_isLoaded 97 = .ok (.getfield 28, 3) := by decide +kernel
theorem dX7_isLoaded_100 : decode cX7_isLoaded 100 = .ok (.iload_n 1, 1) := by decide +kernel
theorem dX7_isLoaded_101 : decode cX7_isLoaded 101 = .ok (.iaload, 1) := by decide +kernel
theorem dX7_isLoaded_102 : decode cX7_isLoaded 102 = .ok (.if_icmp .le 5, 3) := by decide +kernel
theorem dX7_isLoaded_105 : decode cX7_isLoaded 105 = .ok (.iconst 1, 1) := by decide +kernel
theorem dX7_isLoaded_106 : decode cX7_isLoaded 106 = .ok (.ireturn, 1) := by decide +kernel
theorem dX7_isLoaded_107 : decode cX7_isLoaded 107 = .ok (.iinc 2 1, 3) := by decide +kernel
theorem dX7_isLoaded_110 : decode cX7_isLoaded 110 = .ok (.goto (-108), 3) := by decide +kernel
theorem dX7_isLoaded_113 : decode cX7_isLoaded 113 = .ok (.iconst 0, 1) := by decide +kernel
theorem dX7_isLoaded_114 : decode cX7_isLoaded 114 = .ok (.ireturn, 1) := by decide +kernel
theorem dX7_sumOf_0 : decode cX7_sumOf 0 = .ok (.iconst 0, 1) := by decide +kernel
theorem dX7_sumOf_1 : decode cX7_sumOf 1 = .ok (.istore 4, 2) := by decide +kernel
theorem dX7_sumOf_3 : decode cX7_sumOf 3 = .ok (.iconst 0, 1) := by decide +kernel
theorem dX7_sumOf_4 : decode cX7_sumOf 4 = .ok (.istore 5, 2) := by decide +kernel
theorem dX7_sumOf_6 : decode cX7_sumOf 6 = .ok (.iload 5, 2) := by decide +kernel
theorem dX7_sumOf_8 : decode cX7_sumOf 8 = .ok (.aload_n 0, 1) := by decide +kernel
theorem dX7_sumOf_9 : decode cX7_sumOf 9 = .ok (.getfield 31, 3) := by decide +kernel
theorem dX7_sumOf_12 : decode cX7_sumOf 12 = .ok (.iload_n 2, 1) := by decide +kernel
theorem dX7_sumOf_13 : decode cX7_sumOf 13 = .ok (.iaload, 1) := by decide +kernel
theorem dX7_sumOf_14 : decode cX7_sumOf 14 = .ok (.if_icmp .ge 111, 3) := by decide +kernel
theorem dX7_sumOf_17 : decode cX7_sumOf 17 = .ok (.aload_n 0, 1) := by decide +kernel
theorem dX7_sumOf_18 : decode cX7_sumOf 18 = .ok (.getfield 37, 3) := by decide +kernel
theorem dX7_sumOf_21 : decode cX7_sumOf 21 = .ok (.bipush 6, 2) := by decide +kernel
theorem dX7_sumOf_23 : decode cX7_sumOf 23 = .ok (.iload_n 2, 1) := by decide +kernel
theorem dX7_sumOf_24 : decode cX7_sumOf 24 = .ok (.imul, 1) := by decide +kernel
theorem dX7_sumOf_25 : decode cX7_sumOf 25 = .ok (.iload 5, 2) := by decide +kernel
theorem dX7_sumOf_27 : decode cX7_sumOf 27 = .ok (.iadd, 1) := by decide +kernel
theorem dX7_sumOf_28 : decode cX7_sumOf 28 = .ok (.iaload, 1) := by decide +kernel
theorem dX7_sumOf_29 : decode cX7_sumOf 29 = .ok (.istore 6, 2) := by decide +kernel
theorem dX7_sumOf_31 : decode cX7_sumOf 31 = .ok (.aload_n 0, 1) := by decide +kernel
theorem dX7_sumOf_32 : decode cX7_sumOf 32 = .ok (.getfield 159, 3) := by decide +kernel
theorem dX7_sumOf_35 : decode cX7_sumOf 35 = .ok (.aload_n 0, 1) := by decide +kernel
theorem dX7_sumOf_36 : decode cX7_sumOf 36 = .ok (.getfield 34, 3) := by decide +kernel
theorem dX7_sumOf_39 : decode cX7_sumOf 39 = .ok (.bipush 6, 2) := by decide +kernel
theorem dX7_sumOf_41 : decode cX7_sumOf 41 = .ok (.iload_n 2, 1) := by decide +kernel
theorem dX7_sumOf_42 : decode cX7_sumOf 42 = .ok (.imul, 1) := by decide +kernel
theorem dX7_sumOf_43 : decode cX7_sumOf 43 = .ok (.iload 5, 2) := by decide +kernel
theorem dX7_sumOf_45 : decode cX7_sumOf 45 = .ok (.iadd, 1) := by decide +kernel
theorem dX7_sumOf_46 : decode cX7_sumOf 46 = .ok (.iaload, 1) := by decide +kernel
theorem dX7_sumOf_47 : decode cX7_sumOf 47 = .ok (.iaload, 1) := by decide +kernel
theorem dX7_sumOf_48 : decode cX7_sumOf 48 = .ok (.istore 7, 2) := by decide +kernel
theorem dX7_sumOf_50 : decode cX7_sumOf 50 = .ok (.aload_n 0, 1) := by decide +kernel
theorem dX7_sumOf_51 : decode cX7_sumOf 51 = .ok (.getfield 16, 3) := by decide +kernel
theorem dX7_sumOf_54 : decode cX7_sumOf 54 = .ok (.bipush 6, 2) := by decide +kernel
theorem dX7_sumOf_56 : decode cX7_sumOf 56 = .ok (.iload_n 1, 1) := by decide +kernel
theorem dX7_sumOf_57 : decode cX7_sumOf 57 = .ok (.imul, 1) := by decide +kernel
theorem dX7_sumOf_58 : decode cX7_sumOf 58 = .ok (.aload_n 0, 1) := by decide +kernel
theorem dX7_sumOf_59 : decode cX7_sumOf 59 = .ok (.getfield 34, 3) := by decide +kernel
theorem dX7_sumOf_62 : decode cX7_sumOf 62 = .ok (.bipush 6, 2) := by decide +kernel
theorem dX7_sumOf_64 : decode cX7_sumOf 64 = .ok (.iload_n 2, 1) := by decide +kernel
theorem dX7_sumOf_65 : decode cX7_sumOf 65 = .ok (.imul, 1) := by decide +kernel
theorem dX7_sumOf_66 : decode cX7_sumOf 66 = .ok (.iload 5, 2) := by decide +kernel
theorem dX7_sumOf_68 : decode cX7_sumOf 68 = .ok (.iadd, 1) := by decide +kernel
theorem dX7_sumOf_69 : decode cX7_sumOf 69 = .ok (.iaload, 1) := by decide +kernel
theorem dX7_sumOf_70 : decode cX7_sumOf 70 = .ok (.iadd, 1) := by decide +kernel
theorem dX7_sumOf_71 : decode cX7_sumOf 71 = .ok (.iaload, 1) := by decide +kernel
theorem dX7_sumOf_72 : decode cX7_sumOf 72 = .ok (.iconst 1, 1) := by decide +kernel
theorem dX7_sumOf_73 : decode cX7_sumOf 73 = .ok (.isub, 1) := by decide +kernel
theorem dX7_sumOf_74 : decode cX7_sumOf 74 = .ok (.istore 8, 2) := by decide +kernel
theorem dX7_sumOf_76 : decode cX7_sumOf 76 = .ok (.iload 4, 2) := by decide +kernel
theorem dX7_sumOf_78 : decode cX7_sumOf 78 = .ok (.iload 7, 2) := by decide +kernel
theorem dX7_sumOf_80 : decode cX7_sumOf 80 = .ok (.bipush (-9), 2) := by decide +kernel
theorem dX7_sumOf_82 : decode cX7_sumOf 82 = .ok (.if_icmp .eq 11, 3) := by decide +kernel
theorem dX7_sumOf_85 : decode cX7_sumOf 85 = .ok (.iload 6, 2) := by decide +kernel
theorem dX7_sumOf_87 : decode cX7_sumOf 87 = .ok (.iload 7, 2) := by decide +kernel
theorem dX7_sumOf_89 : decode cX7_sumOf 89 = .ok (.imul, 1) := by decide +kernel
theorem dX7_sumOf_90 : decode cX7_sumOf 90 = .ok (.goto 26, 3) := by decide +kernel
theorem dX7_sumOf_93 : decode cX7_sumOf 93 = .ok (.iload 6, 2) := by decide +kernel
theorem dX7_sumOf_95 : decode cX7_sumOf 95 = .ok (.ifCond .ge 7, 3) := by decide +kernel
theorem dX7_sumOf_98 : decode cX7_sumOf 98 = .ok (.iconst 1, 1) := by decide +kernel
theorem dX7_sumOf_99 : decode cX7_sumOf 99 = .ok (.goto 4, 3) := by decide +kernel
theorem dX7_sumOf_102 : decode cX7_sumOf 102 = .ok (.iconst 0, 1) := by decide +kernel
theorem dX7_sumOf_103 : decode cX7_sumOf 103 = .ok (.iload_n 3, 1) := by decide +kernel
theorem dX7_sumOf_104 : decode cX7_sumOf 104 = .ok (.if_icmp .ne 11, 3) := by decide +kernel
theorem dX7_sumOf_107 : decode cX7_sumOf 107 = .ok (.iload 6, 2) := by decide +kernel
theorem dX7_sumOf_109 : decode cX7_sumOf 109 = .ok (.iload 8, 2) := by decide +kernel
theorem dX7_sumOf_111 : decode cX7_sumOf 111 = .ok (.imul, 1) := by decide +kernel
theorem dX7_sumOf_112 : decode cX7_sumOf 112 = .ok (.goto 4, 3) := by decide +kernel
theorem dX7_sumOf_115 : decode cX7_sumOf 115 = .ok (.iconst 0, 1) := by decide +kernel
theorem dX7_sumOf_116 : decode cX7_sumOf 116 = .ok (.iadd, 1) := by decide +kernel
theorem dX7_sumOf_117 : decode cX7_sumOf 117 = .ok (.istore 4, 2) := by decide +kernel
theorem dX7_sumOf_119 : decode cX7_sumOf 119 = .ok (.iinc 5 1, 3) := by decide +kernel
theorem dX7_sumOf_122 : decode cX7_sumOf 122 = .ok (.goto (-116), 3) := by decide +kernel
theorem dX7_sumOf_125 : decode cX7_sumOf 125 = .ok (.iload 4, 2) := by decide +kernel
theorem dX7_sumOf_127 : decode cX7_sumOf 127 = .ok (.ireturn, 1) := by decide +kernel
theorem dX7_isNear_0 : decode cX7_isNear 0 = .ok (.iconst 0, 1) := by decide +kernel
theorem dX7_isNear_1 : decode cX7_isNear 1 = .ok (.istore_n 3, 1) := by decide +kernel
theorem dX7_isNear_2 : decode cX7_isNear 2 = .ok (.iload_n 3, 1) := by decide +kernel
theorem dX7_isNear_3 : decode cX7_isNear 3 = .ok (.aload_n 0, 1) := by decide +kernel
theorem dX7_isNear_4 : decode cX7_isNear 4 = .ok (.getfield 31, 3) := by decide +kernel
theorem dX7_isNear_7 : decode cX7_isNear 7 = .ok (.iload_n 1, 1) := by decide +kernel
theorem dX7_isNear_8 : decode cX7_isNear 8 = .ok (.iaload, 1) := by decide +kernel
theorem dX7_isNear_9 : decode cX7_isNear 9 = .ok (.if_icmp .ge 119, 3) := by decide +kernel
theorem dX7_isNear_12 : decode cX7_isNear 12 = .ok (.iconst 0, 1) := by decide +kernel
theorem dX7_isNear_13 : decode cX7_isNear 13 = .ok (.istore 4, 2) := by decide +kernel
theorem dX7_isNear_15 : decode cX7_isNear 15 = .ok (.iload 4, 2) := by decide +kernel
theorem dX7_isNear_17 : decode cX7_isNear 17 = .ok (.iload_n 3, 1) := by decide +kernel
theorem dX7_isNear_18 : decode cX7_isNear 18 = .ok (.if_icmp .ge 104, 3) := by decide +kernel
theorem dX7_isNear_21 : decode cX7_isNear 21 = .ok (.aload_n 0, 1) := by decide +kernel
theorem dX7_isNear_22 : decode cX7_isNear 22 = .ok (.getfield 159, 3) := by decide +kernel
theorem dX7_isNear_25 : decode cX7_isNear 25 = .ok (.aload_n 0, 1) := by decide +kernel
theorem dX7_isNear_26 : decode cX7_isNear 26 = .ok (.getfield 34, 3) := by decide +kernel
theorem dX7_isNear_29 : decode cX7_isNear 29 = .ok (.bipush 6, 2) := by decide +kernel
theorem dX7_isNear_31 : decode cX7_isNear 31 = .ok (.iload_n 1, 1) := by decide +kernel
theorem dX7_isNear_32 : decode cX7_isNear 32 = .ok (.imul, 1) := by decide +kernel
theorem dX7_isNear_33 : decode cX7_isNear 33 = .ok (.iload_n 3, 1) := by decide +kernel
theorem dX7_isNear_34 : decode cX7_isNear 34 = .ok (.iadd, 1) := by decide +kernel
theorem dX7_isNear_35 : decode cX7_isNear 35 = .ok (.iaload, 1) := by decide +kernel
theorem dX7_isNear_36 : decode cX7_isNear 36 = .ok (.iaload, 1) := by decide +kernel
theorem dX7_isNear_37 : decode cX7_isNear 37 = .ok (.istore 5, 2) := by decide +kernel
theorem dX7_isNear_39 : decode cX7_isNear 39 = .ok (.aload_n 0, 1) := by decide +kernel
theorem dX7_isNear_40 : decode cX7_isNear 40 = .ok (.getfield 159, 3) := by decide +kernel
theorem dX7_isNear_43 : decode cX7_isNear 43 = .ok (.aload_n 0, 1) := by decide +kernel
theorem dX7_isNear_44 : decode cX7_isNear 44 = .ok (.getfield 34, 3) := by decide +kernel
theorem dX7_isNear_47 : decode cX7_isNear 47 = .ok (.bipush 6, 2) := by decide +kernel
theorem dX7_isNear_49 : decode cX7_isNear 49 = .ok (.iload_n 1, 1) := by decide +kernel
theorem dX7_isNear_50 : decode cX7_isNear 50 = .ok (.imul, 1) := by decide +kernel
theorem dX7_isNear_51 : decode cX7_isNear 51 = .ok (.iload 4, 2) := by decide +kernel
theorem dX7_isNear_53 : decode cX7_isNear 53 = .ok (.iadd, 1) := by decide +kernel
theorem dX7_isNear_54 : decode cX7_isNear 54 = .ok (.iaload, 1) := by decide +kernel
theorem dX7_isNear_55 : decode cX7_isNear 55 = .ok (.iaload, 1) := by decide +kernel
theorem dX7_isNear_56 : decode cX7_isNear 56 = .ok (.istore 6, 2) := by decide +kernel
theorem dX7_isNear_58 : decode cX7_isNear 58 = .ok (.iload 5, 2) := by decide +kernel
theorem dX7_isNear_60 : decode cX7_isNear 60 = .ok (.iload 6, 2) := by decide +kernel
theorem dX7_isNear_62 : decode cX7_isNear 62 = .ok (.if_icmp .ge 11, 3) := by decide +kernel
theorem dX7_isNear_65 : decode cX7_isNear 65 = .ok (.iload 6, 2) := by decide +kernel
theorem dX7_isNear_67 : decode cX7_isNear 67 = .ok (.iload 5, 2) := by decide +kernel
theorem dX7_isNear_69 : decode cX7_isNear 69 = .ok (.isub, 1) := by decide +kernel
theorem dX7_isNear_70 : decode cX7_isNear 70 = .ok (.goto 8, 3) := by decide +kernel
theorem dX7_isNear_73 : decode cX7_isNear 73 = .ok (.iload 5, 2) := by decide +kernel
theorem dX7_isNear_75 : decode cX7_isNear 75 = .ok (.iload 6, 2) := by decide +kernel
theorem dX7_isNear_77 : decode cX7_isNear 77 = .ok (.isub, 1) := by decide +kernel
theorem dX7_isNear_78 : decode cX7_isNear 78 = .ok (.istore 7, 2) := by decide +kernel
theorem dX7_isNear_80 : decode cX7_isNear 80 = .ok (.iload 5, 2) := by decide +kernel
theorem dX7_isNear_82 : decode cX7_isNear 82 = .ok (.bipush (-9), 2) := by decide +kernel
theorem dX7_isNear_84 : decode cX7_isNear 84 = .ok (.if_icmp .eq 32, 3) := by decide +kernel
theorem dX7_isNear_87 : decode cX7_isNear 87 = .ok (.iload 6, 2) := by decide +kernel
theorem dX7_isNear_89 : decode cX7_isNear 89 = .ok (.bipush (-9), 2) := by decide +kernel
theorem dX7_isNear_91 : decode cX7_isNear 91 = .ok (.if_icmp .eq 25, 3) := by decide +kernel
theorem dX7_isNear_94 : decode cX7_isNear 94 = .ok (.iload 7, 2) := by decide +kernel
theorem dX7_isNear_96 : decode cX7_isNear 96 = .ok (.ifCond .eq 18, 3) := by decide +kernel
theorem dX7_isNear_99 : decode cX7_isNear 99 = .ok (.iload_n 2, 1) := by decide +kernel
theorem dX7_isNear_100 : decode cX7_isNear 100 = .ok (.ifCond .eq 16, 3) := by decide +kernel
theorem dX7_isNear_103 : decode cX7_isNear 103 = .ok (.iload 7, 2) := by decide +kernel
theorem dX7_isNear_105 : decode cX7_isNear 105 = .ok (.aload_n 0, 1) := by decide +kernel
theorem dX7_isNear_106 : decode cX7_isNear 106 = .ok (.getfield 28, 3) := by decide +kernel
theorem dX7_isNear_109 : decode cX7_isNear 109 = .ok (.iload_n 1, 1) := by decide +kernel
theorem dX7_isNear_110 : decode cX7_isNear 110 = .ok (.iaload, 1) := by decide +kernel
theorem dX7_isNear_111 : decode cX7_isNear 111 = .ok (.if_icmp .ge 5, 3) := by decide +kernel
theorem dX7_isNear_114 : decode cX7_isNear 114 = .ok (.iconst 1, 1) := by decide +kernel
theorem dX7_isNear_115 : decode cX7_isNear 115 = .ok (.ireturn, 1) := by decide +kernel
theorem dX7_isNear_116 : decode cX7_isNear 116 = .ok (.iinc 4 1, 3) := by decide +kernel
theorem dX7_isNear_119 : decode cX7_isNear 119 = .ok (.goto (-104), 3) := by decide +kernel
theorem dX7_isNear_122 : decode cX7_isNear 122 = .ok (.iinc 3 1, 3) := by decide +kernel
theorem dX7_isNear_125 : decode cX7_isNear 125 = .ok (.goto (-123), 3) := by decide +kernel
theorem dX7_isNear_128 : decode cX7_isNear 128 = .ok (.iconst 0, 1) := by decide +kernel
theorem dX7_isNear_129 : decode cX7_isNear 129 = .ok (.ireturn, 1) := by decide +kernel
theorem dX7_isFalling_0 : decode cX7_isFalling 0 = .ok (.iconst 1, 1) := by decide +kernel
theorem dX7_isFalling_1 : decode cX7_isFalling 1 = .ok (.istore_n 2, 1) := by decide +kernel
theorem dX7_isFalling_2 : decode cX7_isFalling 2 = .ok (.iload_n 2, 1) := by decide +kernel
theorem dX7_isFalling_3 : decode cX7_isFalling 3 = .ok (.aload_n 0, 1) := by decide +kernel
theorem dX7_isFalling_4 : decode cX7_isFalling 4 = .ok (.getfield 31, 3) := by decide +kernel
theorem dX7_isFalling_7 : decode cX7_isFalling 7 = .ok (.iload_n 1, 1) := by decide +kernel
theorem dX7_isFalling_8 : decode cX7_isFalling 8 = .ok (.iaload, 1) := by decide +kernel
theorem dX7_isFalling_9 : decode cX7_isFalling 9 = .ok (.if_icmp .ge 74, 3) := by decide +kernel
theorem dX7_isFalling_12 : decode cX7_isFalling 12 = .ok (.aload_n 0, 1) := by decide +kernel
theorem dX7_isFalling_13 : decode cX7_isFalling 13 = .ok (.getfield 159, 3) := by decide +kernel
theorem dX7_isFalling_16 : decode cX7_isFalling 16 = .ok (.aload_n 0, 1) := by decide +kernel
theorem dX7_isFalling_17 : decode cX7_isFalling 17 = .ok (.getfield 34, 3) := by decide +kernel
theorem dX7_isFalling_20 : decode cX7_isFalling 20 = .ok (.bipush 6, 2) := by decide +kernel
theorem dX7_isFalling_22 : decode cX7_isFalling 22 = .ok (.iload_n 1, 1) := by decide +kernel
theorem dX7_isFalling_23 : decode cX7_isFalling 23 = .ok (.imul, 1) := by decide +kernel
theorem dX7_isFalling_24 : decode cX7_isFalling 24 = .ok (.iload_n 2, 1) := by decide +kernel
theorem dX7_isFalling_25 : decode cX7_isFalling 25 = .ok (.iadd, 1) := by decide +kernel
theorem dX7_isFalling_26 : decode cX7_isFalling 26 = .ok (.iconst 1, 1) := by decide +kernel
theorem dX7_isFalling_27 : decode cX7_isFalling 27 = .ok (.isub, 1) := by decide +kernel
theorem dX7_isFalling_28 : decode cX7_isFalling 28 = .ok (.iaload, 1) := by decide +kernel
theorem dX7_isFalling_29 : decode cX7_isFalling 29 = .ok (.iaload, 1) := by decide +kernel
theorem dX7_isFalling_30 : decode cX7_isFalling 30 = .ok (.istore_n 3, 1) := by decide +kernel
theorem dX7_isFalling_31 : decode cX7_isFalling 31 = .ok (.aload_n 0, 1) := by decide +kernel
theorem dX7_isFalling_32 : decode cX7_isFalling 32 = .ok (.getfield 159, 3) := by decide +kernel
theorem dX7_isFalling_35 : decode cX7_isFalling 35 = .ok (.aload_n 0, 1) := by decide +kernel
theorem dX7_isFalling_36 : decode cX7_isFalling 36 = .ok (.getfield 34, 3) := by decide +kernel
theorem dX7_isFalling_39 : decode cX7_isFalling 39 = .ok (.bipush 6, 2) := by decide +kernel
theorem dX7_isFalling_41 : decode cX7_isFalling 41 = .ok (.iload_n 1, 1) := by decide +kernel
theorem dX7_isFalling_42 : decode cX7_isFalling 42 = .ok (.imul, 1) := by decide +kernel
theorem dX7_isFalling_43 : decode cX7_isFalling 43 = .ok (.iload_n 2, 1) := by decide +kernel
theorem dX7_isFalling_44 : decode cX7_isFalling 44 = .ok (.iadd, 1) := by decide +kernel
theorem dX7_isFalling_45 : decode cX7_isFalling 45 = .ok (.iaload, 1) := by decide +kernel
theorem dX7_isFalling_46 : decode cX7_isFalling 46 = .ok (.iaload, 1) := by decide +kernel
theorem dX7_isFalling_47 : decode cX7_isFalling 47 = .ok (.istore 4, 2) := by decide +kernel
theorem dX7_isFalling_49 : decode cX7_isFalling 49 = .ok (.iload_n 3, 1) := by decide +kernel
theorem dX7_isFalling_50 : decode cX7_isFalling 50 = .ok (.bipush (-9), 2) := by decide +kernel
theorem dX7_isFalling_52 : decode cX7_isFalling 52 = .ok (.if_icmp .eq 25, 3) := by decide +kernel
theorem dX7_isFalling_55 : decode cX7_isFalling 55 = .ok (.iload 4, 2) := by decide +kernel
theorem dX7_isFalling_57 : decode cX7_isFalling 57 = .ok (.bipush (-9), 2) := by decide +kernel
theorem dX7_isFalling_59 : decode cX7_isFalling 59 = .ok (.if_icmp .eq 18, 3) := by decide +kernel
theorem dX7_isFalling_62 : decode cX7_isFalling 62 = .ok (.iload 4, 2) := by decide +kernel
theorem dX7_isFalling_64 : decode cX7_isFalling 64 = .ok (.iload_n 3, 1) := by decide +kernel
theorem dX7_isFalling_65 : decode cX7_isFalling 65 = .ok (.aload_n 0, 1) := by decide +kernel
theorem dX7_isFalling_66 : decode cX7_isFalling 66 = .ok (.getfield 28, 3) := by decide +kernel
theorem dX7_isFalling_69 : decode cX7_isFalling 69 = .ok (.iload_n 1, 1) := by decide +kernel
theorem dX7_isFalling_70 : decode cX7_isFalling 70 = .ok (.iaload, 1) := by decide +kernel
theorem dX7_isFalling_71 : decode cX7_isFalling 71 = .ok (.iadd, 1) := by decide +kernel
theorem dX7_isFalling_72 : decode cX7_isFalling 72 = .ok (.if_icmp .ge 5, 3) := by decide +kernel
theorem dX7_isFalling_75 : decode cX7_isFalling 75 = .ok (.iconst 1, 1) := by decide +kernel
theorem dX7_isFalling_76 : decode cX7_isFalling 76 = .ok (.ireturn, 1) := by decide +kernel
theorem dX7_isFalling_77 : decode cX7_isFalling 77 = .ok (.iinc 2 1, 3) := by decide +kernel
theorem dX7_isFalling_80 : decode cX7_isFalling 80 = .ok (.goto (-78), 3) := by decide +kernel
theorem dX7_isFalling_83 : decode cX7_isFalling 83 = .ok (.iconst 0, 1) := by decide +kernel
theorem dX7_isFalling_84 : decode cX7_isFalling 84 = .ok (.ireturn, 1) := by decide +kernel
set_option maxRecDepth 20000 in
theorem ggX7_isBroken_X7_isLoaded : GoodIn wsX7_isBroken wsX7_isLoaded := goodIn_g _ [(11, 1), (3, 1), (6, 1), (4, 2), (1, 1), (25, 79)] rfl (by decide +kernel)
set_option maxRecDepth 20000 in
theorem gX7_isBroken_X7_isLoaded : GoodIn wsX7_isBroken (wsV RX7 249 RX7 yX7_isLoaded wsX7_isLoaded) := goodIn_app (goodIn_of _ (by decide +kernel)) ggX7_isBroken_X7_isLoaded
set_option maxRecDepth 20000 in
theorem ggX7_isBroken_X7_sumOf : GoodIn wsX7_isBroken wsX7_sumOf := goodIn_g _ [(15, 1), (3, 1), (6, 1), (4, 2), (16, 1), (25, 79)] rfl (by decide +kernel)
set_option maxRecDepth 20000 in
theorem gX7_isBroken_X7_sumOf : GoodIn wsX7_isBroken (wsV RX7 252 RX7 yX7_sumOf wsX7_sumOf) := goodIn_app (goodIn_of _ (by decide +kernel)) ggX7_isBroken_X7_sumOf
set_option maxRecDepth 20000 in
theorem ggX7_isBroken_X7_isNear : GoodIn wsX7_isBroken wsX7_isNear := goodIn_g _ [(20, 1), (3, 3), (1, 1), (25, 79)] rfl (by decide +kernel)
set_option maxRecDepth 20000 in
theorem gX7_isBroken_X7_isNear : GoodIn wsX7_isBroken (wsV RX7 256 RX7 yX7_isNear wsX7_isNear) := goodIn_app (goodIn_of _ (by decide +kernel)) ggX7_isBroken_X7_isNear
set_option maxRecDepth 20000 in
theorem ggX7_isBroken_X7_isFalling : GoodIn wsX7_isBroken wsX7_isFalling := goodIn_g _ [(24, 1), (3, 3), (1, 1), (25, 79)] rfl (by decide +kernel)
set_option maxRecDepth 20000 in
theorem gX7_isBroken_X7_isFalling : GoodIn wsX7_isBroken (wsV RX7 260 RX7 yX7_isFalling wsX7_isFalling) := goodIn_app (goodIn_of _ (by decide +kernel)) ggX7_isBroken_X7_isFalling
theorem dX7_isBroken_0 : decode cX7_isBroken 0 = .ok (.bipush 8, 2) := by decide +kernel
theorem dX7_isBroken_2 : decode cX7_isBroken 2 = .ok (.iload_n 1, 1) := by decide +kernel
theorem dX7_isBroken_3 : decode cX7_isBroken 3 = .ok (.imul, 1) := by decide +kernel
theorem dX7_isBroken_4 : decode cX7_isBroken 4 = .ok (.iload_n 2, 1) := by decide +kernel
theorem dX7_isBroken_5 : decode cX7_isBroken 5 = .ok (.iadd, 1) := by decide +kernel
theorem dX7_isBroken_6 : decode cX7_isBroken 6 = .ok (.istore_n 3, 1) := by decide +kernel
theorem dX7_isBroken_7 : decode cX7_isBroken 7 = .ok (.aload_n 0, 1) := by decide +kernel
theorem dX7_isBroken_8 : decode cX7_isBroken 8 = .ok (.getfield 28, 3) := by decide +kernel
theorem dX7_isBroken_11 : decode cX7_isBroken 11 = .ok (.iload_n 3, 1) := by decide +kernel
theorem dX7_isBroken_12 : decode cX7_isBroken 12 = .ok (.iaload, 1) := by decide +kernel
theorem dX7_isBroken_13 : decode cX7_isBroken 13 = .ok (.istore 4, 2) := by decide +kernel
theorem dX7_isBroken_15 : decode cX7_isBroken 15 = .ok (.aload_n 0, 1) := by decide +kernel
theorem dX7_isBroken_16 : decode cX7_isBroken 16 = .ok (.getfield 25, 3) := by decide +kernel
theorem dX7_isBroken_19 : decode cX7_isBroken 19 = .ok (.iload_n 3, 1) := by decide +kernel
theorem dX7_isBroken_20 : decode cX7_isBroken 20 = .ok (.iaload, 1) := by decide +kernel
theorem dX7_isBroken_21 : decode cX7_isBroken 21 = .ok (.tableswitch 135 0 6 #[43, 49, 67, 85, 115, 122, 129], 43) := by decide +kernel
theorem dX7_isBroken_64 : decode cX7_isBroken 64 = .ok (.aload_n 0, 1) := by decide +kernel
theorem dX7_isBroken_65 : decode cX7_isBroken 65 = .ok (.iload_n 3, 1) := by decide +kernel
theorem dX7_isBroken_66 : decode cX7_isBroken 66 = .ok (.invokevirtual 249, 3) := by decide +kernel
theorem dX7_isBroken_69 : decode cX7_isBroken 69 = .ok (.ireturn, 1) := by decide +kernel
theorem dX7_isBroken_70 : decode cX7_isBroken 70 = .ok (.aload_n 0, 1) := by decide +kernel
theorem dX7_isBroken_71 : decode cX7_isBroken 71 = .ok (.iload_n 1, 1) := by decide +kernel
theorem dX7_isBroken_72 : decode cX7_isBroken 72 = .ok (.iload_n 3, 1) := by decide +kernel
theorem dX7_isBroken_73 : decode cX7_isBroken 73 = .ok (.iconst 1, 1) := by decide +kernel
theorem dX7_isBroken_74 : decode cX7_isBroken 74 = .ok (.invokevirtual 252, 3) := by decide +kernel
theorem dX7_isBroken_77 : decode cX7_isBroken 77 = .ok (.iload 4, 2) := by decide +kernel
theorem dX7_isBroken_79 : decode cX7_isBroken 79 = .ok (.if_icmp .le 7, 3) := by decide +kernel
theorem dX7_isBroken_82 : decode cX7_isBroken 82 = .ok (.iconst 1, 1) := by decide +kernel
theorem dX7_isBroken_83 : decode cX7_isBroken 83 = .ok (.goto 4, 3) := by decide +kernel
theorem dX7_isBroken_86 : decode cX7_isBroken 86 = .ok (.iconst 0, 1) := by decide +kernel
theorem dX7_isBroken_87 : decode cX7_isBroken 87 = .ok (.ireturn, 1) := by decide +kernel
theorem dX7_isBroken_88 : decode cX7_isBroken 88 = .ok (.aload_n 0, 1) := by decide +kernel
theorem dX7_isBroken_89 : decode cX7_isBroken 89 = .ok (.iload_n 1, 1) := by decide +kernel
theorem dX7_isBroken_90 : decode cX7_isBroken 90 = .ok (.iload_n 3, 1) := by decide +kernel
theorem dX7_isBroken_91 : decode cX7_isBroken 91 = .ok (.iconst 0, 1) := by decide +kernel
theorem dX7_isBroken_92 : decode cX7_isBroken 92 = .ok (.invokevirtual 252, 3) := by decide +kernel
theorem dX7_isBroken_95 : decode cX7_isBroken 95 = .ok (.iload 4, 2) := by decide +kernel
theorem dX7_isBroken_97 : decode cX7_isBroken 97 = .ok (.if_icmp .ge 7, 3) := by decide +kernel
theorem dX7_isBroken_100 : decode cX7_isBroken 100 = .ok (.iconst 1, 1) := by decide +kernel
theorem dX7_isBroken_101 : decode cX7_isBroken 101 = .ok (.goto 4, 3) := by decide +kernel
theorem dX7_isBroken_104 : decode cX7_isBroken 104 = .ok (.iconst 0, 1) := by decide +kernel
theorem dX7_isBroken_105 : decode cX7_isBroken 105 = .ok (.ireturn, 1) := by decide +kernel
theorem dX7_isBroken_106 : decode cX7_isBroken 106 = .ok (.aload_n 0, 1) := by decide +kernel
theorem dX7_isBroken_107 : decode cX7_isBroken 107 = .ok (.iload_n 1, 1) := by decide +kernel
theorem dX7_isBroken_108 : decode cX7_isBroken 108 = .ok (.iload_n 3, 1) := by decide +kernel
theorem dX7_isBroken_109 : decode cX7_isBroken 109 = .ok (.iconst 1, 1) := by decide +kernel
theorem dX7_isBroken_110 : decode cX7_isBroken 110 = .ok (.invokevirtual 252, 3) := by decide +kernel
theorem dX7_isBroken_113 : decode cX7_isBroken 113 = .ok (.iload 4, 2) := by decide +kernel
theorem dX7_isBroken_115 : decode cX7_isBroken 115 = .ok (.if_icmp .gt 15, 3) := by decide +kernel
theorem dX7_isBroken_118 : decode cX7_isBroken 118 = .ok (.aload_n 0, 1) := by decide +kernel
theorem dX7_isBroken_119 : decode cX7_isBroken 119 = .ok (.iload_n 1, 1) := by decide +kernel
theorem dX7_isBroken_120 : decode cX7_isBroken 120 = .ok (.iload_n 3, 1) := by decide +kernel
theorem dX7_isBroken_121 : decode cX7_isBroken 121 = .ok (.iconst 0, 1) := by decide +kernel
theorem dX7_isBroken_122 : decode cX7_isBroken 122 = .ok (.invokevirtual 252, 3) := by decide +kernel
theorem dX7_isBroken_125 : decode cX7_isBroken 125 = .ok (.iload 4, 2) := by decide +kernel
theorem dX7_isBroken_127 : decode cX7_isBroken 127 = .ok (.if_icmp .ge 7, 3) := by decide +kernel
theorem dX7_isBroken_130 : decode cX7_isBroken 130 = .ok (.iconst 1, 1) := by decide +kernel
theorem dX7_isBroken_131 : decode cX7_isBroken 131 = .ok (.goto 4, 3) := by decide +kernel
theorem dX7_isBroken_134 : decode cX7_isBroken 134 = .ok (.iconst 0, 1) := by decide +kernel
theorem dX7_isBroken_135 : decode cX7_isBroken 135 = .ok (.ireturn, 1) := by decide +kernel
theorem dX7_isBroken_136 : decode cX7_isBroken 136 = .ok (.aload_n 0, 1) := by decide +kernel
theorem dX7_isBroken_137 : decode cX7_isBroken 137 = .ok (.iload_n 3, 1) := by decide +kernel
theorem dX7_isBroken_138 : decode cX7_isBroken 138 = .ok (.iconst 0, 1) := by decide +kernel
theorem dX7_isBroken_139 : decode cX7_isBroken 139 = .ok (.invokevirtual 256, 3) := by decide +kernel
theorem dX7_isBroken_142 : decode cX7_isBroken 142 = .ok (.ireturn, 1) := by decide +kernel
theorem dX7_isBroken_143 : decode cX7_isBroken 143 = .ok (.aload_n 0, 1) := by decide +kernel
theorem dX7_isBroken_144 : decode cX7_isBroken 144 = .ok (.iload_n 3, 1) := by decide +kernel
theorem dX7_isBroken_145 : decode cX7_isBroken 145 = .ok (.iconst 1, 1) := by decide +kernel
theorem dX7_isBroken_146 : decode cX7_isBroken 146 = .ok (.invokevirtual 256, 3) := by decide +kernel
theorem dX7_isBroken_149 : decode cX7_isBroken 149 = .ok (.ireturn, 1) := by decide +kernel
theorem dX7_isBroken_150 : decode cX7_isBroken 150 = .ok (.aload_n 0, 1) := by decide +kernel
theorem dX7_isBroken_151 : decode cX7_isBroken 151 = .ok (.iload_n 3, 1) := by decide +kernel
theorem dX7_isBroken_152 : decode cX7_isBroken 152 = .ok (.invokevirtual 260, 3) := by decide +kernel
theorem dX7_isBroken_155 : decode cX7_isBroken 155 = .ok (.ireturn, 1) := by decide +kernel
theorem dX7_isBroken_156 : decode cX7_isBroken 156 = .ok (.iconst 0, 1) := by decide +kernel
theorem dX7_isBroken_157 : decode cX7_isBroken 157 = .ok (.istore 5, 2) := by decide +kernel
theorem dX7_isBroken_159 : decode cX7_isBroken 159 = .ok (.iconst 0, 1) := by decide +kernel
theorem dX7_isBroken_160 : decode cX7_isBroken 160 = .ok (.istore 6, 2) := by decide +kernel
theorem dX7_isBroken_162 : decode cX7_isBroken 162 = .ok (.iload 6, 2) := by decide +kernel
theorem dX7_isBroken_164 : decode cX7_isBroken 164 = .ok (.aload_n 0, 1) := by decide +kernel
theorem dX7_isBroken_165 : decode cX7_isBroken 165 = .ok (.getfield 31, 3) := by decide +kernel
theorem dX7_isBroken_168 : decode cX7_isBroken 168 = .ok (.iload_n 3, 1) := by decide +kernel
theorem dX7_isBroken_169 : decode cX7_isBroken 169 = .ok (.iaload, 1) := by decide +kernel
theorem dX7_isBroken_170 : decode cX7_isBroken 170 = .ok (.if_icmp .ge 62, 3) := by decide +kernel
theorem dX7_isBroken_173 : decode cX7_isBroken 173 = .ok (.aload_n 0, 1) := by decide +kernel
theorem dX7_isBroken_174 : decode cX7_isBroken 174 = .ok (.getfield 159, 3) := by decide +kernel
theorem dX7_isBroken_177 : decode cX7_isBroken 177 = .ok (.aload_n 0, 1) := by decide +kernel
theorem dX7_isBroken_178 : decode cX7_isBroken 178 = .ok (.getfield 34, 3) := by decide +kernel
theorem dX7_isBroken_181 : decode cX7_isBroken 181 = .ok (.bipush 6, 2) := by decide +kernel
theorem dX7_isBroken_183 : decode cX7_isBroken 183 = .ok (.iload_n 3, 1) := by decide +kernel
theorem dX7_isBroken_184 : decode cX7_isBroken 184 = .ok (.imul, 1) := by decide +kernel
theorem dX7_isBroken_185 : decode cX7_isBroken 185 = .ok (.iload 6, 2) := by decide +kernel
theorem dX7_isBroken_187 : decode cX7_isBroken 187 = .ok (.iadd, 1) := by decide +kernel
theorem dX7_isBroken_188 : decode cX7_isBroken 188 = .ok (.iaload, 1) := by decide +kernel
theorem dX7_isBroken_189 : decode cX7_isBroken 189 = .ok (.iaload, 1) := by decide +kernel
theorem dX7_isBroken_190 : decode cX7_isBroken 190 = .ok (.istore 7, 2) := by decide +kernel
theorem dX7_isBroken_192 : decode cX7_isBroken 192 = .ok (.iload 5, 2) := by decide +kernel
theorem dX7_isBroken_194 : decode cX7_isBroken 194 = .ok (.iload 7, 2) := by decide +kernel
theorem dX7_isBroken_196 : decode cX7_isBroken 196 = .ok (.bipush (-9), 2) := by decide +kernel
theorem dX7_isBroken_198 : decode cX7_isBroken 198 = .ok (.if_icmp .eq 20, 3) := by decide +kernel
theorem dX7_isBroken_201 : decode cX7_isBroken 201 = .ok (.iload 7, 2) := by decide +kernel
theorem dX7_isBroken_203 : decode cX7_isBroken 203 = .ok (.aload_n 0, 1) := by decide +kernel
theorem dX7_isBroken_204 : decode cX7_isBroken 204 = .ok (.getfield 37, 3) := by decide +kernel
theorem dX7_isBroken_207 : decode cX7_isBroken 207 = .ok (.bipush 6, 2) := by decide +kernel
theorem dX7_isBroken_209 : decode cX7_isBroken 209 = .ok (.iload_n 3, 1) := by decide +kernel
theorem dX7_isBroken_210 : decode cX7_isBroken 210 = .ok (.imul, 1) := by decide +kernel
theorem dX7_isBroken_211 : decode cX7_isBroken 211 = .ok (.iload 6, 2) := by decide +kernel
theorem dX7_isBroken_213 : decode cX7_isBroken 213 = .ok (.iadd, 1) := by decide +kernel
theorem dX7_isBroken_214 : decode cX7_isBroken 214 = .ok (.iaload, 1) := by decide +kernel
theorem dX7_isBroken_215 : decode cX7_isBroken 215 = .ok (.if_icmp .ne 7, 3) := by decide +kernel
theorem dX7_isBroken_218 : decode cX7_isBroken 218 = .ok (.iconst 1, 1) := by decide +kernel
theorem dX7_isBroken_219 : decode cX7_isBroken 219 = .ok (.goto 4, 3) := by decide +kernel
theorem dX7_isBroken_222 : decode cX7_isBroken 222 = .ok (.iconst 0, 1) := by decide +kernel
theorem dX7_isBroken_223 : decode cX7_isBroken 223 = .ok (.iadd, 1) := by decide +kernel
theorem dX7_isBroken_224 : decode cX7_isBroken 224 = .ok (.istore 5, 2) := by decide +kernel
theorem dX7_isBroken_226 : decode cX7_isBroken 226 = .ok (.iinc 6 1, 3) := by decide +kernel
theorem dX7_isBroken_229 : decode cX7_isBroken 229 = .ok (.goto (-67), 3) := by decide +kernel
theorem dX7_isBroken_232 : decode cX7_isBroken 232 = .ok (.iload 5, 2) := by decide +kernel
theorem dX7_isBroken_234 : decode cX7_isBroken 234 = .ok (.iload 4, 2) := by decide +kernel
theorem dX7_isBroken_236 : decode cX7_isBroken 236 = .ok (.if_icmp .ge 7, 3) := by decide +kernel
theorem dX7_isBroken_239 : decode cX7_isBroken 239 = .ok (.iconst 1, 1) := by decide +kernel
theorem dX7_isBroken_240 : decode cX7_isBroken 240 = .ok (.goto 4, 3) := by decide +kernel
theorem dX7_isBroken_243 : decode cX7_isBroken 243 = .ok (.iconst 0, 1) := by decide +kernel
theorem dX7_isBroken_244 : decode cX7_isBroken 244 = .ok (.ireturn, 1) := by decide +kernel
set_option maxRecDepth 20000 in
theorem ggX7_brokenBy_X7_isBroken : GoodIn wsX7_brokenBy wsX7_isBroken := goodIn_g _ [(6, 10), (5, 1), (16, 93)] rfl (by decide +kernel)
set_option maxRecDepth 20000 in
theorem gX7_brokenBy_X7_isBroken : GoodIn wsX7_brokenBy (wsV RX7 263 RX7 yX7_isBroken wsX7_isBroken) := goodIn_app (goodIn_of _ (by decide +kernel)) ggX7_brokenBy_X7_isBroken
theorem dX7_brokenBy_0 : decode cX7_brokenBy 0 = .ok (.iconst 0, 1) := by decide +kernel
theorem dX7_brokenBy_1 : decode cX7_brokenBy 1 = .ok (.istore_n 2, 1) := by decide +kernel
theorem dX7_brokenBy_2 : decode cX7_brokenBy 2 = .ok (.iload_n 2, 1) := by decide +kernel
theorem dX7_brokenBy_3 : decode cX7_brokenBy 3 = .ok (.aload_n 0, 1) := by decide +kernel
theorem dX7_brokenBy_4 : decode cX7_brokenBy 4 = .ok (.getfield 13, 3) := by decide +kernel
theorem dX7_brokenBy_7 : decode cX7_brokenBy 7 = .ok (.iload_n 1, 1) := by decide +kernel
theorem dX7_brokenBy_8 : decode cX7_brokenBy 8 = .ok (.iaload, 1) := by decide +kernel
theorem dX7_brokenBy_9 : decode cX7_brokenBy 9 = .ok (.if_icmp .ge 20, 3) := by decide +kernel
theorem dX7_brokenBy_12 : decode cX7_brokenBy 12 = .ok (.aload_n 0, 1) := by decide +kernel
theorem dX7_brokenBy_13 : decode cX7_brokenBy 13 = .ok (.iload_n 1, 1) := by decide +kernel
theorem dX7_brokenBy_14 : decode cX7_brokenBy 14 = .ok (.iload_n 2, 1) := by decide +kernel
theorem dX7_brokenBy_15 : decode cX7_brokenBy 15 = .ok (.invokevirtual 263, 3) := by decide +kernel
theorem dX7_brokenBy_18 : decode cX7_brokenBy 18 = .ok (.ifCond .eq 5, 3) := by decide +kernel
theorem dX7_brokenBy_21 : decode cX7_brokenBy 21 = .ok (.iload_n 2, 1) := by decide +kernel
theorem dX7_brokenBy_22 : decode cX7_brokenBy 22 = .ok (.ireturn, 1) := by decide +kernel
theorem dX7_brokenBy_23 : decode cX7_brokenBy 23 = .ok (.iinc 2 1, 3) := by decide +kernel
theorem dX7_brokenBy_26 : decode cX7_brokenBy 26 = .ok (.goto (-24), 3) := by decide +kernel
theorem dX7_brokenBy_29 : decode cX7_brokenBy 29 = .ok (.bipush (-9), 2) := by decide +kernel
theorem dX7_brokenBy_31 : decode cX7_brokenBy 31 = .ok (.ireturn, 1) := by decide +kernel
set_option maxRecDepth 20000 in
theorem ggX7_isOut_X7_brokenBy : GoodIn wsX7_isOut wsX7_brokenBy := goodIn_g _ [(6, 5), (5, 1), (11, 4), (1, 1), (15, 98)] rfl (by decide +kernel)
set_option maxRecDepth 20000 in
theorem gX7_isOut_X7_brokenBy : GoodIn wsX7_isOut (wsV RX7 266 RX7 yX7_brokenBy wsX7_brokenBy) := goodIn_app (goodIn_of _ (by decide +kernel)) ggX7_isOut_X7_brokenBy
theorem dX7_isOut_0 : decode cX7_isOut 0 = .ok (.aload_n 0, 1) := by decide +kernel
theorem dX7_isOut_1 : decode cX7_isOut 1 = .ok (.getfield 159, 3) := by decide +kernel
theorem dX7_isOut_4 : decode cX7_isOut 4 = .ok (.iload_n 2, 1) := by decide +kernel
theorem dX7_isOut_5 : decode cX7_isOut 5 = .ok (.iaload, 1) := by decide +kernel
theorem dX7_isOut_6 : decode cX7_isOut 6 = .ok (.istore 4, 2) := by decide +kernel
theorem dX7_isOut_8 : decode cX7_isOut 8 = .ok (.aload_n 0, 1) := by decide +kernel
theorem dX7_isOut_9 : decode cX7_isOut 9 = .ok (.getfield 159, 3) := by decide +kernel
theorem dX7_isOut_12 : decode cX7_isOut 12 = .ok (.iload_n 2, 1) := by decide +kernel
theorem dX7_isOut_13 : decode cX7_isOut 13 = .ok (.iload_n 3, 1) := by decide +kernel
theorem dX7_isOut_14 : decode cX7_isOut 14 = .ok (.iastore, 1) := by decide +kernel
theorem dX7_isOut_15 : decode cX7_isOut 15 = .ok (.aload_n 0, 1) := by decide +kernel
theorem dX7_isOut_16 : decode cX7_isOut 16 = .ok (.iload_n 1, 1) := by decide +kernel
theorem dX7_isOut_17 : decode cX7_isOut 17 = .ok (.invokevirtual 266, 3) := by decide +kernel
theorem dX7_isOut_20 : decode cX7_isOut 20 = .ok (.bipush (-9), 2) := by decide +kernel
theorem dX7_isOut_22 : decode cX7_isOut 22 = .ok (.if_icmp .eq 7, 3) := by decide +kernel
theorem dX7_isOut_25 : decode cX7_isOut 25 = .ok (.iconst 1, 1) := by decide +kernel
theorem dX7_isOut_26 : decode cX7_isOut 26 = .ok (.goto 4, 3) := by decide +kernel
theorem dX7_isOut_29 : decode cX7_isOut 29 = .ok (.iconst 0, 1) := by decide +kernel
theorem dX7_isOut_30 : decode cX7_isOut 30 = .ok (.istore 5, 2) := by decide +kernel
theorem dX7_isOut_32 : decode cX7_isOut 32 = .ok (.aload_n 0, 1) := by decide +kernel
theorem dX7_isOut_33 : decode cX7_isOut 33 = .ok (.getfield 159, 3) := by decide +kernel
theorem dX7_isOut_36 : decode cX7_isOut 36 = .ok (.iload_n 2, 1) := by decide +kernel
theorem dX7_isOut_37 : decode cX7_isOut 37 = .ok (.iload 4, 2) := by decide +kernel
theorem dX7_isOut_39 : decode cX7_isOut 39 = .ok (.iastore, 1) := by decide +kernel
theorem dX7_isOut_40 : decode cX7_isOut 40 = .ok (.iload 5, 2) := by decide +kernel
theorem dX7_isOut_42 : decode cX7_isOut 42 = .ok (.ireturn, 1) := by decide +kernel
set_option maxRecDepth 20000 in
theorem ggX7_areLike_X7_costAt : GoodIn wsX7_areLike wsX7_costAt := goodIn_g _ [(9, 2), (17, 79)] rfl (by decide +kernel)
set_option maxRecDepth 20000 in
theorem gX7_areLike_X7_costAt : GoodIn wsX7_areLike (wsV RX7 269 RX7 yX7_costAt wsX7_costAt) := goodIn_app (goodIn_of _ (by decide +kernel)) ggX7_areLike_X7_costAt
set_option maxRecDepth 20000 in
theorem ggX7_areLike_X7_partAt : GoodIn wsX7_areLike wsX7_partAt := goodIn_g _ [(14, 82)] rfl (by decide +kernel)
set_option maxRecDepth 20000 in
theorem gX7_areLike_X7_partAt : GoodIn wsX7_areLike (wsV RX7 239 RX7 yX7_partAt wsX7_partAt) := goodIn_app (goodIn_of _ (by decide +kernel)) ggX7_areLike_X7_partAt
theorem dX7_areLike_0 : decode cX7_areLike 0 = .ok (.aload_n 0, 1) := by decide +kernel
theorem dX7_areLike_1 : decode cX7_areLike 1 = .ok (.getfield 16, 3) := by decide +kernel
theorem dX7_areLike_4 : decode cX7_areLike 4 = .ok (.bipush 6, 2) := by decide +kernel
theorem dX7_areLike_6 : decode cX7_areLike 6 = .ok (.iload_n 1, 1) := by decide +kernel
theorem dX7_areLike_7 : decode cX7_areLike 7 = .ok (.imul, 1) := by decide +kernel
theorem dX7_areLike_8 : decode cX7_areLike 8 = .ok (.iload_n 2, 1) := by decide +kernel
theorem dX7_areLike_9 : decode cX7_areLike 9 = .ok (.iadd, 1) := by decide +kernel
theorem dX7_areLike_10 : decode cX7_areLike 10 = .ok (.iaload, 1) := by decide +kernel
theorem dX7_areLike_11 : decode cX7_areLike 11 = .ok (.aload_n 0, 1) := by decide +kernel
theorem dX7_areLike_12 : decode cX7_areLike 12 = .ok (.getfield 16, 3) := by decide +kernel
theorem dX7_areLike_15 : decode cX7_areLike 15 = .ok (.bipush 6, 2) := by decide +kernel
theorem dX7_areLike_17 : decode cX7_areLike 17 = .ok (.iload_n 1, 1) := by decide +kernel
theorem dX7_areLike_18 : decode cX7_areLike 18 = .ok (.imul, 1) := by decide +kernel
theorem dX7_areLike_19 : decode cX7_areLike 19 = .ok (.iload_n 3, 1) := by decide +kernel
theorem dX7_areLike_20 : decode cX7_areLike 20 = .ok (.iadd, 1) := by decide +kernel
theorem dX7_areLike_21 : decode cX7_areLike 21 = .ok (.iaload, 1) := by decide +kernel
theorem dX7_areLike_22 : decode cX7_areLike 22 = .ok (.if_icmp .eq 5, 3) := by decide +kernel
theorem dX7_areLike_25 : decode cX7_areLike 25 = .ok (.iconst 0, 1) := by decide +kernel
theorem dX7_areLike_26 : decode cX7_areLike 26 = .ok (.ireturn, 1) := by decide +kernel
theorem dX7_areLike_27 : decode cX7_areLike 27 = .ok (.iconst 0, 1) := by decide +kernel
theorem dX7_areLike_28 : decode cX7_areLike 28 = .ok (.istore 4, 2) := by decide +kernel
theorem dX7_areLike_30 : decode cX7_areLike 30 = .ok (.iload 4, 2) := by decide +kernel
theorem dX7_areLike_32 : decode cX7_areLike 32 = .ok (.aload_n 0, 1) := by decide +kernel
theorem dX7_areLike_33 : decode cX7_areLike 33 = .ok (.getfield 16, 3) := by decide +kernel
theorem dX7_areLike_36 : decode cX7_areLike 36 = .ok (.bipush 6, 2) := by decide +kernel
theorem dX7_areLike_38 : decode cX7_areLike 38 = .ok (.iload_n 1, 1) := by decide +kernel
theorem dX7_areLike_39 : decode cX7_areLike 39 = .ok (.imul, 1) := by decide +kernel
theorem dX7_areLike_40 : decode cX7_areLike 40 = .ok (.iload_n 2, 1) := by decide +kernel
theorem dX7_areLike_41 : decode cX7_areLike 41 = .ok (.iadd, 1) := by decide +kernel
theorem dX7_areLike_42 : decode cX7_areLike 42 = .ok (.iaload, 1) := by decide +kernel
theorem dX7_areLike_43 : decode cX7_areLike 43 = .ok (.if_icmp .ge 30, 3) := by decide +kernel
theorem dX7_areLike_46 : decode cX7_areLike 46 = .ok (.aload_n 0, 1) := by decide +kernel
theorem dX7_areLike_47 : decode cX7_areLike 47 = .ok (.iload_n 1, 1) := by decide +kernel
theorem dX7_areLike_48 : decode cX7_areLike 48 = .ok (.iload_n 2, 1) := by decide +kernel
theorem dX7_areLike_49 : decode cX7_areLike 49 = .ok (.iload 4, 2) := by decide +kernel
theorem dX7_areLike_51 : decode cX7_areLike 51 = .ok (.invokevirtual 269, 3) := by decide +kernel
theorem dX7_areLike_54 : decode cX7_areLike 54 = .ok (.aload_n 0, 1) := by decide +kernel
theorem dX7_areLike_55 : decode cX7_areLike 55 = .ok (.iload_n 1, 1) := by decide +kernel
theorem dX7_areLike_56 : decode cX7_areLike 56 = .ok (.iload_n 3, 1) := by decide +kernel
theorem dX7_areLike_57 : decode cX7_areLike 57 = .ok (.iload 4, 2) := by decide +kernel
theorem dX7_areLike_59 : decode cX7_areLike 59 = .ok (.invokevirtual 269, 3) := by decide +kernel
theorem dX7_areLike_62 : decode cX7_areLike 62 = .ok (.if_icmp .eq 5, 3) := by decide +kernel
theorem dX7_areLike_65 : decode cX7_areLike 65 = .ok (.iconst 0, 1) := by decide +kernel
theorem dX7_areLike_66 : decode cX7_areLike 66 = .ok (.ireturn, 1) := by decide +kernel
theorem dX7_areLike_67 : decode cX7_areLike 67 = .ok (.iinc 4 1, 3) := by decide +kernel
theorem dX7_areLike_70 : decode cX7_areLike 70 = .ok (.goto (-40), 3) := by decide +kernel
theorem dX7_areLike_73 : decode cX7_areLike 73 = .ok (.iconst 0, 1) := by decide +kernel
theorem dX7_areLike_74 : decode cX7_areLike 74 = .ok (.istore 4, 2) := by decide +kernel
theorem dX7_areLike_76 : decode cX7_areLike 76 = .ok (.iload 4, 2) := by decide +kernel
theorem dX7_areLike_78 : decode cX7_areLike 78 = .ok (.aload_n 0, 1) := by decide +kernel
theorem dX7_areLike_79 : decode cX7_areLike 79 = .ok (.getfield 13, 3) := by decide +kernel
theorem dX7_areLike_82 : decode cX7_areLike 82 = .ok (.iload_n 1, 1) := by decide +kernel
theorem dX7_areLike_83 : decode cX7_areLike 83 = .ok (.iaload, 1) := by decide +kernel
theorem dX7_areLike_84 : decode cX7_areLike 84 = .ok (.if_icmp .ge 133, 3) := by decide +kernel
theorem dX7_areLike_87 : decode cX7_areLike 87 = .ok (.aload_n 0, 1) := by decide +kernel
theorem dX7_areLike_88 : decode cX7_areLike 88 = .ok (.iload_n 1, 1) := by decide +kernel
theorem dX7_areLike_89 : decode cX7_areLike 89 = .ok (.iload 4, 2) := by decide +kernel
theorem dX7_areLike_91 : decode cX7_areLike 91 = .ok (.iload_n 2, 1) := by decide +kernel
theorem dX7_areLike_92 : decode cX7_areLike 92 = .ok (.invokevirtual 239, 3) := by decide +kernel
theorem dX7_areLike_95 : decode cX7_areLike 95 = .ok (.istore 5, 2) := by decide +kernel
theorem dX7_areLike_97 : decode cX7_areLike 97 = .ok (.aload_n 0, 1) := by decide +kernel
theorem dX7_areLike_98 : decode cX7_areLike 98 = .ok (.iload_n 1, 1) := by decide +kernel
theorem dX7_areLike_99 : decode cX7_areLike 99 = .ok (.iload 4, 2) := by decide +kernel
theorem dX7_areLike_101 : decode cX7_areLike 101 = .ok (.iload_n 3, 1) := by decide +kernel
theorem dX7_areLike_102 : decode cX7_areLike 102 = .ok (.invokevirtual 239, 3) := by decide +kernel
theorem dX7_areLike_105 : decode cX7_areLike 105 = .ok (.istore 6, 2) := by decide +kernel
theorem dX7_areLike_107 : decode cX7_areLike 107 = .ok (.bipush 8, 2) := by decide +kernel
theorem dX7_areLike_109 : decode cX7_areLike 109 = .ok (.iload_n 1, 1) := by decide +kernel
theorem dX7_areLike_110 : decode cX7_areLike 110 = .ok (.imul, 1) := by decide +kernel
theorem dX7_areLike_111 : decode cX7_areLike 111 = .ok (.iload 4, 2) := by decide +kernel
theorem dX7_areLike_113 : decode cX7_areLike 113 = .ok (.iadd, 1) := by decide +kernel
theorem dX7_areLike_114 : decode cX7_areLike 114 = .ok (.istore 7, 2) := by decide +kernel
theorem dX7_areLike_116 : decode cX7_areLike 116 = .ok (.iload 5, 2) := by decide +kernel
theorem dX7_areLike_118 : decode cX7_areLike 118 = .ok (.bipush (-9), 2) := by decide +kernel
theorem dX7_areLike_120 : decode cX7_areLike 120 = .ok (.if_icmp .ne 14, 3) := by decide +kernel
theorem dX7_areLike_123 : decode cX7_areLike 123 = .ok (.iload 6, 2) := by decide +kernel
theorem dX7_areLike_125 : decode cX7_areLike 125 = .ok (.bipush (-9), 2) := by decide +kernel
theorem dX7_areLike_127 : decode cX7_areLike 127 = .ok (.if_icmp .ne 7, 3) := by decide +kernel
theorem dX7_areLike_130 : decode cX7_areLike 130 = .ok (.iconst 1, 1) := by decide +kernel
theorem dX7_areLike_131 : decode cX7_areLike 131 = .ok (.goto 4, 3) := by decide +kernel
theorem dX7_areLike_134 : decode cX7_areLike 134 = .ok (.iconst 0, 1) := by decide +kernel
theorem dX7_areLike_135 : decode cX7_areLike 135 = .ok (.istore 8, 2) := by decide +kernel
theorem dX7_areLike_137 : decode cX7_areLike 137 = .ok (.iload 5, 2) := by decide +kernel
theorem dX7_areLike_139 : decode cX7_areLike 139 = .ok (.bipush (-9), 2) := by decide +kernel
theorem dX7_areLike_141 : decode cX7_areLike 141 = .ok (.if_icmp .eq 55, 3) := by decide +kernel
theorem dX7_areLike_144 : decode cX7_areLike 144 = .ok (.iload 6, 2) := by decide +kernel
theorem dX7_areLike_146 : decode cX7_areLike 146 = .ok (.bipush (-9), 2) := by decide +kernel
theorem dX7_areLike_148 : decode cX7_areLike 148 = .ok (.if_icmp .eq 48, 3) := by decide +kernel
theorem dX7_areLike_151 : decode cX7_areLike 151 = .ok (.aload_n 0, 1) := by decide +kernel
theorem dX7_areLike_152 : decode cX7_areLike 152 = .ok (.getfield 25, 3) := by decide +kernel
theorem dX7_areLike_155 : decode cX7_areLike 155 = .ok (.iload 7, 2) := by decide +kernel
theorem dX7_areLike_157 : decode cX7_areLike 157 = .ok (.iaload, 1) := by decide +kernel
theorem dX7_areLike_158 : decode cX7_areLike 158 = .ok (.bipush 6, 2) := by decide +kernel
theorem dX7_areLike_160 : decode cX7_areLike 160 = .ok (.if_icmp .eq 36, 3) := by decide +kernel
theorem dX7_areLike_163 : decode cX7_areLike 163 = .ok (.aload_n 0, 1) := by decide +kernel
theorem dX7_areLike_164 : decode cX7_areLike 164 = .ok (.getfield 37, 3) := by decide +kernel
theorem dX7_areLike_167 : decode cX7_areLike 167 = .ok (.bipush 6, 2) := by decide +kernel
theorem dX7_areLike_169 : decode cX7_areLike 169 = .ok (.iload 7, 2) := by decide +kernel
theorem dX7_areLike_171 : decode cX7_areLike 171 = .ok (.imul, 1) := by decide +kernel
theorem dX7_areLike_172 : decode cX7_areLike 172 = .ok (.iload 5, 2) := by decide +kernel
theorem dX7_areLike_174 : decode cX7_areLike 174 = .ok (.iadd, 1) := by decide +kernel
theorem dX7_areLike_175 : decode cX7_areLike 175 = .ok (.iaload, 1) := by decide +kernel
theorem dX7_areLike_176 : decode cX7_areLike 176 = .ok (.aload_n 0, 1) := by decide +kernel
theorem dX7_areLike_177 : decode cX7_areLike 177 = .ok (.getfield 37, 3) := by decide +kernel
theorem dX7_areLike_180 : decode cX7_areLike 180 = .ok (.bipush 6, 2) := by decide +kernel
theorem dX7_areLike_182 : decode cX7_areLike 182 = .ok (.iload 7, 2) := by decide +kernel
theorem dX7_areLike_184 : decode cX7_areLike 184 = .ok (.imul, 1) := by decide +kernel
theorem dX7_areLike_185 : decode cX7_areLike 185 = .ok (.iload 6, 2) := by decide +kernel
theorem dX7_areLike_187 : decode cX7_areLike 187 = .ok (.iadd, 1) := by decide +kernel
theorem dX7_areLike_188 : decode cX7_areLike 188 = .ok (.iaload, 1) := by decide +kernel
theorem dX7_areLike_189 : decode cX7_areLike 189 = .ok (.if_icmp .ne 7, 3) := by decide +kernel
theorem dX7_areLike_192 : decode cX7_areLike 192 = .ok (.iconst 1, 1) := by decide +kernel
theorem dX7_areLike_193 : decode cX7_areLike 193 = .ok (.goto 4, 3) := by decide +kernel
theorem dX7_areLike_196 : decode cX7_areLike 196 = .ok (.iconst 0, 1) := by decide +kernel
theorem dX7_areLike_197 : decode cX7_areLike 197 = .ok (.istore 9, 2) := by decide +kernel
theorem dX7_areLike_199 : decode cX7_areLike 199 = .ok (.iload 8, 2) := by decide +kernel
theorem dX7_areLike_201 : decode cX7_areLike 201 = .ok (.ifCond .ne 10, 3) := by decide +kernel
theorem dX7_areLike_204 : decode cX7_areLike 204 = .ok (.iload 9, 2) := by decide +kernel
theorem dX7_areLike_206 : decode cX7_areLike 206 = .ok (.ifCond .ne 5, 3) := by decide +kernel
theorem dX7_areLike_209 : decode cX7_areLike 209 = .ok (.iconst 0, 1) := by decide +kernel
theorem dX7_areLike_210 : decode cX7_areLike 210 = .ok (.ireturn, 1) := by decide +kernel
theorem dX7_areLike_211 : decode cX7_areLike 211 = .ok (.iinc 4 1, 3) := by decide +kernel
theorem dX7_areLike_214 : decode cX7_areLike 214 = .ok (.goto (-138), 3) := by decide +kernel
theorem dX7_areLike_217 : decode cX7_areLike 217 = .ok (.iconst 1, 1) := by decide +kernel
theorem dX7_areLike_218 : decode cX7_areLike 218 = .ok (.ireturn, 1) := by decide +kernel
set_option maxRecDepth 20000 in
theorem ggX7_whatIs_X7_brokenBy : GoodIn wsX7_whatIs wsX7_brokenBy := goodIn_g _ [(10, 5), (9, 1), (15, 4), (2, 1), (19, 10), (5, 1), (29, 8), (54, 79)] rfl (by decide +kernel)
set_option maxRecDepth 20000 in
theorem gX7_whatIs_X7_brokenBy : GoodIn wsX7_whatIs (wsV RX7 266 RX7 yX7_brokenBy wsX7_brokenBy) := goodIn_app (goodIn_of _ (by decide +kernel)) ggX7_whatIs_X7_brokenBy
set_option maxRecDepth 20000 in
theorem ggX7_whatIs_X7_areLike : GoodIn wsX7_whatIs wsX7_areLike := goodIn_g _ [(40, 1), (5, 1), (11, 1), (17, 1), (20, 1), (41, 3), (9, 1), (44, 6), (18, 2), (54, 79)] rfl (by decide +kernel)
set_option maxRecDepth 20000 in
theorem gX7_whatIs_X7_areLike : GoodIn wsX7_whatIs (wsV RX7 275 RX7 yX7_areLike wsX7_areLike) := goodIn_app (goodIn_of _ (by decide +kernel)) ggX7_whatIs_X7_areLike
set_option maxRecDepth 20000 in
theorem ggX7_whatIs_X7_costAt : GoodIn wsX7_whatIs wsX7_costAt := goodIn_g _ [(44, 2), (54, 79)] rfl (by decide +kernel)
set_option maxRecDepth 20000 in
theorem gX7_whatIs_X7_costAt : GoodIn wsX7_whatIs (wsV RX7 269 RX7 yX7_costAt wsX7_costAt) := goodIn_app (goodIn_of _ (by decide +kernel)) ggX7_whatIs_X7_costAt
set_option maxRecDepth 20000 in
theorem ggX7_whatIs_X7_isOut : GoodIn wsX7_whatIs wsX7_isOut := goodIn_g _ [(53, 1), (2, 1), (6, 23), (5, 1), (29, 8), (54, 79)] rfl (by decide +kernel)
set_option maxRecDepth 20000 in
theorem gX7_whatIs_X7_isOut : GoodIn wsX7_whatIs (wsV RX7 281 RX7 yX7_isOut wsX7_isOut) := goodIn_app (goodIn_of _ (by decide +kernel)) ggX7_whatIs_X7_isOut
theorem dX7_whatIs_0 : decode cX7_whatIs 0 = .ok (.aload_n 0, 1) := by decide +kernel
theorem dX7_whatIs_1 : decode cX7_whatIs 1 = .ok (.aload_n 0, 1) := by decide +kernel
theorem dX7_whatIs_2 : decode cX7_whatIs 2 = .ok (.iload_n 1, 1) := by decide +kernel
theorem dX7_whatIs_3 : decode cX7_whatIs 3 = .ok (.invokevirtual 266, 3) := by decide +kernel
theorem dX7_whatIs_6 : decode cX7_whatIs 6 = .ok (.putfield 272, 3) := by decide +kernel
theorem dX7_whatIs_9 : decode cX7_whatIs 9 = .ok (.aload_n 0, 1) := by decide +kernel
theorem dX7_whatIs_10 : decode cX7_whatIs 10 = .ok (.getfield 272, 3) := by decide +kernel
theorem dX7_whatIs_13 : decode cX7_whatIs 13 = .ok (.bipush (-9), 2) := by decide +kernel
theorem dX7_whatIs_15 : decode cX7_whatIs 15 = .ok (.if_icmp .eq 5, 3) := by decide +kernel
theorem dX7_whatIs_18 : decode cX7_whatIs 18 = .ok (.iconst 1, 1) := by decide +kernel
theorem dX7_whatIs_19 : decode cX7_whatIs 19 = .ok (.ireturn, 1) := by decide +kernel
theorem dX7_whatIs_20 : decode cX7_whatIs 20 = .ok (.iconst 0, 1) := by decide +kernel
theorem dX7_whatIs_21 : decode cX7_whatIs 21 = .ok (.istore 4, 2) := by decide +kernel
theorem dX7_whatIs_23 : decode cX7_whatIs 23 = .ok (.iload 4, 2) := by decide +kernel
theorem dX7_whatIs_25 : decode cX7_whatIs 25 = .ok (.iconst 1, 1) := by decide +kernel
theorem dX7_whatIs_26 : decode cX7_whatIs 26 = .ok (.iadd, 1) := by decide +kernel
theorem dX7_whatIs_27 : decode cX7_whatIs 27 = .ok (.iload_n 2, 1) := by decide +kernel
theorem dX7_whatIs_28 : decode cX7_whatIs 28 = .ok (.if_icmp .ge 52, 3) := by decide +kernel
theorem dX7_whatIs_31 : decode cX7_whatIs 31 = .ok (.iload_n 3, 1) := by decide +kernel
theorem dX7_whatIs_32 : decode cX7_whatIs 32 = .ok (.ifCond .eq 48, 3) := by decide +kernel
theorem dX7_whatIs_35 : decode cX7_whatIs 35 = .ok (.aload_n 0, 1) := by decide +kernel
theorem dX7_whatIs_36 : decode cX7_whatIs 36 = .ok (.getfield 159, 3) := by decide +kernel
theorem dX7_whatIs_39 : decode cX7_whatIs 39 = .ok (.iload 4, 2) := by decide +kernel
theorem dX7_whatIs_41 : decode cX7_whatIs 41 = .ok (.iaload, 1) := by decide +kernel
theorem dX7_whatIs_42 : decode cX7_whatIs 42 = .ok (.aload_n 0, 1) := by decide +kernel
theorem dX7_whatIs_43 : decode cX7_whatIs 43 = .ok (.getfield 159, 3) := by decide +kernel
theorem dX7_whatIs_46 : decode cX7_whatIs 46 = .ok (.iload_n 2, 1) := by decide +kernel
theorem dX7_whatIs_47 : decode cX7_whatIs 47 = .ok (.iconst 1, 1) := by decide +kernel
theorem dX7_whatIs_48 : decode cX7_whatIs 48 = .ok (.isub, 1) := by decide +kernel
theorem dX7_whatIs_49 : decode cX7_whatIs 49 = .ok (.iaload, 1) := by decide +kernel
theorem dX7_whatIs_50 : decode cX7_whatIs 50 = .ok (.if_icmp .le 24, 3) := by decide +kernel
theorem dX7_whatIs_53 : decode cX7_whatIs 53 = .ok (.aload_n 0, 1) := by decide +kernel
theorem dX7_whatIs_54 : decode cX7_whatIs 54 = .ok (.iload_n 1, 1) := by decide +kernel
theorem dX7_whatIs_55 : decode cX7_whatIs 55 = .ok (.iload 4, 2) := by decide +kernel
theorem dX7_whatIs_57 : decode cX7_whatIs 57 = .ok (.iload_n 2, 1) := by decide +kernel
theorem dX7_whatIs_58 : decode cX7_whatIs 58 = .ok (.iconst 1, 1) := by decide +kernel
theorem dX7_whatIs_59 : decode cX7_whatIs 59 = .ok (.isub, 1) := by decide +kernel
theorem dX7_whatIs_60 : decode cX7_whatIs 60 = .ok (.invokevirtual 275, 3) := by decide +kernel
theorem dX7_whatIs_63 : decode cX7_whatIs 63 = .ok (.ifCond .eq 11, 3) := by decide +kernel
theorem dX7_whatIs_66 : decode cX7_whatIs 66 = .ok (.aload_n 0, 1) := by decide +kernel
theorem dX7_whatIs_67 : decode cX7_whatIs 67 = .ok (.iload 4, 2) := by decide +kernel
theorem dX7_whatIs_69 : decode cX7_whatIs 69 = .ok (.putfield 272, 3) := by decide +kernel
theorem dX7_whatIs_72 : decode cX7_whatIs 72 = .ok (.iconst 2, 1) := by decide +kernel
theorem dX7_whatIs_73 : decode cX7_whatIs 73 = .ok (.ireturn, 1) := by decide +kernel
theorem dX7_whatIs_74 : decode cX7_whatIs 74 = .ok (.iinc 4 1, 3) := by decide +kernel
theorem dX7_whatIs_77 : decode cX7_whatIs 77 = .ok (.goto (-54), 3) := by decide +kernel
theorem dX7_whatIs_80 : decode cX7_whatIs 80 = .ok (.aload_n 0, 1) := by decide +kernel
theorem dX7_whatIs_81 : decode cX7_whatIs 81 = .ok (.iconst 0, 1) := by decide +kernel
theorem dX7_whatIs_82 : decode cX7_whatIs 82 = .ok (.putfield 278, 3) := by decide +kernel
theorem dX7_whatIs_85 : decode cX7_whatIs 85 = .ok (.iconst 0, 1) := by decide +kernel
theorem dX7_whatIs_86 : decode cX7_whatIs 86 = .ok (.istore 4, 2) := by decide +kernel
theorem dX7_whatIs_88 : decode cX7_whatIs 88 = .ok (.iload 4, 2) := by decide +kernel
theorem dX7_whatIs_90 : decode cX7_whatIs 90 = .ok (.aload_n 0, 1) := by decide +kernel
theorem dX7_whatIs_91 : decode cX7_whatIs 91 = .ok (.getfield 7, 3) := by decide +kernel
theorem dX7_whatIs_94 : decode cX7_whatIs 94 = .ok (.iload_n 1, 1) := by decide +kernel
theorem dX7_whatIs_95 : decode cX7_whatIs 95 = .ok (.iaload, 1) := by decide +kernel
theorem dX7_whatIs_96 : decode cX7_whatIs 96 = .ok (.if_icmp .ge 148, 3) := by decide +kernel
theorem dX7_whatIs_99 : decode cX7_whatIs 99 = .ok (.iload 4, 2) := by decide +kernel
theorem dX7_whatIs_101 : decode cX7_whatIs 101 = .ok (.iload_n 2, 1) := by decide +kernel
theorem dX7_whatIs_102 : decode cX7_whatIs 102 = .ok (.if_icmp .ge 29, 3) := by decide +kernel
theorem dX7_whatIs_105 : decode cX7_whatIs 105 = .ok (.aload_n 0, 1) := by decide +kernel
theorem dX7_whatIs_106 : decode cX7_whatIs 106 = .ok (.dup, 1) := by decide +kernel
theorem dX7_whatIs_107 : decode cX7_whatIs 107 = .ok (.getfield 278, 3) := by decide +kernel
theorem dX7_whatIs_110 : decode cX7_whatIs 110 = .ok (.aload_n 0, 1) := by decide +kernel
theorem dX7_whatIs_111 : decode cX7_whatIs 111 = .ok (.iload_n 1, 1) := by decide +kernel
theorem dX7_whatIs_112 : decode cX7_whatIs 112 = .ok (.iload 4, 2) := by decide +kernel
theorem dX7_whatIs_114 : decode cX7_whatIs 114 = .ok (.aload_n 0, 1) := by decide +kernel
theorem dX7_whatIs_115 : decode cX7_whatIs 115 = .ok (.getfield 159, 3) := by decide +kernel
theorem dX7_whatIs_118 : decode cX7_whatIs 118 = .ok (.iload 4, 2) := by decide +kernel
theorem dX7_whatIs_120 : decode cX7_whatIs 120 = .ok (.iaload, 1) := by decide +kernel
theorem dX7_whatIs_121 : decode cX7_whatIs 121 = .ok (.invokevirtual 269, 3) := by decide +kernel
theorem dX7_whatIs_124 : decode cX7_whatIs 124 = .ok (.iadd, 1) := by decide +kernel
theorem dX7_whatIs_125 : decode cX7_whatIs 125 = .ok (.putfield 278, 3) := by decide +kernel
theorem dX7_whatIs_128 : decode cX7_whatIs 128 = .ok (.goto 110, 3) := by decide +kernel
theorem dX7_whatIs_131 : decode cX7_whatIs 131 = .ok (.bipush (-9), 2) := by decide +kernel
theorem dX7_whatIs_133 : decode cX7_whatIs 133 = .ok (.istore 5, 2) := by decide +kernel
theorem dX7_whatIs_135 : decode cX7_whatIs 135 = .ok (.iconst 0, 1) := by decide +kernel
theorem dX7_whatIs_136 : decode cX7_whatIs 136 = .ok (.istore 6, 2) := by decide +kernel
theorem dX7_whatIs_138 : decode cX7_whatIs 138 = .ok (.iload 6, 2) := by decide +kernel
theorem dX7_whatIs_140 : decode cX7_whatIs 140 = .ok (.aload_n 0, 1) := by decide +kernel
theorem dX7_whatIs_141 : decode cX7_whatIs 141 = .ok (.getfield 16, 3) := by decide +kernel
theorem dX7_whatIs_144 : decode cX7_whatIs 144 = .ok (.bipush 6, 2) := by decide +kernel
theorem dX7_whatIs_146 : decode cX7_whatIs 146 = .ok (.iload_n 1, 1) := by decide +kernel
theorem dX7_whatIs_147 : decode cX7_whatIs 147 = .ok (.imul, 1) := by decide +kernel
theorem dX7_whatIs_148 : decode cX7_whatIs 148 = .ok (.iload 4, 2) := by decide +kernel
theorem dX7_whatIs_150 : decode cX7_whatIs 150 = .ok (.iadd, 1) := by decide +kernel
theorem dX7_whatIs_151 : decode cX7_whatIs 151 = .ok (.iaload, 1) := by decide +kernel
theorem dX7_whatIs_152 : decode cX7_whatIs 152 = .ok (.if_icmp .ge 53, 3) := by decide +kernel
theorem dX7_whatIs_155 : decode cX7_whatIs 155 = .ok (.aload_n 0, 1) := by decide +kernel
theorem dX7_whatIs_156 : decode cX7_whatIs 156 = .ok (.iload_n 1, 1) := by decide +kernel
theorem dX7_whatIs_157 : decode cX7_whatIs 157 = .ok (.iload 4, 2) := by decide +kernel
theorem dX7_whatIs_159 : decode cX7_whatIs 159 = .ok (.iload 6, 2) := by decide +kernel
theorem dX7_whatIs_161 : decode cX7_whatIs 161 = .ok (.invokevirtual 281, 3) := by decide +kernel
theorem dX7_whatIs_164 : decode cX7_whatIs 164 = .ok (.ifCond .ne 35, 3) := by decide +kernel
theorem dX7_whatIs_167 : decode cX7_whatIs 167 = .ok (.iload 5, 2) := by decide +kernel
theorem dX7_whatIs_169 : decode cX7_whatIs 169 = .ok (.bipush (-9), 2) := by decide +kernel
theorem dX7_whatIs_171 : decode cX7_whatIs 171 = .ok (.if_icmp .eq 24, 3) := by decide +kernel
theorem dX7_whatIs_174 : decode cX7_whatIs 174 = .ok (.aload_n 0, 1) := by decide +kernel
theorem dX7_whatIs_175 : decode cX7_whatIs 175 = .ok (.iload_n 1, 1) := by decide +kernel
theorem dX7_whatIs_176 : decode cX7_whatIs 176 = .ok (.iload 4, 2) := by decide +kernel
theorem dX7_whatIs_178 : decode cX7_whatIs 178 = .ok (.iload 6, 2) := by decide +kernel
theorem dX7_whatIs_180 : decode cX7_whatIs 180 = .ok (.invokevirtual 269, 3) := by decide +kernel
theorem dX7_whatIs_183 : decode cX7_whatIs 183 = .ok (.aload_n 0, 1) := by decide +kernel
theorem dX7_whatIs_184 : decode cX7_whatIs 184 = .ok (.iload_n 1, 1) := by decide +kernel
theorem dX7_whatIs_185 : decode cX7_whatIs 185 = .ok (.iload 4, 2) := by decide +kernel
theorem dX7_whatIs_187 : decode cX7_whatIs 187 = .ok (.iload 5, 2) := by decide +kernel
theorem dX7_whatIs_189 : decode cX7_whatIs 189 = .ok (.invokevirtual 269, 3) := by decide +kernel
theorem dX7_whatIs_192 : decode cX7_whatIs 192 = .ok (.if_icmp .ge 7, 3) := by decide +kernel
theorem dX7_whatIs_195 : decode cX7_whatIs 195 = .ok (.iload 6, 2) := by decide +kernel
theorem dX7_whatIs_197 : decode cX7_whatIs 197 = .ok (.istore 5, 2) := by decide +kernel
theorem dX7_whatIs_199 : decode cX7_whatIs 199 = .ok (.iinc 6 1, 3) := by decide +kernel
theorem dX7_whatIs_202 : decode cX7_whatIs 202 = .ok (.goto (-64), 3) := by decide +kernel
theorem dX7_whatIs_205 : decode cX7_whatIs 205 = .ok (.iload 5, 2) := by decide +kernel
theorem dX7_whatIs_207 : decode cX7_whatIs 207 = .ok (.bipush (-9), 2) := by decide +kernel
theorem dX7_whatIs_209 : decode cX7_whatIs 209 = .ok (.if_icmp .ne 11, 3) := by decide +kernel
theorem dX7_whatIs_212 : decode cX7_whatIs 212 = .ok (.aload_n 0, 1) := by decide +kernel
theorem dX7_whatIs_213 : decode cX7_whatIs 213 = .ok (.iload 4, 2) := by decide +kernel
theorem dX7_whatIs_215 : decode cX7_whatIs 215 = .ok (.putfield 272, 3) := by decide +kernel
theorem dX7_whatIs_218 : decode cX7_whatIs 218 = .ok (.iconst 3, 1) := by decide +kernel
theorem dX7_whatIs_219 : decode cX7_whatIs 219 = .ok (.ireturn, 1) := by decide +kernel
theorem dX7_whatIs_220 : decode cX7_whatIs 220 = .ok (.aload_n 0, 1) := by decide +kernel
theorem dX7_whatIs_221 : decode cX7_whatIs 221 = .ok (.dup, 1) := by decide +kernel
theorem dX7_whatIs_222 : decode cX7_whatIs 222 = .ok (.getfield 278, 3) := by decide +kernel
theorem dX7_whatIs_225 : decode cX7_whatIs 225 = .ok (.aload_n 0, 1) := by decide +kernel
theorem dX7_whatIs_226 : decode cX7_whatIs 226 = .ok (.iload_n 1, 1) := by decide +kernel
theorem dX7_whatIs_227 : decode cX7_whatIs 227 = .ok (.iload 4, 2) := by decide +kernel
theorem dX7_whatIs_229 : decode cX7_whatIs 229 = .ok (.iload 5, 2) := by decide +kernel
theorem dX7_whatIs_231 : decode cX7_whatIs 231 = .ok (.invokevirtual 269, 3) := by decide +kernel
theorem dX7_whatIs_234 : decode cX7_whatIs 234 = .ok (.iadd, 1) := by decide +kernel
theorem dX7_whatIs_235 : decode cX7_whatIs 235 = .ok (.putfield 278, 3) := by decide +kernel
theorem dX7_whatIs_238 : decode cX7_whatIs 238 = .ok (.iinc 4 1, 3) := by decide +kernel
theorem dX7_whatIs_241 : decode cX7_whatIs 241 = .ok (.goto (-153), 3) := by decide +kernel
theorem dX7_whatIs_244 : decode cX7_whatIs 244 = .ok (.iconst 0, 1) := by decide +kernel
theorem dX7_whatIs_245 : decode cX7_whatIs 245 = .ok (.ireturn, 1) := by decide +kernel
theorem dX7_addNode_0 : decode cX7_addNode 0 = .ok (.aload_n 0, 1) := by decide +kernel
theorem dX7_addNode_1 : decode cX7_addNode 1 = .ok (.getfield 284, 3) := by decide +kernel
theorem dX7_addNode_4 : decode cX7_addNode 4 = .ok (.istore_n 3, 1) := by decide +kernel
theorem dX7_addNode_5 : decode cX7_addNode 5 = .ok (.aload_n 0, 1) := by decide +kernel
theorem dX7_addNode_6 : decode cX7_addNode 6 = .ok (.dup, 1) := by decide +kernel
theorem dX7_addNode_7 : decode cX7_addNode 7 = .ok (.getfield 284, 3) := by decide +kernel
theorem dX7_addNode_10 : decode cX7_addNode 10 = .ok (.iconst 1, 1) := by decide +kernel
theorem dX7_addNode_11 : decode cX7_addNode 11 = .ok (.iadd, 1) := by decide +kernel
theorem dX7_addNode_12 : decode cX7_addNode 12 = .ok (.putfield 284, 3) := by decide +kernel
theorem dX7_addNode_15 : decode cX7_addNode 15 = .ok (.aload_n 0, 1) := by decide +kernel
theorem dX7_addNode_16 : decode cX7_addNode 16 = .ok (.getfield 74, 3) := by decide +kernel
theorem dX7_addNode_19 : decode cX7_addNode 19 = .ok (.iload_n 3, 1) := by decide +kernel
theorem dX7_addNode_20 : decode cX7_addNode 20 = .ok (.iload_n 1, 1) := by decide +kernel
theorem dX7_addNode_21 : decode cX7_addNode 21 = .ok (.iastore, 1) := by decide +kernel
theorem dX7_addNode_22 : decode cX7_addNode 22 = .ok (.aload_n 0, 1) := by decide +kernel
theorem dX7_addNode_23 : decode cX7_addNode 23 = .ok (.getfield 86, 3) := by decide +kernel
theorem dX7_addNode_26 : decode cX7_addNode 26 = .ok (.iload_n 3, 1) := by decide +kernel
theorem dX7_addNode_27 : decode cX7_addNode 27 = .ok (.iload_n 2, 1) := by decide +kernel
theorem dX7_addNode_28 : decode cX7_addNode 28 = .ok (.iastore, 1) := by decide +kernel
theorem dX7_addNode_29 : decode cX7_addNode 29 = .ok (.aload_n 0, 1) := by decide +kernel
theorem dX7_addNode_30 : decode cX7_addNode 30 = .ok (.getfield 83, 3) := by decide +kernel
theorem dX7_addNode_33 : decode cX7_addNode 33 = .ok (.iload_n 3, 1) := by decide +kernel
theorem dX7_addNode_34 : decode cX7_addNode 34 = .ok (.aload_n 0, 1) := by decide +kernel
theorem dX7_addNode_35 : decode cX7_addNode 35 = .ok (.getfield 278, 3) := by decide +kernel
theorem dX7_addNode_38 : decode cX7_addNode 38 = .ok (.iastore, 1) := by decide +kernel
theorem dX7_addNode_39 : decode cX7_addNode 39 = .ok (.aload_n 0, 1) := by decide +kernel
theorem dX7_addNode_40 : decode cX7_addNode 40 = .ok (.getfield 89, 3) := by decide +kernel
theorem dX7_addNode_43 : decode cX7_addNode 43 = .ok (.iload_n 3, 1) := by decide +kernel
theorem dX7_addNode_44 : decode cX7_addNode 44 = .ok (.bipush (-9), 2) := by decide +kernel
theorem dX7_addNode_46 : decode cX7_addNode 46 = .ok (.iastore, 1) := by decide +kernel
theorem dX7_addNode_47 : decode cX7_addNode 47 = .ok (.aload_n 0, 1) := by decide +kernel
theorem dX7_addNode_48 : decode cX7_addNode 48 = .ok (.getfield 92, 3) := by decide +kernel
theorem dX7_addNode_51 : decode cX7_addNode 51 = .ok (.iload_n 3, 1) := by decide +kernel
theorem dX7_addNode_52 : decode cX7_addNode 52 = .ok (.iconst 0, 1) := by decide +kernel
theorem dX7_addNode_53 : decode cX7_addNode 53 = .ok (.bastore, 1) := by decide +kernel
theorem dX7_addNode_54 : decode cX7_addNode 54 = .ok (.aload_n 0, 1) := by decide +kernel
theorem dX7_addNode_55 : decode cX7_addNode 55 = .ok (.getfield 96, 3) := by decide +kernel
theorem dX7_addNode_58 : decode cX7_addNode 58 = .ok (.iload_n 3, 1) := by decide +kernel
theorem dX7_addNode_59 : decode cX7_addNode 59 = .ok (.iconst 0, 1) := by decide +kernel
theorem dX7_addNode_60 : decode cX7_addNode 60 = .ok (.bastore, 1) := by decide +kernel
theorem dX7_addNode_61 : decode cX7_addNode 61 = .ok (.aload_n 0, 1) := by decide +kernel
theorem dX7_addNode_62 : decode cX7_addNode 62 = .ok (.getfield 108, 3) := by decide +kernel
theorem dX7_addNode_65 : decode cX7_addNode 65 = .ok (.iload_n 3, 1) := by decide +kernel
theorem dX7_addNode_66 : decode cX7_addNode 66 = .ok (.iconst 0, 1) := by decide +kernel
theorem dX7_addNode_67 : decode cX7_addNode 67 = .ok (.iastore, 1) := by decide +kernel
theorem dX7_addNode_68 : decode cX7_addNode 68 = .ok (.iconst 0, 1) := by decide +kernel
theorem dX7_addNode_69 : decode cX7_addNode 69 = .ok (.istore 4, 2) := by decide +kernel
theorem dX7_addNode_71 : decode cX7_addNode 71 = .ok (.iconst 0, 1) := by decide +kernel
theorem dX7_addNode_72 : decode cX7_addNode 72 = .ok (.istore 5, 2) := by decide +kernel
theorem dX7_addNode_74 : decode cX7_addNode 74 = .ok (.iload 5, 2) := by decide +kernel
theorem dX7_addNode_76 : decode cX7_addNode 76 = .ok (.bipush 6, 2) := by decide +kernel
theorem dX7_addNode_78 : decode cX7_addNode 78 = .ok (.if_icmp .ge 66, 3) := by decide +kernel
theorem dX7_addNode_81 : decode cX7_addNode 81 = .ok (.aload_n 0, 1) := by decide +kernel
theorem dX7_addNode_82 : decode cX7_addNode 82 = .ok (.getfield 77, 3) := by decide +kernel
theorem dX7_addNode_85 : decode cX7_addNode 85 = .ok (.bipush 6, 2) := by decide +kernel
theorem dX7_addNode_87 : decode cX7_addNode 87 = .ok (.iload_n 3, 1) := by decide +kernel
theorem dX7_addNode_88 : decode cX7_addNode 88 = .ok (.imul, 1) := by decide +kernel
theorem dX7_addNode_89 : decode cX7_addNode 89 = .ok (.iload 5, 2) := by decide +kernel
theorem dX7_addNode_91 : decode cX7_addNode 91 = .ok (.iadd, 1) := by decide +kernel
theorem dX7_addNode_92 : decode cX7_addNode 92 = .ok (.iload 5, 2) := by decide +kernel
theorem dX7_addNode_94 : decode cX7_addNode 94 = .ok (.iload_n 1, 1) := by decide +kernel
theorem dX7_addNode_95 : decode cX7_addNode 95 = .ok (.if_icmp .ge 13, 3) := by decide +kernel
theorem dX7_addNode_98 : decode cX7_addNode 98 = .ok (.aload_n 0, 1) := by decide +kernel
theorem dX7_addNode_99 : decode cX7_addNode 99 = .ok (.getfield 159, 3) := by decide +kernel
theorem dX7_addNode_102 : decode cX7_addNode 102 = .ok (.iload 5, 2) := by decide +kernel
theorem dX7_addNode_104 : decode cX7_addNode 104 = .ok (.iaload, 1) := by decide +kernel
theorem dX7_addNode_105 : decode cX7_addNode 105 = .ok (.goto 5, 3) := by decide +kernel
theorem dX7_addNode_108 : decode cX7_addNode 108 = .ok (.bipush (-9), 2) := by decide +kernel
theorem dX7_addNode_110 : decode cX7_addNode 110 = .ok (.iastore, 1) := by decide +kernel
theorem dX7_addNode_111 : decode cX7_addNode 111 = .ok (.bipush 7, 2) := by decide +kernel
theorem dX7_addNode_113 : decode cX7_addNode 113 = .ok (.iload 4, 2) := by decide +kernel
theorem dX7_addNode_115 : decode cX7_addNode 115 = .ok (.imul, 1) := by decide +kernel
theorem dX7_addNode_116 : decode cX7_addNode 116 = .ok (.iload 5, 2) := by decide +kernel
theorem dX7_addNode_118 : decode cX7_addNode 118 = .ok (.iload_n 1, 1) := by decide +kernel
theorem dX7_addNode_119 : decode cX7_addNode 119 = .ok (.if_icmp .ge 15, 3) := by decide +kernel
theorem dX7_addNode_122 : decode cX7_addNode 122 = .ok (.aload_n 0, 1) := by decide +kernel
theorem dX7_addNode_123 : decode cX7_addNode 123 = .ok (.getfield 159, 3) := by decide +kernel
theorem dX7_addNode_126 : decode cX7_addNode 126 = .ok (.iload 5, 2) := by decide +kernel
theorem dX7_addNode_128 : decode cX7_addNode 128 = .ok (.iaload, 1) := by decide +kernel
theorem dX7_addNode_129 : decode cX7_addNode 129 = .ok (.iconst 1, 1) := by decide +kernel
theorem dX7_addNode_130 : decode cX7_addNode 130 = .ok (.iadd, 1) := by decide +kernel
theorem dX7_addNode_131 : decode cX7_addNode 131 = .ok (.goto 4, 3) := by decide +kernel
theorem dX7_addNode_134 : decode cX7_addNode 134 = .ok (.iconst 0, 1) := by decide +kernel
theorem dX7_addNode_135 : decode cX7_addNode 135 = .ok (.iadd, 1) := by decide +kernel
theorem dX7_addNode_136 : decode cX7_addNode 136 = .ok (.istore 4, 2) := by decide +kernel
theorem dX7_addNode_138 : decode cX7_addNode 138 = .ok (.iinc 5 1, 3) := by decide +kernel
theorem dX7_addNode_141 : decode cX7_addNode 141 = .ok (.goto (-67), 3) := by decide +kernel
theorem dX7_addNode_144 : decode cX7_addNode 144 = .ok (.aload_n 0, 1) := by decide +kernel
theorem dX7_addNode_145 : decode cX7_addNode 145 = .ok (.getfield 80, 3) := by decide +kernel
theorem dX7_addNode_148 : decode cX7_addNode 148 = .ok (.iload_n 3, 1) := by decide +kernel
theorem dX7_addNode_149 : decode cX7_addNode 149 = .ok (.iload 4, 2) := by decide +kernel
theorem dX7_addNode_151 : decode cX7_addNode 151 = .ok (.iastore, 1) := by decide +kernel
theorem dX7_addNode_152 : decode cX7_addNode 152 = .ok (.return_, 1) := by decide +kernel
theorem dX7_isAhead_0 : decode cX7_isAhead 0 = .ok (.aload_n 0, 1) := by decide +kernel
theorem dX7_isAhead_1 : decode cX7_isAhead 1 = .ok (.getfield 83, 3) := by decide +kernel
theorem dX7_isAhead_4 : decode cX7_isAhead 4 = .ok (.iload_n 1, 1) := by decide +kernel
theorem dX7_isAhead_5 : decode cX7_isAhead 5 = .ok (.iaload, 1) := by decide +kernel
theorem dX7_isAhead_6 : decode cX7_isAhead 6 = .ok (.aload_n 0, 1) := by decide +kernel
theorem dX7_isAhead_7 : decode cX7_isAhead 7 = .ok (.getfield 83, 3) := by decide +kernel
theorem dX7_isAhead_10 : decode cX7_isAhead 10 = .ok (.iload_n 2, 1) := by decide +kernel
theorem dX7_isAhead_11 : decode cX7_isAhead 11 = .ok (.iaload, 1) := by decide +kernel
theorem dX7_isAhead_12 : decode cX7_isAhead 12 = .ok (.if_icmp .lt 33, 3) := by decide +kernel
theorem dX7_isAhead_15 : decode cX7_isAhead 15 = .ok (.aload_n 0, 1) := by decide +kernel
theorem dX7_isAhead_16 : decode cX7_isAhead 16 = .ok (.getfield 83, 3) := by decide +kernel
theorem dX7_isAhead_19 : decode cX7_isAhead 19 = .ok (.iload_n 1, 1) := by decide +kernel
theorem dX7_isAhead_20 : decode cX7_isAhead 20 = .ok (.iaload, 1) := by decide +kernel
theorem dX7_isAhead_21 : decode cX7_isAhead 21 = .ok (.aload_n 0, 1) := by decide +kernel
theorem dX7_isAhead_22 : decode cX7_isAhead 22 = .ok (.getfield 83, 3) := by decide +kernel
theorem dX7_isAhead_25 : decode cX7_isAhead 25 = .ok (.iload_n 2, 1) := by decide +kernel
theorem dX7_isAhead_26 : decode cX7_isAhead 26 = .ok (.iaload, 1) := by decide +kernel
theorem dX7_isAhead_27 : decode cX7_isAhead 27 = .ok (.if_icmp .ne 22, 3) := by decide +kernel
theorem dX7_isAhead_30 : decode cX7_isAhead 30 = .ok (.aload_n 0, 1) := by decide +kernel
theorem dX7_isAhead_31 : decode cX7_isAhead 31 = .ok (.getfield 80, 3) := by decide +kernel
theorem dX7_isAhead_34 : decode cX7_isAhead 34 = .ok (.iload_n 1, 1) := by decide +kernel
theorem dX7_isAhead_35 : decode cX7_isAhead 35 = .ok (.iaload, 1) := by decide +kernel
theorem dX7_isAhead_36 : decode cX7_isAhead 36 = .ok (.aload_n 0, 1) := by decide +kernel
theorem dX7_isAhead_37 : decode cX7_isAhead 37 = .ok (.getfield 80, 3) := by decide +kernel
theorem dX7_isAhead_40 : decode cX7_isAhead 40 = .ok (.iload_n 2, 1) := by decide +kernel
theorem dX7_isAhead_41 : decode cX7_isAhead 41 = .ok (.iaload, 1) := by decide +kernel
theorem dX7_isAhead_42 : decode cX7_isAhead 42 = .ok (.if_icmp .ge 7, 3) := by decide +kernel
theorem dX7_isAhead_45 : decode cX7_isAhead 45 = .ok (.iconst 1, 1) := by decide +kernel
theorem dX7_isAhead_46 : decode cX7_isAhead 46 = .ok (.goto 4, 3) := by decide +kernel
theorem dX7_isAhead_49 : decode cX7_isAhead 49 = .ok (.iconst 0, 1) := by decide +kernel
theorem dX7_isAhead_50 : decode cX7_isAhead 50 = .ok (.ireturn, 1) := by decide +kernel
theorem dX7_rowOf_0 : decode cX7_rowOf 0 = .ok (.iconst 0, 1) := by decide +kernel
theorem dX7_rowOf_1 : decode cX7_rowOf 1 = .ok (.istore_n 2, 1) := by decide +kernel
theorem dX7_rowOf_2 : decode cX7_rowOf 2 = .ok (.iload_n 2, 1) := by decide +kernel
theorem dX7_rowOf_3 : decode cX7_rowOf 3 = .ok (.bipush 6, 2) := by decide +kernel
theorem dX7_rowOf_5 : decode cX7_rowOf 5 = .ok (.if_icmp .ge 26, 3) := by decide +kernel
theorem dX7_rowOf_8 : decode cX7_rowOf 8 = .ok (.aload_n 0, 1) := by decide +kernel
theorem dX7_rowOf_9 : decode cX7_rowOf 9 = .ok (.getfield 159, 3) := by decide +kernel
theorem dX7_rowOf_12 : decode cX7_rowOf 12 = .ok (.iload_n 2, 1) := by decide +kernel
theorem dX7_rowOf_13 : decode cX7_rowOf 13 = .ok (.aload_n 0, 1) := by decide +kernel
theorem dX7_rowOf_14 : decode cX7_rowOf 14 = .ok (.getfield 77, 3) := by decide +kernel
theorem dX7_rowOf_17 : decode cX7_rowOf 17 = .ok (.bipush 6, 2) := by decide +kernel
theorem dX7_rowOf_19 : decode cX7_rowOf 19 = .ok (.iload_n 1, 1) := by decide +kernel
theorem dX7_rowOf_20 : decode cX7_rowOf 20 = .ok (.imul, 1) := by decide +kernel
theorem dX7_rowOf_21 : decode cX7_rowOf 21 = .ok (.iload_n 2, 1) := by decide +kernel
theorem dX7_rowOf_22 : decode cX7_rowOf 22 = .ok (.iadd, 1) := by decide +kernel
theorem dX7_rowOf_23 : decode cX7_rowOf 23 = .ok (.iaload, 1) := by decide +kernel
theorem dX7_rowOf_24 : decode cX7_rowOf 24 = .ok (.iastore, 1) := by decide +kernel
theorem dX7_rowOf_25 : decode cX7_rowOf 25 = .ok (.iinc 2 1, 3) := by decide +kernel
theorem dX7_rowOf_28 : decode cX7_rowOf 28 = .ok (.goto (-26), 3) := by decide +kernel
theorem dX7_rowOf_31 : decode cX7_rowOf 31 = .ok (.return_, 1) := by decide +kernel
set_option maxRecDepth 20000 in
theorem ggX7_opens_X7_rowOf : GoodIn wsX7_opens wsX7_rowOf := goodIn_g _ [(15, 1), (6, 1), (16, 1), (79, 79)] rfl (by decide +kernel)
set_option maxRecDepth 20000 in
theorem gX7_opens_X7_rowOf : GoodIn wsX7_opens (wsV RX7 290 RX7 yX7_rowOf wsX7_rowOf) := goodIn_app (goodIn_of _ (by decide +kernel)) ggX7_opens_X7_rowOf
set_option maxRecDepth 20000 in
theorem ggX7_opens_X7_whatIs : GoodIn wsX7_opens wsX7_whatIs := goodIn_g _ [(20, 1), (9, 1), (6, 1), (21, 1), (4, 2), (22, 3), (14, 1), (25, 44), (79, 79)] rfl (by decide +kernel)
set_option maxRecDepth 20000 in
theorem gX7_opens_X7_whatIs : GoodIn wsX7_opens (wsV RX7 293 RX7 yX7_whatIs wsX7_whatIs) := goodIn_app (goodIn_of _ (by decide +kernel)) ggX7_opens_X7_whatIs
set_option maxRecDepth 20000 in
theorem ggX7_opens_X7_addNode : GoodIn wsX7_opens wsX7_addNode := goodIn_g _ [(72, 2), (3, 1), (74, 2), (21, 1), (76, 1), (1, 1), (77, 1), (10, 1), (16, 1), (6, 1), (78, 80)] rfl (by decide +kernel)
set_option maxRecDepth 20000 in
theorem gX7_opens_X7_addNode : GoodIn wsX7_opens (wsV RX7 296 RX7 yX7_addNode wsX7_addNode) := goodIn_app (goodIn_of _ (by decide +kernel)) ggX7_opens_X7_addNode
theorem dX7_opens_0 : decode cX7_opens 0 = .ok (.aload_n 0, 1) := by decide +kernel
theorem dX7_opens_1 : decode cX7_opens 1 = .ok (.getfield 92, 3) := by decide +kernel
theorem dX7_opens_4 : decode cX7_opens 4 = .ok (.iload_n 2, 1) := by decide +kernel
theorem dX7_opens_5 : decode cX7_opens 5 = .ok (.iconst 1, 1) := by decide +kernel
theorem dX7_opens_6 : decode cX7_opens 6 = .ok (.bastore, 1) := by decide +kernel
theorem dX7_opens_7 : decode cX7_opens 7 = .ok (.aload_n 0, 1) := by decide +kernel
theorem dX7_opens_8 : decode cX7_opens 8 = .ok (.dup, 1) := by decide +kernel
theorem dX7_opens_9 : decode cX7_opens 9 = .ok (.getfield 287, 3) := by decide +kernel
theorem dX7_opens_12 : decode cX7_opens 12 = .ok (.iconst 1, 1) := by decide +kernel
theorem dX7_opens_13 : decode cX7_opens 13 = .ok (.iadd, 1) := by decide +kernel
theorem dX7_opens_14 : decode cX7_opens 14 = .ok (.putfield 287, 3) := by decide +kernel
theorem dX7_opens_17 : decode cX7_opens 17 = .ok (.aload_n 0, 1) := by decide +kernel
theorem dX7_opens_18 : decode cX7_opens 18 = .ok (.getfield 74, 3) := by decide +kernel
theorem dX7_opens_21 : decode cX7_opens 21 = .ok (.iload_n 2, 1) := by decide +kernel
theorem dX7_opens_22 : decode cX7_opens 22 = .ok (.iaload, 1) := by decide +kernel
theorem dX7_opens_23 : decode cX7_opens 23 = .ok (.istore 4, 2) := by decide +kernel
theorem dX7_opens_25 : decode cX7_opens 25 = .ok (.iload 4, 2) := by decide +kernel
theorem dX7_opens_27 : decode cX7_opens 27 = .ok (.aload_n 0, 1) := by decide +kernel
theorem dX7_opens_28 : decode cX7_opens 28 = .ok (.getfield 7, 3) := by decide +kernel
theorem dX7_opens_31 : decode cX7_opens 31 = .ok (.iload_n 1, 1) := by decide +kernel
theorem dX7_opens_32 : decode cX7_opens 32 = .ok (.iaload, 1) := by decide +kernel
theorem dX7_opens_33 : decode cX7_opens 33 = .ok (.if_icmp .ne 4, 3) := by decide +kernel
theorem dX7_opens_36 : decode cX7_opens 36 = .ok (.return_, 1) := by decide +kernel
theorem dX7_opens_37 : decode cX7_opens 37 = .ok (.iconst 0, 1) := by decide +kernel
theorem dX7_opens_38 : decode cX7_opens 38 = .ok (.istore 5, 2) := by decide +kernel
theorem dX7_opens_40 : decode cX7_opens 40 = .ok (.iload 5, 2) := by decide +kernel
theorem dX7_opens_42 : decode cX7_opens 42 = .ok (.aload_n 0, 1) := by decide +kernel
theorem dX7_opens_43 : decode cX7_opens 43 = .ok (.getfield 16, 3) := by decide +kernel
theorem dX7_opens_46 : decode cX7_opens 46 = .ok (.bipush 6, 2) := by decide +kernel
theorem dX7_opens_48 : decode cX7_opens 48 = .ok (.iload_n 1, 1) := by decide +kernel
theorem dX7_opens_49 : decode cX7_opens 49 = .ok (.imul, 1) := by decide +kernel
theorem dX7_opens_50 : decode cX7_opens 50 = .ok (.iload 4, 2) := by decide +kernel
theorem dX7_opens_52 : decode cX7_opens 52 = .ok (.iadd, 1) := by decide +kernel
theorem dX7_opens_53 : decode cX7_opens 53 = .ok (.iaload, 1) := by decide +kernel
theorem dX7_opens_54 : decode cX7_opens 54 = .ok (.if_icmp .ge 99, 3) := by decide +kernel
theorem dX7_opens_57 : decode cX7_opens 57 = .ok (.aload_n 0, 1) := by decide +kernel
theorem dX7_opens_58 : decode cX7_opens 58 = .ok (.iload_n 2, 1) := by decide +kernel
theorem dX7_opens_59 : decode cX7_opens 59 = .ok (.invokevirtual 290, 3) := by decide +kernel
theorem dX7_opens_62 : decode cX7_opens 62 = .ok (.aload_n 0, 1) := by decide +kernel
theorem dX7_opens_63 : decode cX7_opens 63 = .ok (.getfield 159, 3) := by decide +kernel
theorem dX7_opens_66 : decode cX7_opens 66 = .ok (.iload 4, 2) := by decide +kernel
theorem dX7_opens_68 : decode cX7_opens 68 = .ok (.iload 5, 2) := by decide +kernel
theorem dX7_opens_70 : decode cX7_opens 70 = .ok (.iastore, 1) := by decide +kernel
theorem dX7_opens_71 : decode cX7_opens 71 = .ok (.aload_n 0, 1) := by decide +kernel
theorem dX7_opens_72 : decode cX7_opens 72 = .ok (.iload_n 1, 1) := by decide +kernel
theorem dX7_opens_73 : decode cX7_opens 73 = .ok (.iload 4, 2) := by decide +kernel
theorem dX7_opens_75 : decode cX7_opens 75 = .ok (.iconst 1, 1) := by decide +kernel
theorem dX7_opens_76 : decode cX7_opens 76 = .ok (.iadd, 1) := by decide +kernel
theorem dX7_opens_77 : decode cX7_opens 77 = .ok (.iload_n 3, 1) := by decide +kernel
theorem dX7_opens_78 : decode cX7_opens 78 = .ok (.invokevirtual 293, 3) := by decide +kernel
theorem dX7_opens_81 : decode cX7_opens 81 = .ok (.istore 6, 2) := by decide +kernel
theorem dX7_opens_83 : decode cX7_opens 83 = .ok (.aload_n 0, 1) := by decide +kernel
theorem dX7_opens_84 : decode cX7_opens 84 = .ok (.getfield 102, 3) := by decide +kernel
theorem dX7_opens_87 : decode cX7_opens 87 = .ok (.bipush 6, 2) := by decide +kernel
theorem dX7_opens_89 : decode cX7_opens 89 = .ok (.iload_n 2, 1) := by decide +kernel
theorem dX7_opens_90 : decode cX7_opens 90 = .ok (.imul, 1) := by decide +kernel
theorem dX7_opens_91 : decode cX7_opens 91 = .ok (.iload 5, 2) := by decide +kernel
theorem dX7_opens_93 : decode cX7_opens 93 = .ok (.iadd, 1) := by decide +kernel
theorem dX7_opens_94 : decode cX7_opens 94 = .ok (.iload 6, 2) := by decide +kernel
theorem dX7_opens_96 : decode cX7_opens 96 = .ok (.iastore, 1) := by decide +kernel
theorem dX7_opens_97 : decode cX7_opens 97 = .ok (.aload_n 0, 1) := by decide +kernel
theorem dX7_opens_98 : decode cX7_opens 98 = .ok (.getfield 105, 3) := by decide +kernel
theorem dX7_opens_101 : decode cX7_opens 101 = .ok (.bipush 6, 2) := by decide +kernel
theorem dX7_opens_103 : decode cX7_opens 103 = .ok (.iload_n 2, 1) := by decide +kernel
theorem dX7_opens_104 : decode cX7_opens 104 = .ok (.imul, 1) := by decide +kernel
theorem dX7_opens_105 : decode cX7_opens 105 = .ok (.iload 5, 2) := by decide +kernel
theorem dX7_opens_107 : decode cX7_opens 107 = .ok (.iadd, 1) := by decide +kernel
theorem dX7_opens_108 : decode cX7_opens 108 = .ok (.iload 6, 2) := by decide +kernel
theorem dX7_opens_110 : decode cX7_opens 110 = .ok (.ifCond .ne 8, 3) := by decide +kernel
theorem dX7_opens_113 : decode cX7_opens 113 = .ok (.bipush (-9), 2) := by decide +kernel
theorem dX7_opens_115 : decode cX7_opens 115 = .ok (.goto 7, 3) := by decide +kernel
theorem dX7_opens_118 : decode cX7_opens 118 = .ok (.aload_n 0, 1) := by decide +kernel
theorem dX7_opens_119 : decode cX7_opens 119 = .ok (.getfield 272, 3) := by decide +kernel
theorem dX7_opens_122 : decode cX7_opens 122 = .ok (.iastore, 1) := by decide +kernel
theorem dX7_opens_123 : decode cX7_opens 123 = .ok (.iload 6, 2) := by decide +kernel
theorem dX7_opens_125 : decode cX7_opens 125 = .ok (.ifCond .ne 22, 3) := by decide +kernel
theorem dX7_opens_128 : decode cX7_opens 128 = .ok (.aload_n 0, 1) := by decide +kernel
theorem dX7_opens_129 : decode cX7_opens 129 = .ok (.iload 4, 2) := by decide +kernel
theorem dX7_opens_131 : decode cX7_opens 131 = .ok (.iconst 1, 1) := by decide +kernel
theorem dX7_opens_132 : decode cX7_opens 132 = .ok (.iadd, 1) := by decide +kernel
theorem dX7_opens_133 : decode cX7_opens 133 = .ok (.iload_n 2, 1) := by decide +kernel
theorem dX7_opens_134 : decode cX7_opens 134 = .ok (.invokevirtual 296, 3) := by decide +kernel
theorem dX7_opens_137 : decode cX7_opens 137 = .ok (.aload_n 0, 1) := by decide +kernel
theorem dX7_opens_138 : decode cX7_opens 138 = .ok (.getfield 108, 3) := by decide +kernel
theorem dX7_opens_141 : decode cX7_opens 141 = .ok (.iload_n 2, 1) := by decide +kernel
theorem dX7_opens_142 : decode cX7_opens 142 = .ok (.dup2, 1) := by decide +kernel
theorem dX7_opens_143 : decode cX7_opens 143 = .ok (.iaload, 1) := by decide +kernel
theorem dX7_opens_144 : decode cX7_opens 144 = .ok (.iconst 1, 1) := by decide +kernel
theorem dX7_opens_145 : decode cX7_opens 145 = .ok (.iadd, 1) := by decide +kernel
theorem dX7_opens_146 : decode cX7_opens 146 = .ok (.iastore, 1) := by decide +kernel
theorem dX7_opens_147 : decode cX7_opens 147 = .ok (.iinc 5 1, 3) := by decide +kernel
theorem dX7_opens_150 : decode cX7_opens 150 = .ok (.goto (-110), 3) := by decide +kernel
theorem dX7_opens_153 : decode cX7_opens 153 = .ok (.return_, 1) := by decide +kernel
set_option maxRecDepth 20000 in
theorem ggX7_nextOf_X7_isAhead : GoodIn wsX7_nextOf wsX7_isAhead := goodIn_g _ [(8, 82)] rfl (by decide +kernel)
set_option maxRecDepth 20000 in
theorem gX7_nextOf_X7_isAhead : GoodIn wsX7_nextOf (wsV RX7 300 RX7 yX7_isAhead wsX7_isAhead) := goodIn_app (goodIn_of _ (by decide +kernel)) ggX7_nextOf_X7_isAhead
theorem dX7_nextOf_0 : decode cX7_nextOf 0 = .ok (.bipush (-9), 2) := by decide +kernel
theorem dX7_nextOf_2 : decode cX7_nextOf 2 = .ok (.istore_n 1, 1) := by decide +kernel
theorem dX7_nextOf_3 : decode cX7_nextOf 3 = .ok (.iconst 0, 1) := by decide +kernel
theorem dX7_nextOf_4 : decode cX7_nextOf 4 = .ok (.istore_n 2, 1) := by decide +kernel
theorem dX7_nextOf_5 : decode cX7_nextOf 5 = .ok (.iload_n 2, 1) := by decide +kernel
theorem dX7_nextOf_6 : decode cX7_nextOf 6 = .ok (.aload_n 0, 1) := by decide +kernel
theorem dX7_nextOf_7 : decode cX7_nextOf 7 = .ok (.getfield 284, 3) := by decide +kernel
theorem dX7_nextOf_10 : decode cX7_nextOf 10 = .ok (.if_icmp .ge 74, 3) := by decide +kernel
theorem dX7_nextOf_13 : decode cX7_nextOf 13 = .ok (.aload_n 0, 1) := by decide +kernel
theorem dX7_nextOf_14 : decode cX7_nextOf 14 = .ok (.getfield 96, 3) := by decide +kernel
theorem dX7_nextOf_17 : decode cX7_nextOf 17 = .ok (.iload_n 2, 1) := by decide +kernel
theorem dX7_nextOf_18 : decode cX7_nextOf 18 = .ok (.baload, 1) := by decide +kernel
theorem dX7_nextOf_19 : decode cX7_nextOf 19 = .ok (.ifCond .ne 32, 3) := by decide +kernel
theorem dX7_nextOf_22 : decode cX7_nextOf 22 = .ok (.aload_n 0, 1) := by decide +kernel
theorem dX7_nextOf_23 : decode cX7_nextOf 23 = .ok (.getfield 86, 3) := by decide +kernel
theorem dX7_nextOf_26 : decode cX7_nextOf 26 = .ok (.iload_n 2, 1) := by decide +kernel
theorem dX7_nextOf_27 : decode cX7_nextOf 27 = .ok (.iaload, 1) := by decide +kernel
theorem dX7_nextOf_28 : decode cX7_nextOf 28 = .ok (.bipush (-9), 2) := by decide +kernel
theorem dX7_nextOf_30 : decode cX7_nextOf 30 = .ok (.if_icmp .eq 17, 3) := by decide +kernel
theorem dX7_nextOf_33 : decode cX7_nextOf 33 = .ok (.aload_n 0, 1) := by decide +kernel
theorem dX7_nextOf_34 : decode cX7_nextOf 34 = .ok (.getfield 96, 3) := by decide +kernel
theorem dX7_nextOf_37 : decode cX7_nextOf 37 = .ok (.aload_n 0, 1) := by decide +kernel
theorem dX7_nextOf_38 : decode cX7_nextOf 38 = .ok (.getfield 86, 3) := by decide +kernel
theorem dX7_nextOf_41 : decode cX7_nextOf 41 = .ok (.iload_n 2, 1) := by decide +kernel
theorem dX7_nextOf_42 : decode cX7_nextOf 42 = .ok (.iaload, 1) := by decide +kernel
theorem dX7_nextOf_43 : decode cX7_nextOf 43 = .ok (.baload, 1) := by decide +kernel
theorem dX7_nextOf_44 : decode cX7_nextOf 44 = .ok (.ifCond .eq 7, 3) := by decide +kernel
theorem dX7_nextOf_47 : decode cX7_nextOf 47 = .ok (.iconst 1, 1) := by decide +kernel
theorem dX7_nextOf_48 : decode cX7_nextOf 48 = .ok (.goto 4, 3) := by decide +kernel
theorem dX7_nextOf_51 : decode cX7_nextOf 51 = .ok (.iconst 0, 1) := by decide +kernel
theorem dX7_nextOf_52 : decode cX7_nextOf 52 = .ok (.istore_n 3, 1) := by decide +kernel
theorem dX7_nextOf_53 : decode cX7_nextOf 53 = .ok (.iload_n 3, 1) := by decide +kernel
theorem dX7_nextOf_54 : decode cX7_nextOf 54 = .ok (.ifCond .eq 22, 3) := by decide +kernel
theorem dX7_nextOf_57 : decode cX7_nextOf 57 = .ok (.iload_n 1, 1) := by decide +kernel
theorem dX7_nextOf_58 : decode cX7_nextOf 58 = .ok (.bipush (-9), 2) := by decide +kernel
theorem dX7_nextOf_60 : decode cX7_nextOf 60 = .ok (.if_icmp .eq 12, 3) := by decide +kernel
theorem dX7_nextOf_63 : decode cX7_nextOf 63 = .ok (.aload_n 0, 1) := by decide +kernel
theorem dX7_nextOf_64 : decode cX7_nextOf 64 = .ok (.iload_n 2, 1) := by decide +kernel
theorem dX7_nextOf_65 : decode cX7_nextOf 65 = .ok (.iload_n 1, 1) := by decide +kernel
theorem dX7_nextOf_66 : decode cX7_nextOf 66 = .ok (.invokevirtual 300, 3) := by decide +kernel
theorem dX7_nextOf_69 : decode cX7_nextOf 69 = .ok (.ifCond .eq 7, 3) := by decide +kernel
theorem dX7_nextOf_72 : decode cX7_nextOf 72 = .ok (.iload_n 2, 1) := by decide +kernel
theorem dX7_nextOf_73 : decode cX7_nextOf 73 = .ok (.goto 4, 3) := by decide +kernel
theorem dX7_nextOf_76 : decode cX7_nextOf 76 = .ok (.iload_n 1, 1) := by decide +kernel
theorem dX7_nextOf_77 : decode cX7_nextOf 77 = .ok (.istore_n 1, 1) := by decide +kernel
theorem dX7_nextOf_78 : decode cX7_nextOf 78 = .ok (.iinc 2 1, 3) := by decide +kernel
theorem dX7_nextOf_81 : decode cX7_nextOf 81 = .ok (.goto (-76), 3) := by decide +kernel
theorem dX7_nextOf_84 : decode cX7_nextOf 84 = .ok (.iload_n 1, 1) := by decide +kernel
theorem dX7_nextOf_85 : decode cX7_nextOf 85 = .ok (.ireturn, 1) := by decide +kernel
theorem dX7_takes_0 : decode cX7_takes 0 = .ok (.aload_n 0, 1) := by decide +kernel
theorem dX7_takes_1 : decode cX7_takes 1 = .ok (.getfield 96, 3) := by decide +kernel
theorem dX7_takes_4 : decode cX7_takes 4 = .ok (.iload_n 1, 1) := by decide +kernel
theorem dX7_takes_5 : decode cX7_takes 5 = .ok (.iconst 1, 1) := by decide +kernel
theorem dX7_takes_6 : decode cX7_takes 6 = .ok (.bastore, 1) := by decide +kernel
theorem dX7_takes_7 : decode cX7_takes 7 = .ok (.aload_n 0, 1) := by decide +kernel
theorem dX7_takes_8 : decode cX7_takes 8 = .ok (.getfield 99, 3) := by decide +kernel
theorem dX7_takes_11 : decode cX7_takes 11 = .ok (.aload_n 0, 1) := by decide +kernel
theorem dX7_takes_12 : decode cX7_takes 12 = .ok (.getfield 303, 3) := by decide +kernel
theorem dX7_takes_15 : decode cX7_takes 15 = .ok (.iload_n 1, 1) := by decide +kernel
theorem dX7_takes_16 : decode cX7_takes 16 = .ok (.iastore, 1) := by decide +kernel
theorem dX7_takes_17 : decode cX7_takes 17 = .ok (.aload_n 0, 1) := by decide +kernel
theorem dX7_takes_18 : decode cX7_takes 18 = .ok (.dup, 1) := by decide +kernel
theorem dX7_takes_19 : decode cX7_takes 19 = .ok (.getfield 303, 3) := by decide +kernel
theorem dX7_takes_22 : decode cX7_takes 22 = .ok (.iconst 1, 1) := by decide +kernel
theorem dX7_takes_23 : decode cX7_takes 23 = .ok (.iadd, 1) := by decide +kernel
theorem dX7_takes_24 : decode cX7_takes 24 = .ok (.putfield 303, 3) := by decide +kernel
theorem dX7_takes_27 : decode cX7_takes 27 = .ok (.return_, 1) := by decide +kernel
set_option maxRecDepth 20000 in
theorem ggX7_begins_X7_whatIs : GoodIn wsX7_begins wsX7_whatIs := goodIn_g _ [(9, 2), (4, 1), (11, 6), (8, 1), (17, 44), (74, 79)] rfl (by decide +kernel)
set_option maxRecDepth 20000 in
theorem gX7_begins_X7_whatIs : GoodIn wsX7_begins (wsV RX7 293 RX7 yX7_whatIs wsX7_whatIs) := goodIn_app (goodIn_of _ (by decide +kernel)) ggX7_begins_X7_whatIs
set_option maxRecDepth 20000 in
theorem ggX7_begins_X7_addNode : GoodIn wsX7_begins wsX7_addNode := goodIn_g _ [(64, 1), (1, 1), (65, 3), (11, 1), (68, 5), (4, 1), (73, 80)] rfl (by decide +kernel)
set_option maxRecDepth 20000 in
theorem gX7_begins_X7_addNode : GoodIn wsX7_begins (wsV RX7 296 RX7 yX7_addNode wsX7_addNode) := goodIn_app (goodIn_of _ (by decide +kernel)) ggX7_begins_X7_addNode
theorem dX7_begins_0 : decode cX7_begins 0 = .ok (.aload_n 0, 1) := by decide +kernel
theorem dX7_begins_1 : decode cX7_begins 1 = .ok (.iconst 0, 1) := by decide +kernel
theorem dX7_begins_2 : decode cX7_begins 2 = .ok (.putfield 284, 3) := by decide +kernel
theorem dX7_begins_5 : decode cX7_begins 5 = .ok (.aload_n 0, 1) := by decide +kernel
theorem dX7_begins_6 : decode cX7_begins 6 = .ok (.iconst 0, 1) := by decide +kernel
theorem dX7_begins_7 : decode cX7_begins 7 = .ok (.putfield 287, 3) := by decide +kernel
theorem dX7_begins_10 : decode cX7_begins 10 = .ok (.aload_n 0, 1) := by decide +kernel
theorem dX7_begins_11 : decode cX7_begins 11 = .ok (.iconst 0, 1) := by decide +kernel
theorem dX7_begins_12 : decode cX7_begins 12 = .ok (.putfield 303, 3) := by decide +kernel
theorem dX7_begins_15 : decode cX7_begins 15 = .ok (.iconst 0, 1) := by decide +kernel
theorem dX7_begins_16 : decode cX7_begins 16 = .ok (.istore_n 3, 1) := by decide +kernel
theorem dX7_begins_17 : decode cX7_begins 17 = .ok (.iload_n 3, 1) := by decide +kernel
theorem dX7_begins_18 : decode cX7_begins 18 = .ok (.bipush 6, 2) := by decide +kernel
theorem dX7_begins_20 : decode cX7_begins 20 = .ok (.if_icmp .ge 17, 3) := by decide +kernel
theorem dX7_begins_23 : decode cX7_begins 23 = .ok (.aload_n 0, 1) := by decide +kernel
theorem dX7_begins_24 : decode cX7_begins 24 = .ok (.getfield 159, 3) := by decide +kernel
theorem dX7_begins_27 : decode cX7_begins 27 = .ok (.iload_n 3, 1) := by decide +kernel
theorem dX7_begins_28 : decode cX7_begins 28 = .ok (.bipush (-9), 2) := by decide +kernel
theorem dX7_begins_30 : decode cX7_begins 30 = .ok (.iastore, 1) := by decide +kernel
theorem dX7_begins_31 : decode cX7_begins 31 = .ok (.iinc 3 1, 3) := by decide +kernel
theorem dX7_begins_34 : decode cX7_begins 34 = .ok (.goto (-17), 3) := by decide +kernel
theorem dX7_begins_37 : decode cX7_begins 37 = .ok (.aload_n 0, 1) := by decide +kernel
theorem dX7_begins_38 : decode cX7_begins 38 = .ok (.iload_n 1, 1) := by decide +kernel
theorem dX7_begins_39 : decode cX7_begins 39 = .ok (.iconst 0, 1) := by decide +kernel
theorem dX7_begins_40 : decode cX7_begins 40 = .ok (.iload_n 2, 1) := by decide +kernel
theorem dX7_begins_41 : decode cX7_begins 41 = .ok (.invokevirtual 293, 3) := by decide +kernel
theorem dX7_begins_44 : decode cX7_begins 44 = .ok (.ifCond .ne 10, 3) := by decide +kernel
theorem dX7_begins_47 : decode cX7_begins 47 = .ok (.aload_n 0, 1) := by decide +kernel
theorem dX7_begins_48 : decode cX7_begins 48 = .ok (.iconst 0, 1) := by decide +kernel
theorem dX7_begins_49 : decode cX7_begins 49 = .ok (.bipush (-9), 2) := by decide +kernel
theorem dX7_begins_51 : decode cX7_begins 51 = .ok (.invokevirtual 296, 3) := by decide +kernel
theorem dX7_begins_54 : decode cX7_begins 54 = .ok (.return_, 1) := by decide +kernel
set_option maxRecDepth 20000 in
theorem ggX7_endsAs_X7_nextOf : GoodIn wsX7_endsAs wsX7_nextOf := goodIn_g _ [(33, 7), (32, 1), (40, 1), (6, 1), (41, 80)] rfl (by decide +kernel)
set_option maxRecDepth 20000 in
theorem gX7_endsAs_X7_nextOf : GoodIn wsX7_endsAs (wsV RX7 306 RX7 yX7_nextOf wsX7_nextOf) := goodIn_app (goodIn_of _ (by decide +kernel)) ggX7_endsAs_X7_nextOf
theorem dX7_endsAs_0 : decode cX7_endsAs 0 = .ok (.aload_n 0, 1) := by decide +kernel
theorem dX7_endsAs_1 : decode cX7_endsAs 1 = .ok (.invokevirtual 306, 3) := by decide +kernel
theorem dX7_endsAs_4 : decode cX7_endsAs 4 = .ok (.istore_n 3, 1) := by decide +kernel
theorem dX7_endsAs_5 : decode cX7_endsAs 5 = .ok (.aload_n 0, 1) := by decide +kernel
theorem dX7_endsAs_6 : decode cX7_endsAs 6 = .ok (.getfield 303, 3) := by decide +kernel
theorem dX7_endsAs_9 : decode cX7_endsAs 9 = .ok (.ifCond .le 17, 3) := by decide +kernel
theorem dX7_endsAs_12 : decode cX7_endsAs 12 = .ok (.aload_n 0, 1) := by decide +kernel
theorem dX7_endsAs_13 : decode cX7_endsAs 13 = .ok (.getfield 99, 3) := by decide +kernel
theorem dX7_endsAs_16 : decode cX7_endsAs 16 = .ok (.aload_n 0, 1) := by decide +kernel
theorem dX7_endsAs_17 : decode cX7_endsAs 17 = .ok (.getfield 303, 3) := by decide +kernel
theorem dX7_endsAs_20 : decode cX7_endsAs 20 = .ok (.iconst 1, 1) := by decide +kernel
theorem dX7_endsAs_21 : decode cX7_endsAs 21 = .ok (.isub, 1) := by decide +kernel
theorem dX7_endsAs_22 : decode cX7_endsAs 22 = .ok (.iaload, 1) := by decide +kernel
theorem dX7_endsAs_23 : decode cX7_endsAs 23 = .ok (.goto 5, 3) := by decide +kernel
theorem dX7_endsAs_26 : decode cX7_endsAs 26 = .ok (.bipush (-9), 2) := by decide +kernel
theorem dX7_endsAs_28 : decode cX7_endsAs 28 = .ok (.istore 4, 2) := by decide +kernel
theorem dX7_endsAs_30 : decode cX7_endsAs 30 = .ok (.aload_n 0, 1) := by decide +kernel
theorem dX7_endsAs_31 : decode cX7_endsAs 31 = .ok (.getfield 111, 3) := by decide +kernel
theorem dX7_endsAs_34 : decode cX7_endsAs 34 = .ok (.bipush 6, 2) := by decide +kernel
theorem dX7_endsAs_36 : decode cX7_endsAs 36 = .ok (.iload_n 1, 1) := by decide +kernel
theorem dX7_endsAs_37 : decode cX7_endsAs 37 = .ok (.imul, 1) := by decide +kernel
theorem dX7_endsAs_38 : decode cX7_endsAs 38 = .ok (.iload_n 2, 1) := by decide +kernel
theorem dX7_endsAs_39 : decode cX7_endsAs 39 = .ok (.iastore, 1) := by decide +kernel
theorem dX7_endsAs_40 : decode cX7_endsAs 40 = .ok (.aload_n 0, 1) := by decide +kernel
theorem dX7_endsAs_41 : decode cX7_endsAs 41 = .ok (.getfield 111, 3) := by decide +kernel
theorem dX7_endsAs_44 : decode cX7_endsAs 44 = .ok (.bipush 6, 2) := by decide +kernel
theorem dX7_endsAs_46 : decode cX7_endsAs 46 = .ok (.iload_n 1, 1) := by decide +kernel
theorem dX7_endsAs_47 : decode cX7_endsAs 47 = .ok (.imul, 1) := by decide +kernel
theorem dX7_endsAs_48 : decode cX7_endsAs 48 = .ok (.iconst 1, 1) := by decide +kernel
theorem dX7_endsAs_49 : decode cX7_endsAs 49 = .ok (.iadd, 1) := by decide +kernel
theorem dX7_endsAs_50 : decode cX7_endsAs 50 = .ok (.aload_n 0, 1) := by decide +kernel
theorem dX7_endsAs_51 : decode cX7_endsAs 51 = .ok (.getfield 303, 3) := by decide +kernel
theorem dX7_endsAs_54 : decode cX7_endsAs 54 = .ok (.iastore, 1) := by decide +kernel
theorem dX7_endsAs_55 : decode cX7_endsAs 55 = .ok (.aload_n 0, 1) := by decide +kernel
theorem dX7_endsAs_56 : decode cX7_endsAs 56 = .ok (.getfield 111, 3) := by decide +kernel
theorem dX7_endsAs_59 : decode cX7_endsAs 59 = .ok (.bipush 6, 2) := by decide +kernel
theorem dX7_endsAs_61 : decode cX7_endsAs 61 = .ok (.iload_n 1, 1) := by decide +kernel
theorem dX7_endsAs_62 : decode cX7_endsAs 62 = .ok (.imul, 1) := by decide +kernel
theorem dX7_endsAs_63 : decode cX7_endsAs 63 = .ok (.iconst 2, 1) := by decide +kernel
theorem dX7_endsAs_64 : decode cX7_endsAs 64 = .ok (.iadd, 1) := by decide +kernel
theorem dX7_endsAs_65 : decode cX7_endsAs 65 = .ok (.aload_n 0, 1) := by decide +kernel
theorem dX7_endsAs_66 : decode cX7_endsAs 66 = .ok (.getfield 287, 3) := by decide +kernel
theorem dX7_endsAs_69 : decode cX7_endsAs 69 = .ok (.iastore, 1) := by decide +kernel
theorem dX7_endsAs_70 : decode cX7_endsAs 70 = .ok (.aload_n 0, 1) := by decide +kernel
theorem dX7_endsAs_71 : decode cX7_endsAs 71 = .ok (.getfield 111, 3) := by decide +kernel
theorem dX7_endsAs_74 : decode cX7_endsAs 74 = .ok (.bipush 6, 2) := by decide +kernel
theorem dX7_endsAs_76 : decode cX7_endsAs 76 = .ok (.iload_n 1, 1) := by decide +kernel
theorem dX7_endsAs_77 : decode cX7_endsAs 77 = .ok (.imul, 1) := by decide +kernel
theorem dX7_endsAs_78 : decode cX7_endsAs 78 = .ok (.iconst 3, 1) := by decide +kernel
theorem dX7_endsAs_79 : decode cX7_endsAs 79 = .ok (.iadd, 1) := by decide +kernel
theorem dX7_endsAs_80 : decode cX7_endsAs 80 = .ok (.aload_n 0, 1) := by decide +kernel
theorem dX7_endsAs_81 : decode cX7_endsAs 81 = .ok (.getfield 310, 3) := by decide +kernel
theorem dX7_endsAs_84 : decode cX7_endsAs 84 = .ok (.iastore, 1) := by decide +kernel
theorem dX7_endsAs_85 : decode cX7_endsAs 85 = .ok (.aload_n 0, 1) := by decide +kernel
theorem dX7_endsAs_86 : decode cX7_endsAs 86 = .ok (.getfield 111, 3) := by decide +kernel
theorem dX7_endsAs_89 : decode cX7_endsAs 89 = .ok (.bipush 6, 2) := by decide +kernel
theorem dX7_endsAs_91 : decode cX7_endsAs 91 = .ok (.iload_n 1, 1) := by decide +kernel
theorem dX7_endsAs_92 : decode cX7_endsAs 92 = .ok (.imul, 1) := by decide +kernel
theorem dX7_endsAs_93 : decode cX7_endsAs 93 = .ok (.iconst 4, 1) := by decide +kernel
theorem dX7_endsAs_94 : decode cX7_endsAs 94 = .ok (.iadd, 1) := by decide +kernel
theorem dX7_endsAs_95 : decode cX7_endsAs 95 = .ok (.iload_n 2, 1) := by decide +kernel
theorem dX7_endsAs_96 : decode cX7_endsAs 96 = .ok (.iconst 1, 1) := by decide +kernel
theorem dX7_endsAs_97 : decode cX7_endsAs 97 = .ok (.if_icmp .ne 13, 3) := by decide +kernel
theorem dX7_endsAs_100 : decode cX7_endsAs 100 = .ok (.aload_n 0, 1) := by decide +kernel
theorem dX7_endsAs_101 : decode cX7_endsAs 101 = .ok (.getfield 83, 3) := by decide +kernel
theorem dX7_endsAs_104 : decode cX7_endsAs 104 = .ok (.iload 4, 2) := by decide +kernel
theorem dX7_endsAs_106 : decode cX7_endsAs 106 = .ok (.iaload, 1) := by decide +kernel
theorem dX7_endsAs_107 : decode cX7_endsAs 107 = .ok (.goto 5, 3) := by decide +kernel
theorem dX7_endsAs_110 : decode cX7_endsAs 110 = .ok (.ldc 224, 2) := by decide +kernel
theorem dX7_endsAs_112 : decode cX7_endsAs 112 = .ok (.iastore, 1) := by decide +kernel
theorem dX7_endsAs_113 : decode cX7_endsAs 113 = .ok (.aload_n 0, 1) := by decide +kernel
theorem dX7_endsAs_114 : decode cX7_endsAs 114 = .ok (.getfield 111, 3) := by decide +kernel
theorem dX7_endsAs_117 : decode cX7_endsAs 117 = .ok (.bipush 6, 2) := by decide +kernel
theorem dX7_endsAs_119 : decode cX7_endsAs 119 = .ok (.iload_n 1, 1) := by decide +kernel
theorem dX7_endsAs_120 : decode cX7_endsAs 120 = .ok (.imul, 1) := by decide +kernel
theorem dX7_endsAs_121 : decode cX7_endsAs 121 = .ok (.iconst 5, 1) := by decide +kernel
theorem dX7_endsAs_122 : decode cX7_endsAs 122 = .ok (.iadd, 1) := by decide +kernel
theorem dX7_endsAs_123 : decode cX7_endsAs 123 = .ok (.iload_n 2, 1) := by decide +kernel
theorem dX7_endsAs_124 : decode cX7_endsAs 124 = .ok (.iconst 1, 1) := by decide +kernel
theorem dX7_endsAs_125 : decode cX7_endsAs 125 = .ok (.if_icmp .ne 13, 3) := by decide +kernel
theorem dX7_endsAs_128 : decode cX7_endsAs 128 = .ok (.aload_n 0, 1) := by decide +kernel
theorem dX7_endsAs_129 : decode cX7_endsAs 129 = .ok (.getfield 83, 3) := by decide +kernel
theorem dX7_endsAs_132 : decode cX7_endsAs 132 = .ok (.iload 4, 2) := by decide +kernel
theorem dX7_endsAs_134 : decode cX7_endsAs 134 = .ok (.iaload, 1) := by decide +kernel
theorem dX7_endsAs_135 : decode cX7_endsAs 135 = .ok (.goto 20, 3) := by decide +kernel
theorem dX7_endsAs_138 : decode cX7_endsAs 138 = .ok (.iload_n 3, 1) := by decide +kernel
theorem dX7_endsAs_139 : decode cX7_endsAs 139 = .ok (.bipush (-9), 2) := by decide +kernel
theorem dX7_endsAs_141 : decode cX7_endsAs 141 = .ok (.if_icmp .ne 8, 3) := by decide +kernel
theorem dX7_endsAs_144 : decode cX7_endsAs 144 = .ok (.ldc 224, 2) := by decide +kernel
theorem dX7_endsAs_146 : decode cX7_endsAs 146 = .ok (.goto 9, 3) := by decide +kernel
theorem dX7_endsAs_149 : decode cX7_endsAs 149 = .ok (.aload_n 0, 1) := by decide +kernel
theorem dX7_endsAs_150 : decode cX7_endsAs 150 = .ok (.getfield 83, 3) := by decide +kernel
theorem dX7_endsAs_153 : decode cX7_endsAs 153 = .ok (.iload_n 3, 1) := by decide +kernel
theorem dX7_endsAs_154 : decode cX7_endsAs 154 = .ok (.iaload, 1) := by decide +kernel
theorem dX7_endsAs_155 : decode cX7_endsAs 155 = .ok (.iastore, 1) := by decide +kernel
theorem dX7_endsAs_156 : decode cX7_endsAs 156 = .ok (.aload_n 0, 1) := by decide +kernel
theorem dX7_endsAs_157 : decode cX7_endsAs 157 = .ok (.getfield 114, 3) := by decide +kernel
theorem dX7_endsAs_160 : decode cX7_endsAs 160 = .ok (.iload_n 1, 1) := by decide +kernel
theorem dX7_endsAs_161 : decode cX7_endsAs 161 = .ok (.iconst 1, 1) := by decide +kernel
theorem dX7_endsAs_162 : decode cX7_endsAs 162 = .ok (.bastore, 1) := by decide +kernel
theorem dX7_endsAs_163 : decode cX7_endsAs 163 = .ok (.aload_n 0, 1) := by decide +kernel
theorem dX7_endsAs_164 : decode cX7_endsAs 164 = .ok (.getfield 117, 3) := by decide +kernel
theorem dX7_endsAs_167 : decode cX7_endsAs 167 = .ok (.iload_n 1, 1) := by decide +kernel
theorem dX7_endsAs_168 : decode cX7_endsAs 168 = .ok (.iload_n 2, 1) := by decide +kernel
theorem dX7_endsAs_169 : decode cX7_endsAs 169 = .ok (.iconst 1, 1) := by decide +kernel
theorem dX7_endsAs_170 : decode cX7_endsAs 170 = .ok (.if_icmp .ne 7, 3) := by decide +kernel
theorem dX7_endsAs_173 : decode cX7_endsAs 173 = .ok (.iconst 1, 1) := by decide +kernel
theorem dX7_endsAs_174 : decode cX7_endsAs 174 = .ok (.goto 4, 3) := by decide +kernel
theorem dX7_endsAs_177 : decode cX7_endsAs 177 = .ok (.iconst 0, 1) := by decide +kernel
theorem dX7_endsAs_178 : decode cX7_endsAs 178 = .ok (.bastore, 1) := by decide +kernel
theorem dX7_endsAs_179 : decode cX7_endsAs 179 = .ok (.iload_n 2, 1) := by decide +kernel
theorem dX7_endsAs_180 : decode cX7_endsAs 180 = .ok (.iconst 1, 1) := by decide +kernel
theorem dX7_endsAs_181 : decode cX7_endsAs 181 = .ok (.if_icmp .ne 44, 3) := by decide +kernel
theorem dX7_endsAs_184 : decode cX7_endsAs 184 = .ok (.iconst 0, 1) := by decide +kernel
theorem dX7_endsAs_185 : decode cX7_endsAs 185 = .ok (.istore 5, 2) := by decide +kernel
theorem dX7_endsAs_187 : decode cX7_endsAs 187 = .ok (.iload 5, 2) := by decide +kernel
theorem dX7_endsAs_189 : decode cX7_endsAs 189 = .ok (.bipush 6, 2) := by decide +kernel
theorem dX7_endsAs_191 : decode cX7_endsAs 191 = .ok (.if_icmp .ge 34, 3) := by decide +kernel
theorem dX7_endsAs_194 : decode cX7_endsAs 194 = .ok (.aload_n 0, 1) := by decide +kernel
theorem dX7_endsAs_195 : decode cX7_endsAs 195 = .ok (.getfield 120, 3) := by decide +kernel
theorem dX7_endsAs_198 : decode cX7_endsAs 198 = .ok (.bipush 6, 2) := by decide +kernel
theorem dX7_endsAs_200 : decode cX7_endsAs 200 = .ok (.iload_n 1, 1) := by decide +kernel
theorem dX7_endsAs_201 : decode cX7_endsAs 201 = .ok (.imul, 1) := by decide +kernel
theorem dX7_endsAs_202 : decode cX7_endsAs 202 = .ok (.iload 5, 2) := by decide +kernel
theorem dX7_endsAs_204 : decode cX7_endsAs 204 = .ok (.iadd, 1) := by decide +kernel
theorem dX7_endsAs_205 : decode cX7_endsAs 205 = .ok (.aload_n 0, 1) := by decide +kernel
theorem dX7_endsAs_206 : decode cX7_endsAs 206 = .ok (.getfield 77, 3) := by decide +kernel
theorem dX7_endsAs_209 : decode cX7_endsAs 209 = .ok (.bipush 6, 2) := by decide +kernel
theorem dX7_endsAs_211 : decode cX7_endsAs 211 = .ok (.iload 4, 2) := by decide +kernel
theorem dX7_endsAs_213 : decode cX7_endsAs 213 = .ok (.imul, 1) := by decide +kernel
theorem dX7_endsAs_214 : decode cX7_endsAs 214 = .ok (.iload 5, 2) := by decide +kernel
theorem dX7_endsAs_216 : decode cX7_endsAs 216 = .ok (.iadd, 1) := by decide +kernel
theorem dX7_endsAs_217 : decode cX7_endsAs 217 = .ok (.iaload, 1) := by decide +kernel
theorem dX7_endsAs_218 : decode cX7_endsAs 218 = .ok (.iastore, 1) := by decide +kernel
theorem dX7_endsAs_219 : decode cX7_endsAs 219 = .ok (.iinc 5 1, 3) := by decide +kernel
theorem dX7_endsAs_222 : decode cX7_endsAs 222 = .ok (.goto (-35), 3) := by decide +kernel
theorem dX7_endsAs_225 : decode cX7_endsAs 225 = .ok (.aload_n 0, 1) := by decide +kernel
theorem dX7_endsAs_226 : decode cX7_endsAs 226 = .ok (.aload_n 0, 1) := by decide +kernel
theorem dX7_endsAs_227 : decode cX7_endsAs 227 = .ok (.getfield 303, 3) := by decide +kernel
theorem dX7_endsAs_230 : decode cX7_endsAs 230 = .ok (.putfield 313, 3) := by decide +kernel
theorem dX7_endsAs_233 : decode cX7_endsAs 233 = .ok (.iconst 0, 1) := by decide +kernel
theorem dX7_endsAs_234 : decode cX7_endsAs 234 = .ok (.istore 5, 2) := by decide +kernel
theorem dX7_endsAs_236 : decode cX7_endsAs 236 = .ok (.iload 5, 2) := by decide +kernel
theorem dX7_endsAs_238 : decode cX7_endsAs 238 = .ok (.aload_n 0, 1) := by decide +kernel
theorem dX7_endsAs_239 : decode cX7_endsAs 239 = .ok (.getfield 303, 3) := by decide +kernel
theorem dX7_endsAs_242 : decode cX7_endsAs 242 = .ok (.if_icmp .ge 212, 3) := by decide +kernel
theorem dX7_endsAs_245 : decode cX7_endsAs 245 = .ok (.aload_n 0, 1) := by decide +kernel
theorem dX7_endsAs_246 : decode cX7_endsAs 246 = .ok (.getfield 99, 3) := by decide +kernel
theorem dX7_endsAs_249 : decode cX7_endsAs 249 = .ok (.iload 5, 2) := by decide +kernel
theorem dX7_endsAs_251 : decode cX7_endsAs 251 = .ok (.iaload, 1) := by decide +kernel
theorem dX7_endsAs_252 : decode cX7_endsAs 252 = .ok (.istore 6, 2) := by decide +kernel
theorem dX7_endsAs_254 : decode cX7_endsAs 254 = .ok (.aload_n 0, 1) := by decide +kernel
theorem dX7_endsAs_255 : decode cX7_endsAs 255 = .ok (.getfield 123, 3) := by decide +kernel
theorem dX7_endsAs_258 : decode cX7_endsAs 258 = .ok (.iload 5, 2) := by decide +kernel
theorem dX7_endsAs_260 : decode cX7_endsAs 260 = .ok (.aload_n 0, 1) := by decide +kernel
theorem dX7_endsAs_261 : decode cX7_endsAs 261 = .ok (.getfield 74, 3) := by decide +kernel
theorem dX7_endsAs_264 : decode cX7_endsAs 264 = .ok (.iload 6, 2) := by decide +kernel
theorem dX7_endsAs_266 : decode cX7_endsAs 266 = .ok (.iaload, 1) := by decide +kernel
theorem dX7_endsAs_267 : decode cX7_endsAs 267 = .ok (.iastore, 1) := by decide +kernel
theorem dX7_endsAs_268 : decode cX7_endsAs 268 = .ok (.aload_n 0, 1) := by decide +kernel
theorem dX7_endsAs_269 : decode cX7_endsAs 269 = .ok (.getfield 129, 3) := by decide +kernel
theorem dX7_endsAs_272 : decode cX7_endsAs 272 = .ok (.iload 5, 2) := by decide +kernel
theorem dX7_endsAs_274 : decode cX7_endsAs 274 = .ok (.aload_n 0, 1) := by decide +kernel
theorem dX7_endsAs_275 : decode cX7_endsAs 275 = .ok (.getfield 83, 3) := by decide +kernel
theorem dX7_endsAs_278 : decode cX7_endsAs 278 = .ok (.iload 6, 2) := by decide +kernel
theorem dX7_endsAs_280 : decode cX7_endsAs 280 = .ok (.iaload, 1) := by decide +kernel
theorem dX7_endsAs_281 : decode cX7_endsAs 281 = .ok (.iastore, 1) := by decide +kernel
theorem dX7_endsAs_282 : decode cX7_endsAs 282 = .ok (.aload_n 0, 1) := by decide +kernel
theorem dX7_endsAs_283 : decode cX7_endsAs 283 = .ok (.getfield 132, 3) := by decide +kernel
theorem dX7_endsAs_286 : decode cX7_endsAs 286 = .ok (.iload 5, 2) := by decide +kernel
theorem dX7_endsAs_288 : decode cX7_endsAs 288 = .ok (.aload_n 0, 1) := by decide +kernel
theorem dX7_endsAs_289 : decode cX7_endsAs 289 = .ok (.getfield 89, 3) := by decide +kernel
theorem dX7_endsAs_292 : decode cX7_endsAs 292 = .ok (.iload 6, 2) := by decide +kernel
theorem dX7_endsAs_294 : decode cX7_endsAs 294 = .ok (.iaload, 1) := by decide +kernel
theorem dX7_endsAs_295 : decode cX7_endsAs 295 = .ok (.iastore, 1) := by decide +kernel
theorem dX7_endsAs_296 : decode cX7_endsAs 296 = .ok (.aload_n 0, 1) := by decide +kernel
theorem dX7_endsAs_297 : decode cX7_endsAs 297 = .ok (.getfield 135, 3) := by decide +kernel
theorem dX7_endsAs_300 : decode cX7_endsAs 300 = .ok (.iload 5, 2) := by decide +kernel
theorem dX7_endsAs_302 : decode cX7_endsAs 302 = .ok (.aload_n 0, 1) := by decide +kernel
theorem dX7_endsAs_303 : decode cX7_endsAs 303 = .ok (.getfield 108, 3) := by decide +kernel
theorem dX7_endsAs_306 : decode cX7_endsAs 306 = .ok (.iload 6, 2) := by decide +kernel
theorem dX7_endsAs_308 : decode cX7_endsAs 308 = .ok (.iaload, 1) := by decide +kernel
theorem dX7_endsAs_309 : decode cX7_endsAs 309 = .ok (.iastore, 1) := by decide +kernel
theorem dX7_endsAs_310 : decode cX7_endsAs 310 = .ok (.aload_n 0, 1) := by decide +kernel
theorem dX7_endsAs_311 : decode cX7_endsAs 311 = .ok (.getfield 138, 3) := by decide +kernel
theorem dX7_endsAs_314 : decode cX7_endsAs 314 = .ok (.iload 5, 2) := by decide +kernel
theorem dX7_endsAs_316 : decode cX7_endsAs 316 = .ok (.aload_n 0, 1) := by decide +kernel
theorem dX7_endsAs_317 : decode cX7_endsAs 317 = .ok (.getfield 74, 3) := by decide +kernel
theorem dX7_endsAs_320 : decode cX7_endsAs 320 = .ok (.iload 6, 2) := by decide +kernel
theorem dX7_endsAs_322 : decode cX7_endsAs 322 = .ok (.iaload, 1) := by decide +kernel
theorem dX7_endsAs_323 : decode cX7_endsAs 323 = .ok (.aload_n 0, 1) := by decide +kernel
theorem dX7_endsAs_324 : decode cX7_endsAs 324 = .ok (.getfield 7, 3) := by decide +kernel
theorem dX7_endsAs_327 : decode cX7_endsAs 327 = .ok (.iload_n 1, 1) := by decide +kernel
theorem dX7_endsAs_328 : decode cX7_endsAs 328 = .ok (.iaload, 1) := by decide +kernel
theorem dX7_endsAs_329 : decode cX7_endsAs 329 = .ok (.if_icmp .ge 23, 3) := by decide +kernel
theorem dX7_endsAs_332 : decode cX7_endsAs 332 = .ok (.aload_n 0, 1) := by decide +kernel
theorem dX7_endsAs_333 : decode cX7_endsAs 333 = .ok (.getfield 16, 3) := by decide +kernel
theorem dX7_endsAs_336 : decode cX7_endsAs 336 = .ok (.bipush 6, 2) := by decide +kernel
theorem dX7_endsAs_338 : decode cX7_endsAs 338 = .ok (.iload_n 1, 1) := by decide +kernel
theorem dX7_endsAs_339 : decode cX7_endsAs 339 = .ok (.imul, 1) := by decide +kernel
theorem dX7_endsAs_340 : decode cX7_endsAs 340 = .ok (.aload_n 0, 1) := by decide +kernel
theorem dX7_endsAs_341 : decode cX7_endsAs 341 = .ok (.getfield 74, 3) := by decide +kernel
theorem dX7_endsAs_344 : decode cX7_endsAs 344 = .ok (.iload 6, 2) := by decide +kernel
theorem dX7_endsAs_346 : decode cX7_endsAs 346 = .ok (.iaload, 1) := by decide +kernel
theorem dX7_endsAs_347 : decode cX7_endsAs 347 = .ok (.iadd, 1) := by decide +kernel
theorem dX7_endsAs_348 : decode cX7_endsAs 348 = .ok (.iaload, 1) := by decide +kernel
theorem dX7_endsAs_349 : decode cX7_endsAs 349 = .ok (.goto 4, 3) := by decide +kernel
theorem dX7_endsAs_352 : decode cX7_endsAs 352 = .ok (.iconst 0, 1) := by decide +kernel
theorem dX7_endsAs_353 : decode cX7_endsAs 353 = .ok (.iastore, 1) := by decide +kernel
theorem dX7_endsAs_354 : decode cX7_endsAs 354 = .ok (.iconst 0, 1) := by decide +kernel
theorem dX7_endsAs_355 : decode cX7_endsAs 355 = .ok (.istore 7, 2) := by decide +kernel
theorem dX7_endsAs_357 : decode cX7_endsAs 357 = .ok (.iload 7, 2) := by decide +kernel
theorem dX7_endsAs_359 : decode cX7_endsAs 359 = .ok (.bipush 6, 2) := by decide +kernel
theorem dX7_endsAs_361 : decode cX7_endsAs 361 = .ok (.if_icmp .ge 87, 3) := by decide +kernel
theorem dX7_endsAs_364 : decode cX7_endsAs 364 = .ok (.aload_n 0, 1) := by decide +kernel
theorem dX7_endsAs_365 : decode cX7_endsAs 365 = .ok (.getfield 126, 3) := by decide +kernel
theorem dX7_endsAs_368 : decode cX7_endsAs 368 = .ok (.bipush 6, 2) := by decide +kernel
theorem dX7_endsAs_370 : decode cX7_endsAs 370 = .ok (.iload 5, 2) := by decide +kernel
theorem dX7_endsAs_372 : decode cX7_endsAs 372 = .ok (.imul, 1) := by decide +kernel
theorem dX7_endsAs_373 : decode cX7_endsAs 373 = .ok (.iload 7, 2) := by decide +kernel
theorem dX7_endsAs_375 : decode cX7_endsAs 375 = .ok (.iadd, 1) := by decide +kernel
theorem dX7_endsAs_376 : decode cX7_endsAs 376 = .ok (.aload_n 0, 1) := by decide +kernel
theorem dX7_endsAs_377 : decode cX7_endsAs 377 = .ok (.getfield 77, 3) := by decide +kernel
theorem dX7_endsAs_380 : decode cX7_endsAs 380 = .ok (.bipush 6, 2) := by decide +kernel
theorem dX7_endsAs_382 : decode cX7_endsAs 382 = .ok (.iload 6, 2) := by decide +kernel
theorem dX7_endsAs_384 : decode cX7_endsAs 384 = .ok (.imul, 1) := by decide +kernel
theorem dX7_endsAs_385 : decode cX7_endsAs 385 = .ok (.iload 7, 2) := by decide +kernel
theorem dX7_endsAs_387 : decode cX7_endsAs 387 = .ok (.iadd, 1) := by decide +kernel
theorem dX7_endsAs_388 : decode cX7_endsAs 388 = .ok (.iaload, 1) := by decide +kernel
theorem dX7_endsAs_389 : decode cX7_endsAs 389 = .ok (.iastore, 1) := by decide +kernel
theorem dX7_endsAs_390 : decode cX7_endsAs 390 = .ok (.aload_n 0, 1) := by decide +kernel
theorem dX7_endsAs_391 : decode cX7_endsAs 391 = .ok (.getfield 141, 3) := by decide +kernel
theorem dX7_endsAs_394 : decode cX7_endsAs 394 = .ok (.bipush 6, 2) := by decide +kernel
theorem dX7_endsAs_396 : decode cX7_endsAs 396 = .ok (.iload 5, 2) := by decide +kernel
theorem dX7_endsAs_398 : decode cX7_endsAs 398 = .ok (.imul, 1) := by decide +kernel
theorem dX7_endsAs_399 : decode cX7_endsAs 399 = .ok (.iload 7, 2) := by decide +kernel
theorem dX7_endsAs_401 : decode cX7_endsAs 401 = .ok (.iadd, 1) := by decide +kernel
theorem dX7_endsAs_402 : decode cX7_endsAs 402 = .ok (.aload_n 0, 1) := by decide +kernel
theorem dX7_endsAs_403 : decode cX7_endsAs 403 = .ok (.getfield 102, 3) := by decide +kernel
theorem dX7_endsAs_406 : decode cX7_endsAs 406 = .ok (.bipush 6, 2) := by decide +kernel
theorem dX7_endsAs_408 : decode cX7_endsAs 408 = .ok (.iload 6, 2) := by decide +kernel
theorem dX7_endsAs_410 : decode cX7_endsAs 410 = .ok (.imul, 1) := by decide +kernel
theorem dX7_endsAs_411 : decode cX7_endsAs 411 = .ok (.iload 7, 2) := by decide +kernel
theorem dX7_endsAs_413 : decode cX7_endsAs 413 = .ok (.iadd, 1) := by decide +kernel
theorem dX7_endsAs_414 : decode cX7_endsAs 414 = .ok (.iaload, 1) := by decide +kernel
theorem dX7_endsAs_415 : decode cX7_endsAs 415 = .ok (.iastore, 1) := by decide +kernel
theorem dX7_endsAs_416 : decode cX7_endsAs 416 = .ok (.aload_n 0, 1) := by decide +kernel
theorem dX7_endsAs_417 : decode cX7_endsAs 417 = .ok (.getfield 144, 3) := by decide +kernel
theorem dX7_endsAs_420 : decode cX7_endsAs 420 = .ok (.bipush 6, 2) := by decide +kernel
theorem dX7_endsAs_422 : decode cX7_endsAs 422 = .ok (.iload 5, 2) := by decide +kernel
theorem dX7_endsAs_424 : decode cX7_endsAs 424 = .ok (.imul, 1) := by decide +kernel
theorem dX7_endsAs_425 : decode cX7_endsAs 425 = .ok (.iload 7, 2) := by decide +kernel
theorem dX7_endsAs_427 : decode cX7_endsAs 427 = .ok (.iadd, 1) := by decide +kernel
theorem dX7_endsAs_428 : decode cX7_endsAs 428 = .ok (.aload_n 0, 1) := by decide +kernel
theorem dX7_endsAs_429 : decode cX7_endsAs 429 = .ok (.getfield 105, 3) := by decide +kernel
theorem dX7_endsAs_432 : decode cX7_endsAs 432 = .ok (.bipush 6, 2) := by decide +kernel
theorem dX7_endsAs_434 : decode cX7_endsAs 434 = .ok (.iload 6, 2) := by decide +kernel
theorem dX7_endsAs_436 : decode cX7_endsAs 436 = .ok (.imul, 1) := by decide +kernel
theorem dX7_endsAs_437 : decode cX7_endsAs 437 = .ok (.iload 7, 2) := by decide +kernel
theorem dX7_endsAs_439 : decode cX7_endsAs 439 = .ok (.iadd, 1) := by decide +kernel
theorem dX7_endsAs_440 : decode cX7_endsAs 440 = .ok (.iaload, 1) := by decide +kernel
theorem dX7_endsAs_441 : decode cX7_endsAs 441 = .ok (.iastore, 1) := by decide +kernel
theorem dX7_endsAs_442 : decode cX7_endsAs 442 = .ok (.iinc 7 1, 3) := by decide +kernel
theorem dX7_endsAs_445 : decode cX7_endsAs 445 = .ok (.goto (-88), 3) := by decide +kernel
theorem dX7_endsAs_448 : decode cX7_endsAs 448 = .ok (.iinc 5 1, 3) := by decide +kernel
theorem dX7_endsAs_451 : decode cX7_endsAs 451 = .ok (.goto (-215), 3) := by decide +kernel
theorem dX7_endsAs_454 : decode cX7_endsAs 454 = .ok (.aload_n 0, 1) := by decide +kernel
theorem dX7_endsAs_455 : decode cX7_endsAs 455 = .ok (.bipush (-9), 2) := by decide +kernel
theorem dX7_endsAs_457 : decode cX7_endsAs 457 = .ok (.putfield 62, 3) := by decide +kernel
theorem dX7_endsAs_460 : decode cX7_endsAs 460 = .ok (.return_, 1) := by decide +kernel
set_option maxRecDepth 20000 in
theorem ggX7_walks_X7_nextOf : GoodIn wsX7_walks wsX7_nextOf := goodIn_g _ [(10, 7), (9, 1), (17, 3), (25, 79)] rfl (by decide +kernel)
set_option maxRecDepth 20000 in
theorem gX7_walks_X7_nextOf : GoodIn wsX7_walks (wsV RX7 306 RX7 yX7_nextOf wsX7_nextOf) := goodIn_app (goodIn_of _ (by decide +kernel)) ggX7_walks_X7_nextOf
set_option maxRecDepth 20000 in
theorem ggX7_walks_X7_takes : GoodIn wsX7_walks wsX7_takes := goodIn_g _ [(23, 1), (12, 1), (24, 1), (4, 1), (25, 79)] rfl (by decide +kernel)
set_option maxRecDepth 20000 in
theorem gX7_walks_X7_takes : GoodIn wsX7_walks (wsV RX7 316 RX7 yX7_takes wsX7_takes) := goodIn_app (goodIn_of _ (by decide +kernel)) ggX7_walks_X7_takes
theorem dX7_walks_0 : decode cX7_walks 0 = .ok (.aload_n 0, 1) := by decide +kernel
theorem dX7_walks_1 : decode cX7_walks 1 = .ok (.invokevirtual 306, 3) := by decide +kernel
theorem dX7_walks_4 : decode cX7_walks 4 = .ok (.istore_n 2, 1) := by decide +kernel
theorem dX7_walks_5 : decode cX7_walks 5 = .ok (.iload_n 2, 1) := by decide +kernel
theorem dX7_walks_6 : decode cX7_walks 6 = .ok (.bipush (-9), 2) := by decide +kernel
theorem dX7_walks_8 : decode cX7_walks 8 = .ok (.if_icmp .eq 67, 3) := by decide +kernel
theorem dX7_walks_11 : decode cX7_walks 11 = .ok (.aload_n 0, 1) := by decide +kernel
theorem dX7_walks_12 : decode cX7_walks 12 = .ok (.getfield 92, 3) := by decide +kernel
theorem dX7_walks_15 : decode cX7_walks 15 = .ok (.iload_n 2, 1) := by decide +kernel
theorem dX7_walks_16 : decode cX7_walks 16 = .ok (.baload, 1) := by decide +kernel
theorem dX7_walks_17 : decode cX7_walks 17 = .ok (.ifCond .eq 58, 3) := by decide +kernel
theorem dX7_walks_20 : decode cX7_walks 20 = .ok (.aload_n 0, 1) := by decide +kernel
theorem dX7_walks_21 : decode cX7_walks 21 = .ok (.iload_n 2, 1) := by decide +kernel
theorem dX7_walks_22 : decode cX7_walks 22 = .ok (.invokevirtual 316, 3) := by decide +kernel
theorem dX7_walks_25 : decode cX7_walks 25 = .ok (.aload_n 0, 1) := by decide +kernel
theorem dX7_walks_26 : decode cX7_walks 26 = .ok (.getfield 74, 3) := by decide +kernel
theorem dX7_walks_29 : decode cX7_walks 29 = .ok (.iload_n 2, 1) := by decide +kernel
theorem dX7_walks_30 : decode cX7_walks 30 = .ok (.iaload, 1) := by decide +kernel
theorem dX7_walks_31 : decode cX7_walks 31 = .ok (.aload_n 0, 1) := by decide +kernel
theorem dX7_walks_32 : decode cX7_walks 32 = .ok (.getfield 7, 3) := by decide +kernel
theorem dX7_walks_35 : decode cX7_walks 35 = .ok (.iload_n 1, 1) := by decide +kernel
theorem dX7_walks_36 : decode cX7_walks 36 = .ok (.iaload, 1) := by decide +kernel
theorem dX7_walks_37 : decode cX7_walks 37 = .ok (.if_icmp .ne 5, 3) := by decide +kernel
theorem dX7_walks_40 : decode cX7_walks 40 = .ok (.iconst 1, 1) := by decide +kernel
theorem dX7_walks_41 : decode cX7_walks 41 = .ok (.ireturn, 1) := by decide +kernel
theorem dX7_walks_42 : decode cX7_walks 42 = .ok (.aload_n 0, 1) := by decide +kernel
theorem dX7_walks_43 : decode cX7_walks 43 = .ok (.getfield 303, 3) := by decide +kernel
theorem dX7_walks_46 : decode cX7_walks 46 = .ok (.sipush 250, 3) := by decide +kernel
theorem dX7_walks_49 : decode cX7_walks 49 = .ok (.if_icmp .ne 5, 3) := by decide +kernel
theorem dX7_walks_52 : decode cX7_walks 52 = .ok (.iconst 4, 1) := by decide +kernel
theorem dX7_walks_53 : decode cX7_walks 53 = .ok (.ireturn, 1) := by decide +kernel
theorem dX7_walks_54 : decode cX7_walks 54 = .ok (.aload_n 0, 1) := by decide +kernel
theorem dX7_walks_55 : decode cX7_walks 55 = .ok (.getfield 303, 3) := by decide +kernel
theorem dX7_walks_58 : decode cX7_walks 58 = .ok (.aload_n 0, 1) := by decide +kernel
theorem dX7_walks_59 : decode cX7_walks 59 = .ok (.getfield 319, 3) := by decide +kernel
theorem dX7_walks_62 : decode cX7_walks 62 = .ok (.if_icmp .ne 5, 3) := by decide +kernel
theorem dX7_walks_65 : decode cX7_walks 65 = .ok (.iconst 3, 1) := by decide +kernel
theorem dX7_walks_66 : decode cX7_walks 66 = .ok (.ireturn, 1) := by decide +kernel
theorem dX7_walks_67 : decode cX7_walks 67 = .ok (.aload_n 0, 1) := by decide +kernel
theorem dX7_walks_68 : decode cX7_walks 68 = .ok (.invokevirtual 306, 3) := by decide +kernel
theorem dX7_walks_71 : decode cX7_walks 71 = .ok (.istore_n 2, 1) := by decide +kernel
theorem dX7_walks_72 : decode cX7_walks 72 = .ok (.goto (-67), 3) := by decide +kernel
theorem dX7_walks_75 : decode cX7_walks 75 = .ok (.iload_n 2, 1) := by decide +kernel
theorem dX7_walks_76 : decode cX7_walks 76 = .ok (.bipush (-9), 2) := by decide +kernel
theorem dX7_walks_78 : decode cX7_walks 78 = .ok (.if_icmp .ne 7, 3) := by decide +kernel
theorem dX7_walks_81 : decode cX7_walks 81 = .ok (.iconst 2, 1) := by decide +kernel
theorem dX7_walks_82 : decode cX7_walks 82 = .ok (.goto 4, 3) := by decide +kernel
theorem dX7_walks_85 : decode cX7_walks 85 = .ok (.iconst 0, 1) := by decide +kernel
theorem dX7_walks_86 : decode cX7_walks 86 = .ok (.ireturn, 1) := by decide +kernel
set_option maxRecDepth 20000 in
theorem ggX7_turnOf_X7_isAhead : GoodIn wsX7_turnOf wsX7_isAhead := goodIn_g _ [(15, 3), (94, 79)] rfl (by decide +kernel)
set_option maxRecDepth 20000 in
theorem gX7_turnOf_X7_isAhead : GoodIn wsX7_turnOf (wsV RX7 300 RX7 yX7_isAhead wsX7_isAhead) := goodIn_app (goodIn_of _ (by decide +kernel)) ggX7_turnOf_X7_isAhead
set_option maxRecDepth 20000 in
theorem ggX7_turnOf_X7_opens : GoodIn wsX7_turnOf wsX7_opens := goodIn_g _ [(21, 2), (4, 1), (23, 11), (14, 1), (34, 58), (2, 1), (92, 1), (16, 1), (3, 1), (93, 1), (17, 1), (94, 79)] rfl (by decide +kernel)
set_option maxRecDepth 20000 in
theorem gX7_turnOf_X7_opens : GoodIn wsX7_turnOf (wsV RX7 322 RX7 yX7_opens wsX7_opens) := goodIn_app (goodIn_of _ (by decide +kernel)) ggX7_turnOf_X7_opens
theorem dX7_turnOf_0 : decode cX7_turnOf 0 = .ok (.aload_n 0, 1) := by decide +kernel
theorem dX7_turnOf_1 : decode cX7_turnOf 1 = .ok (.getfield 71, 3) := by decide +kernel
theorem dX7_turnOf_4 : decode cX7_turnOf 4 = .ok (.iload_n 2, 1) := by decide +kernel
theorem dX7_turnOf_5 : decode cX7_turnOf 5 = .ok (.iaload, 1) := by decide +kernel
theorem dX7_turnOf_6 : decode cX7_turnOf 6 = .ok (.bipush (-9), 2) := by decide +kernel
theorem dX7_turnOf_8 : decode cX7_turnOf 8 = .ok (.if_icmp .ne 115, 3) := by decide +kernel
theorem dX7_turnOf_11 : decode cX7_turnOf 11 = .ok (.bipush (-9), 2) := by decide +kernel
theorem dX7_turnOf_13 : decode cX7_turnOf 13 = .ok (.istore_n 3, 1) := by decide +kernel
theorem dX7_turnOf_14 : decode cX7_turnOf 14 = .ok (.iconst 0, 1) := by decide +kernel
theorem dX7_turnOf_15 : decode cX7_turnOf 15 = .ok (.istore 4, 2) := by decide +kernel
theorem dX7_turnOf_17 : decode cX7_turnOf 17 = .ok (.iload 4, 2) := by decide +kernel
theorem dX7_turnOf_19 : decode cX7_turnOf 19 = .ok (.aload_n 0, 1) := by decide +kernel
theorem dX7_turnOf_20 : decode cX7_turnOf 20 = .ok (.getfield 284, 3) := by decide +kernel
theorem dX7_turnOf_23 : decode cX7_turnOf 23 = .ok (.if_icmp .ge 44, 3) := by decide +kernel
theorem dX7_turnOf_26 : decode cX7_turnOf 26 = .ok (.aload_n 0, 1) := by decide +kernel
theorem dX7_turnOf_27 : decode cX7_turnOf 27 = .ok (.getfield 89, 3) := by decide +kernel
theorem dX7_turnOf_30 : decode cX7_turnOf 30 = .ok (.iload 4, 2) := by decide +kernel
theorem dX7_turnOf_32 : decode cX7_turnOf 32 = .ok (.iaload, 1) := by decide +kernel
theorem dX7_turnOf_33 : decode cX7_turnOf 33 = .ok (.bipush (-9), 2) := by decide +kernel
theorem dX7_turnOf_35 : decode cX7_turnOf 35 = .ok (.if_icmp .ne 24, 3) := by decide +kernel
theorem dX7_turnOf_38 : decode cX7_turnOf 38 = .ok (.iload_n 3, 1) := by decide +kernel
theorem dX7_turnOf_39 : decode cX7_turnOf 39 = .ok (.bipush (-9), 2) := by decide +kernel
theorem dX7_turnOf_41 : decode cX7_turnOf 41 = .ok (.if_icmp .eq 13, 3) := by decide +kernel
theorem dX7_turnOf_44 : decode cX7_turnOf 44 = .ok (.aload_n 0, 1) := by decide +kernel
theorem dX7_turnOf_45 : decode cX7_turnOf 45 = .ok (.iload 4, 2) := by decide +kernel
theorem dX7_turnOf_47 : decode cX7_turnOf 47 = .ok (.iload_n 3, 1) := by decide +kernel
theorem dX7_turnOf_48 : decode cX7_turnOf 48 = .ok (.invokevirtual 300, 3) := by decide +kernel
theorem dX7_turnOf_51 : decode cX7_turnOf 51 = .ok (.ifCond .eq 8, 3) := by decide +kernel
theorem dX7_turnOf_54 : decode cX7_turnOf 54 = .ok (.iload 4, 2) := by decide +kernel
theorem dX7_turnOf_56 : decode cX7_turnOf 56 = .ok (.goto 4, 3) := by decide +kernel
theorem dX7_turnOf_59 : decode cX7_turnOf 59 = .ok (.iload_n 3, 1) := by decide +kernel
theorem dX7_turnOf_60 : decode cX7_turnOf 60 = .ok (.istore_n 3, 1) := by decide +kernel
theorem dX7_turnOf_61 : decode cX7_turnOf 61 = .ok (.iinc 4 1, 3) := by decide +kernel
theorem dX7_turnOf_64 : decode cX7_turnOf 64 = .ok (.goto (-47), 3) := by decide +kernel
theorem dX7_turnOf_67 : decode cX7_turnOf 67 = .ok (.iload_n 3, 1) := by decide +kernel
theorem dX7_turnOf_68 : decode cX7_turnOf 68 = .ok (.bipush (-9), 2) := by decide +kernel
theorem dX7_turnOf_70 : decode cX7_turnOf 70 = .ok (.if_icmp .eq 17, 3) := by decide +kernel
theorem dX7_turnOf_73 : decode cX7_turnOf 73 = .ok (.aload_n 0, 1) := by decide +kernel
theorem dX7_turnOf_74 : decode cX7_turnOf 74 = .ok (.getfield 287, 3) := by decide +kernel
theorem dX7_turnOf_77 : decode cX7_turnOf 77 = .ok (.aload_n 0, 1) := by decide +kernel
theorem dX7_turnOf_78 : decode cX7_turnOf 78 = .ok (.getfield 303, 3) := by decide +kernel
theorem dX7_turnOf_81 : decode cX7_turnOf 81 = .ok (.isub, 1) := by decide +kernel
theorem dX7_turnOf_82 : decode cX7_turnOf 82 = .ok (.bipush 30, 2) := by decide +kernel
theorem dX7_turnOf_84 : decode cX7_turnOf 84 = .ok (.if_icmp .lt 14, 3) := by decide +kernel
theorem dX7_turnOf_87 : decode cX7_turnOf 87 = .ok (.aload_n 0, 1) := by decide +kernel
theorem dX7_turnOf_88 : decode cX7_turnOf 88 = .ok (.getfield 53, 3) := by decide +kernel
theorem dX7_turnOf_91 : decode cX7_turnOf 91 = .ok (.iload_n 2, 1) := by decide +kernel
theorem dX7_turnOf_92 : decode cX7_turnOf 92 = .ok (.dup2, 1) := by decide +kernel
theorem dX7_turnOf_93 : decode cX7_turnOf 93 = .ok (.iaload, 1) := by decide +kernel
theorem dX7_turnOf_94 : decode cX7_turnOf 94 = .ok (.iconst 1, 1) := by decide +kernel
theorem dX7_turnOf_95 : decode cX7_turnOf 95 = .ok (.iadd, 1) := by decide +kernel
theorem dX7_turnOf_96 : decode cX7_turnOf 96 = .ok (.iastore, 1) := by decide +kernel
theorem dX7_turnOf_97 : decode cX7_turnOf 97 = .ok (.return_, 1) := by decide +kernel
theorem dX7_turnOf_98 : decode cX7_turnOf 98 = .ok (.aload_n 0, 1) := by decide +kernel
theorem dX7_turnOf_99 : decode cX7_turnOf 99 = .ok (.getfield 71, 3) := by decide +kernel
theorem dX7_turnOf_102 : decode cX7_turnOf 102 = .ok (.iload_n 2, 1) := by decide +kernel
theorem dX7_turnOf_103 : decode cX7_turnOf 103 = .ok (.iload_n 3, 1) := by decide +kernel
theorem dX7_turnOf_104 : decode cX7_turnOf 104 = .ok (.iastore, 1) := by decide +kernel
theorem dX7_turnOf_105 : decode cX7_turnOf 105 = .ok (.aload_n 0, 1) := by decide +kernel
theorem dX7_turnOf_106 : decode cX7_turnOf 106 = .ok (.getfield 89, 3) := by decide +kernel
theorem dX7_turnOf_109 : decode cX7_turnOf 109 = .ok (.iload_n 3, 1) := by decide +kernel
theorem dX7_turnOf_110 : decode cX7_turnOf 110 = .ok (.iload_n 2, 1) := by decide +kernel
theorem dX7_turnOf_111 : decode cX7_turnOf 111 = .ok (.iastore, 1) := by decide +kernel
theorem dX7_turnOf_112 : decode cX7_turnOf 112 = .ok (.aload_n 0, 1) := by decide +kernel
theorem dX7_turnOf_113 : decode cX7_turnOf 113 = .ok (.getfield 68, 3) := by decide +kernel
theorem dX7_turnOf_116 : decode cX7_turnOf 116 = .ok (.iload_n 2, 1) := by decide +kernel
theorem dX7_turnOf_117 : decode cX7_turnOf 117 = .ok (.dup2, 1) := by decide +kernel
theorem dX7_turnOf_118 : decode cX7_turnOf 118 = .ok (.iaload, 1) := by decide +kernel
theorem dX7_turnOf_119 : decode cX7_turnOf 119 = .ok (.iconst 1, 1) := by decide +kernel
theorem dX7_turnOf_120 : decode cX7_turnOf 120 = .ok (.iadd, 1) := by decide +kernel
theorem dX7_turnOf_121 : decode cX7_turnOf 121 = .ok (.iastore, 1) := by decide +kernel
theorem dX7_turnOf_122 : decode cX7_turnOf 122 = .ok (.return_, 1) := by decide +kernel
theorem dX7_turnOf_123 : decode cX7_turnOf 123 = .ok (.aload_n 0, 1) := by decide +kernel
theorem dX7_turnOf_124 : decode cX7_turnOf 124 = .ok (.getfield 71, 3) := by decide +kernel
theorem dX7_turnOf_127 : decode cX7_turnOf 127 = .ok (.iload_n 2, 1) := by decide +kernel
theorem dX7_turnOf_128 : decode cX7_turnOf 128 = .ok (.iaload, 1) := by decide +kernel
theorem dX7_turnOf_129 : decode cX7_turnOf 129 = .ok (.istore_n 3, 1) := by decide +kernel
theorem dX7_turnOf_130 : decode cX7_turnOf 130 = .ok (.aload_n 0, 1) := by decide +kernel
theorem dX7_turnOf_131 : decode cX7_turnOf 131 = .ok (.getfield 71, 3) := by decide +kernel
theorem dX7_turnOf_134 : decode cX7_turnOf 134 = .ok (.iload_n 2, 1) := by decide +kernel
theorem dX7_turnOf_135 : decode cX7_turnOf 135 = .ok (.bipush (-9), 2) := by decide +kernel
theorem dX7_turnOf_137 : decode cX7_turnOf 137 = .ok (.iastore, 1) := by decide +kernel
theorem dX7_turnOf_138 : decode cX7_turnOf 138 = .ok (.aload_n 0, 1) := by decide +kernel
theorem dX7_turnOf_139 : decode cX7_turnOf 139 = .ok (.getfield 65, 3) := by decide +kernel
theorem dX7_turnOf_142 : decode cX7_turnOf 142 = .ok (.iload_n 2, 1) := by decide +kernel
theorem dX7_turnOf_143 : decode cX7_turnOf 143 = .ok (.iaload, 1) := by decide +kernel
theorem dX7_turnOf_144 : decode cX7_turnOf 144 = .ok (.ifCond .le 44, 3) := by decide +kernel
theorem dX7_turnOf_147 : decode cX7_turnOf 147 = .ok (.aload_n 0, 1) := by decide +kernel
theorem dX7_turnOf_148 : decode cX7_turnOf 148 = .ok (.getfield 68, 3) := by decide +kernel
theorem dX7_turnOf_151 : decode cX7_turnOf 151 = .ok (.iload_n 2, 1) := by decide +kernel
theorem dX7_turnOf_152 : decode cX7_turnOf 152 = .ok (.iaload, 1) := by decide +kernel
theorem dX7_turnOf_153 : decode cX7_turnOf 153 = .ok (.aload_n 0, 1) := by decide +kernel
theorem dX7_turnOf_154 : decode cX7_turnOf 154 = .ok (.getfield 65, 3) := by decide +kernel
theorem dX7_turnOf_157 : decode cX7_turnOf 157 = .ok (.iload_n 2, 1) := by decide +kernel
theorem dX7_turnOf_158 : decode cX7_turnOf 158 = .ok (.iaload, 1) := by decide +kernel
theorem dX7_turnOf_159 : decode cX7_turnOf 159 = .ok (.if_icmp .ne 29, 3) := by decide +kernel
theorem dX7_turnOf_162 : decode cX7_turnOf 162 = .ok (.aload_n 0, 1) := by decide +kernel
theorem dX7_turnOf_163 : decode cX7_turnOf 163 = .ok (.getfield 89, 3) := by decide +kernel
theorem dX7_turnOf_166 : decode cX7_turnOf 166 = .ok (.iload_n 3, 1) := by decide +kernel
theorem dX7_turnOf_167 : decode cX7_turnOf 167 = .ok (.bipush (-9), 2) := by decide +kernel
theorem dX7_turnOf_169 : decode cX7_turnOf 169 = .ok (.iastore, 1) := by decide +kernel
theorem dX7_turnOf_170 : decode cX7_turnOf 170 = .ok (.aload_n 0, 1) := by decide +kernel
theorem dX7_turnOf_171 : decode cX7_turnOf 171 = .ok (.getfield 65, 3) := by decide +kernel
theorem dX7_turnOf_174 : decode cX7_turnOf 174 = .ok (.iload_n 2, 1) := by decide +kernel
theorem dX7_turnOf_175 : decode cX7_turnOf 175 = .ok (.iconst 0, 1) := by decide +kernel
theorem dX7_turnOf_176 : decode cX7_turnOf 176 = .ok (.iastore, 1) := by decide +kernel
theorem dX7_turnOf_177 : decode cX7_turnOf 177 = .ok (.aload_n 0, 1) := by decide +kernel
theorem dX7_turnOf_178 : decode cX7_turnOf 178 = .ok (.getfield 56, 3) := by decide +kernel
theorem dX7_turnOf_181 : decode cX7_turnOf 181 = .ok (.iload_n 2, 1) := by decide +kernel
theorem dX7_turnOf_182 : decode cX7_turnOf 182 = .ok (.dup2, 1) := by decide +kernel
theorem dX7_turnOf_183 : decode cX7_turnOf 183 = .ok (.iaload, 1) := by decide +kernel
theorem dX7_turnOf_184 : decode cX7_turnOf 184 = .ok (.iconst 1, 1) := by decide +kernel
theorem dX7_turnOf_185 : decode cX7_turnOf 185 = .ok (.iadd, 1) := by decide +kernel
theorem dX7_turnOf_186 : decode cX7_turnOf 186 = .ok (.iastore, 1) := by decide +kernel
theorem dX7_turnOf_187 : decode cX7_turnOf 187 = .ok (.return_, 1) := by decide +kernel
theorem dX7_turnOf_188 : decode cX7_turnOf 188 = .ok (.aload_n 0, 1) := by decide +kernel
theorem dX7_turnOf_189 : decode cX7_turnOf 189 = .ok (.getfield 59, 3) := by decide +kernel
theorem dX7_turnOf_192 : decode cX7_turnOf 192 = .ok (.iload_n 2, 1) := by decide +kernel
theorem dX7_turnOf_193 : decode cX7_turnOf 193 = .ok (.dup2, 1) := by decide +kernel
theorem dX7_turnOf_194 : decode cX7_turnOf 194 = .ok (.iaload, 1) := by decide +kernel
theorem dX7_turnOf_195 : decode cX7_turnOf 195 = .ok (.iconst 1, 1) := by decide +kernel
theorem dX7_turnOf_196 : decode cX7_turnOf 196 = .ok (.iadd, 1) := by decide +kernel
theorem dX7_turnOf_197 : decode cX7_turnOf 197 = .ok (.iastore, 1) := by decide +kernel
theorem dX7_turnOf_198 : decode cX7_turnOf 198 = .ok (.aload_n 0, 1) := by decide +kernel
theorem dX7_turnOf_199 : decode cX7_turnOf 199 = .ok (.iload_n 1, 1) := by decide +kernel
theorem dX7_turnOf_200 : decode cX7_turnOf 200 = .ok (.iload_n 3, 1) := by decide +kernel
theorem dX7_turnOf_201 : decode cX7_turnOf 201 = .ok (.iconst 1, 1) := by decide +kernel
theorem dX7_turnOf_202 : decode cX7_turnOf 202 = .ok (.invokevirtual 322, 3) := by decide +kernel
theorem dX7_turnOf_205 : decode cX7_turnOf 205 = .ok (.return_, 1) := by decide +kernel
set_option maxRecDepth 20000 in
theorem ggX7_solve_X7_isProblem : GoodIn wsX7_solve wsX7_isProblem := goodIn_g _ [(19, 4), (18, 1), (23, 1), (150, 79)] rfl (by decide +kernel)
set_option maxRecDepth 20000 in
theorem gX7_solve_X7_isProblem : GoodIn wsX7_solve (wsV RX7 214 RX7 yX7_isProblem wsX7_isProblem) := goodIn_app (goodIn_of _ (by decide +kernel)) ggX7_solve_X7_isProblem
set_option maxRecDepth 20000 in
theorem ggX7_solve_X7_in : GoodIn wsX7_solve wsX7_in := goodIn_g _ [(23, 1)] rfl (by decide +kernel)
set_option maxRecDepth 20000 in
theorem gX7_solve_X7_in : GoodIn wsX7_solve (va_wsS RX7 207 yX7_in wsX7_in) := goodIn_app (goodIn_of _ (by decide +kernel)) ggX7_solve_X7_in
set_option maxRecDepth 20000 in
theorem ggX7_solve_X7_begins : GoodIn wsX7_solve wsX7_begins := goodIn_g _ [(27, 1), (11, 1), (28, 6), (18, 1), (34, 65), (150, 79)] rfl (by decide +kernel)
set_option maxRecDepth 20000 in
theorem gX7_solve_X7_begins : GoodIn wsX7_solve (wsV RX7 326 RX7 yX7_begins wsX7_begins) := goodIn_app (goodIn_of _ (by decide +kernel)) ggX7_solve_X7_begins
set_option maxRecDepth 20000 in
theorem ggX7_solve_X7_endsAs : GoodIn wsX7_solve wsX7_endsAs := goodIn_g _ [(102, 1), (29, 1), (103, 2), (28, 1), (5, 1), (92, 1), (105, 4), (97, 1), (109, 2), (90, 1), (111, 2), (93, 1), (113, 1), (96, 1), (114, 1), (37, 2), (115, 5), (2, 1), (120, 3), (18, 1), (123, 1), (11, 1), (95, 1), (91, 1), (124, 4), (98, 1), (150, 79)] rfl (by decide +kernel)
set_option maxRecDepth 20000 in
theorem gX7_solve_X7_endsAs : GoodIn wsX7_solve (wsV RX7 330 RX7 yX7_endsAs wsX7_endsAs) := goodIn_app (goodIn_of _ (by decide +kernel)) ggX7_solve_X7_endsAs
set_option maxRecDepth 20000 in
theorem ggX7_solve_X7_turnOf : GoodIn wsX7_solve wsX7_turnOf := goodIn_g _ [(131, 1), (10, 2), (93, 1), (28, 2), (132, 1), (8, 1), (6, 1), (133, 1), (9, 1), (124, 3), (18, 1), (127, 1), (92, 1), (98, 1), (134, 4), (94, 1), (90, 1), (37, 2), (30, 1), (117, 1), (119, 1), (35, 1), (96, 1), (138, 4), (97, 1), (31, 4), (36, 1), (39, 51), (91, 1), (95, 1), (150, 79)] rfl (by decide +kernel)
set_option maxRecDepth 20000 in
theorem gX7_solve_X7_turnOf : GoodIn wsX7_solve (wsV RX7 333 RX7 yX7_turnOf wsX7_turnOf) := goodIn_app (goodIn_of _ (by decide +kernel)) ggX7_solve_X7_turnOf
set_option maxRecDepth 20000 in
theorem ggX7_solve_X7_walks : GoodIn wsX7_solve wsX7_walks := goodIn_g _ [(145, 1), (94, 1), (90, 1), (37, 1), (29, 1), (4, 1), (120, 3), (18, 1), (123, 1), (11, 1), (95, 1), (91, 1), (124, 4), (92, 1), (98, 1), (146, 4), (103, 1), (150, 79)] rfl (by decide +kernel)
set_option maxRecDepth 20000 in
theorem gX7_solve_X7_walks : GoodIn wsX7_solve (wsV RX7 336 RX7 yX7_walks wsX7_walks) := goodIn_app (goodIn_of _ (by decide +kernel)) ggX7_solve_X7_walks
theorem dX7_solve_0 : decode cX7_solve 0 = .ok (.aload_n 0, 1) := by decide +kernel
theorem dX7_solve_1 : decode cX7_solve 1 = .ok (.iconst 0, 1) := by decide +kernel
theorem dX7_solve_2 : decode cX7_solve 2 = .ok (.putfield 201, 3) := by decide +kernel
theorem dX7_solve_5 : decode cX7_solve 5 = .ok (.aload_n 0, 1) := by decide +kernel
theorem dX7_solve_6 : decode cX7_solve 6 = .ok (.iload_n 1, 1) := by decide +kernel
theorem dX7_solve_7 : decode cX7_solve 7 = .ok (.invokevirtual 214, 3) := by decide +kernel
theorem dX7_solve_10 : decode cX7_solve 10 = .ok (.ifCond .eq 14, 3) := by decide +kernel
theorem dX7_solve_13 : decode cX7_solve 13 = .ok (.iload_n 2, 1) := by decide +kernel
theorem dX7_solve_14 : decode cX7_solve 14 = .ok (.iconst 1, 1) := by decide +kernel
theorem dX7_solve_15 : decode cX7_solve 15 = .ok (.sipush 500, 3) := by decide +kernel
theorem dX7_solve_18 : decode cX7_solve 18 = .ok (.invokestatic 207, 3) := by decide +kernel
theorem dX7_solve_21 : decode cX7_solve 21 = .ok (.ifCond .ne 5, 3) := by decide +kernel
theorem dX7_solve_24 : decode cX7_solve 24 = .ok (.iconst (-1), 1) := by decide +kernel
theorem dX7_solve_25 : decode cX7_solve 25 = .ok (.ireturn, 1) := by decide +kernel
theorem dX7_solve_26 : decode cX7_solve 26 = .ok (.aload_n 0, 1) := by decide +kernel
theorem dX7_solve_27 : decode cX7_solve 27 = .ok (.getfield 62, 3) := by decide +kernel
theorem dX7_solve_30 : decode cX7_solve 30 = .ok (.bipush (-9), 2) := by decide +kernel
theorem dX7_solve_32 : decode cX7_solve 32 = .ok (.if_icmp .eq 14, 3) := by decide +kernel
theorem dX7_solve_35 : decode cX7_solve 35 = .ok (.aload_n 0, 1) := by decide +kernel
theorem dX7_solve_36 : decode cX7_solve 36 = .ok (.getfield 62, 3) := by decide +kernel
theorem dX7_solve_39 : decode cX7_solve 39 = .ok (.iload_n 1, 1) := by decide +kernel
theorem dX7_solve_40 : decode cX7_solve 40 = .ok (.if_icmp .eq 6, 3) := by decide +kernel
theorem dX7_solve_43 : decode cX7_solve 43 = .ok (.bipush (-2), 2) := by decide +kernel
theorem dX7_solve_45 : decode cX7_solve 45 = .ok (.ireturn, 1) := by decide +kernel
theorem dX7_solve_46 : decode cX7_solve 46 = .ok (.aload_n 0, 1) := by decide +kernel
theorem dX7_solve_47 : decode cX7_solve 47 = .ok (.getfield 62, 3) := by decide +kernel
theorem dX7_solve_50 : decode cX7_solve 50 = .ok (.bipush (-9), 2) := by decide +kernel
theorem dX7_solve_52 : decode cX7_solve 52 = .ok (.if_icmp .ne 89, 3) := by decide +kernel
theorem dX7_solve_55 : decode cX7_solve 55 = .ok (.aload_n 0, 1) := by decide +kernel
theorem dX7_solve_56 : decode cX7_solve 56 = .ok (.iload_n 1, 1) := by decide +kernel
theorem dX7_solve_57 : decode cX7_solve 57 = .ok (.putfield 62, 3) := by decide +kernel
theorem dX7_solve_60 : decode cX7_solve 60 = .ok (.aload_n 0, 1) := by decide +kernel
theorem dX7_solve_61 : decode cX7_solve 61 = .ok (.aload_n 0, 1) := by decide +kernel
theorem dX7_solve_62 : decode cX7_solve 62 = .ok (.getfield 246, 3) := by decide +kernel
theorem dX7_solve_65 : decode cX7_solve 65 = .ok (.putfield 319, 3) := by decide +kernel
theorem dX7_solve_68 : decode cX7_solve 68 = .ok (.aload_n 0, 1) := by decide +kernel
theorem dX7_solve_69 : decode cX7_solve 69 = .ok (.iconst 0, 1) := by decide +kernel
theorem dX7_solve_70 : decode cX7_solve 70 = .ok (.putfield 310, 3) := by decide +kernel
theorem dX7_solve_73 : decode cX7_solve 73 = .ok (.iconst 0, 1) := by decide +kernel
theorem dX7_solve_74 : decode cX7_solve 74 = .ok (.istore_n 3, 1) := by decide +kernel
theorem dX7_solve_75 : decode cX7_solve 75 = .ok (.iload_n 3, 1) := by decide +kernel
theorem dX7_solve_76 : decode cX7_solve 76 = .ok (.iconst 5, 1) := by decide +kernel
theorem dX7_solve_77 : decode cX7_solve 77 = .ok (.if_icmp .ge 43, 3) := by decide +kernel
theorem dX7_solve_80 : decode cX7_solve 80 = .ok (.aload_n 0, 1) := by decide +kernel
theorem dX7_solve_81 : decode cX7_solve 81 = .ok (.getfield 65, 3) := by decide +kernel
theorem dX7_solve_84 : decode cX7_solve 84 = .ok (.iload_n 3, 1) := by decide +kernel
theorem dX7_solve_85 : decode cX7_solve 85 = .ok (.aload_n 0, 1) := by decide +kernel
theorem dX7_solve_86 : decode cX7_solve 86 = .ok (.getfield 47, 3) := by decide +kernel
theorem dX7_solve_89 : decode cX7_solve 89 = .ok (.iload_n 3, 1) := by decide +kernel
theorem dX7_solve_90 : decode cX7_solve 90 = .ok (.iaload, 1) := by decide +kernel
theorem dX7_solve_91 : decode cX7_solve 91 = .ok (.iastore, 1) := by decide +kernel
theorem dX7_solve_92 : decode cX7_solve 92 = .ok (.aload_n 0, 1) := by decide +kernel
theorem dX7_solve_93 : decode cX7_solve 93 = .ok (.getfield 68, 3) := by decide +kernel
theorem dX7_solve_96 : decode cX7_solve 96 = .ok (.iload_n 3, 1) := by decide +kernel
theorem dX7_solve_97 : decode cX7_solve 97 = .ok (.iconst 0, 1) := by decide +kernel
theorem dX7_solve_98 : decode cX7_solve 98 = .ok (.iastore, 1) := by decide +kernel
theorem dX7_solve_99 : decode cX7_solve 99 = .ok (.aload_n 0, 1) := by decide +kernel
theorem dX7_solve_100 : decode cX7_solve 100 = .ok (.getfield 59, 3) := by decide +kernel
theorem dX7_solve_103 : decode cX7_solve 103 = .ok (.iload_n 3, 1) := by decide +kernel
theorem dX7_solve_104 : decode cX7_solve 104 = .ok (.iconst 0, 1) := by decide +kernel
theorem dX7_solve_105 : decode cX7_solve 105 = .ok (.iastore, 1) := by decide +kernel
theorem dX7_solve_106 : decode cX7_solve 106 = .ok (.aload_n 0, 1) := by decide +kernel
theorem dX7_solve_107 : decode cX7_solve 107 = .ok (.getfield 71, 3) := by decide +kernel
theorem dX7_solve_110 : decode cX7_solve 110 = .ok (.iload_n 3, 1) := by decide +kernel
theorem dX7_solve_111 : decode cX7_solve 111 = .ok (.bipush (-9), 2) := by decide +kernel
theorem dX7_solve_113 : decode cX7_solve 113 = .ok (.iastore, 1) := by decide +kernel
theorem dX7_solve_114 : decode cX7_solve 114 = .ok (.iinc 3 1, 3) := by decide +kernel
theorem dX7_solve_117 : decode cX7_solve 117 = .ok (.goto (-42), 3) := by decide +kernel
theorem dX7_solve_120 : decode cX7_solve 120 = .ok (.aload_n 0, 1) := by decide +kernel
theorem dX7_solve_121 : decode cX7_solve 121 = .ok (.iload_n 1, 1) := by decide +kernel
theorem dX7_solve_122 : decode cX7_solve 122 = .ok (.iconst 1, 1) := by decide +kernel
theorem dX7_solve_123 : decode cX7_solve 123 = .ok (.invokevirtual 326, 3) := by decide +kernel
theorem dX7_solve_126 : decode cX7_solve 126 = .ok (.aload_n 0, 1) := by decide +kernel
theorem dX7_solve_127 : decode cX7_solve 127 = .ok (.getfield 284, 3) := by decide +kernel
theorem dX7_solve_130 : decode cX7_solve 130 = .ok (.ifCond .ne 11, 3) := by decide +kernel
theorem dX7_solve_133 : decode cX7_solve 133 = .ok (.aload_n 0, 1) := by decide +kernel
theorem dX7_solve_134 : decode cX7_solve 134 = .ok (.iload_n 1, 1) := by decide +kernel
theorem dX7_solve_135 : decode cX7_solve 135 = .ok (.iconst 2, 1) := by decide +kernel
theorem dX7_solve_136 : decode cX7_solve 136 = .ok (.invokevirtual 330, 3) := by decide +kernel
theorem dX7_solve_139 : decode cX7_solve 139 = .ok (.iconst 2, 1) := by decide +kernel
theorem dX7_solve_140 : decode cX7_solve 140 = .ok (.ireturn, 1) := by decide +kernel
theorem dX7_solve_141 : decode cX7_solve 141 = .ok (.iconst 0, 1) := by decide +kernel
theorem dX7_solve_142 : decode cX7_solve 142 = .ok (.istore_n 3, 1) := by decide +kernel
theorem dX7_solve_143 : decode cX7_solve 143 = .ok (.iload_n 3, 1) := by decide +kernel
theorem dX7_solve_144 : decode cX7_solve 144 = .ok (.iload_n 2, 1) := by decide +kernel
theorem dX7_solve_145 : decode cX7_solve 145 = .ok (.if_icmp .ge 100, 3) := by decide +kernel
theorem dX7_solve_148 : decode cX7_solve 148 = .ok (.aload_n 0, 1) := by decide +kernel
theorem dX7_solve_149 : decode cX7_solve 149 = .ok (.getfield 310, 3) := by decide +kernel
theorem dX7_solve_152 : decode cX7_solve 152 = .ok (.aload_n 0, 1) := by decide +kernel
theorem dX7_solve_153 : decode cX7_solve 153 = .ok (.getfield 243, 3) := by decide +kernel
theorem dX7_solve_156 : decode cX7_solve 156 = .ok (.if_icmp .ge 15, 3) := by decide +kernel
theorem dX7_solve_159 : decode cX7_solve 159 = .ok (.aload_n 0, 1) := by decide +kernel
theorem dX7_solve_160 : decode cX7_solve 160 = .ok (.getfield 50, 3) := by decide +kernel
theorem dX7_solve_163 : decode cX7_solve 163 = .ok (.aload_n 0, 1) := by decide +kernel
theorem dX7_solve_164 : decode cX7_solve 164 = .ok (.getfield 310, 3) := by decide +kernel
theorem dX7_solve_167 : decode cX7_solve 167 = .ok (.iaload, 1) := by decide +kernel
theorem dX7_solve_168 : decode cX7_solve 168 = .ok (.goto 17, 3) := by decide +kernel
theorem dX7_solve_171 : decode cX7_solve 171 = .ok (.aload_n 0, 1) := by decide +kernel
theorem dX7_solve_172 : decode cX7_solve 172 = .ok (.getfield 310, 3) := by decide +kernel
theorem dX7_solve_175 : decode cX7_solve 175 = .ok (.aload_n 0, 1) := by decide +kernel
theorem dX7_solve_176 : decode cX7_solve 176 = .ok (.getfield 243, 3) := by decide +kernel
theorem dX7_solve_179 : decode cX7_solve 179 = .ok (.isub, 1) := by decide +kernel
theorem dX7_solve_180 : decode cX7_solve 180 = .ok (.aload_n 0, 1) := by decide +kernel
theorem dX7_solve_181 : decode cX7_solve 181 = .ok (.getfield 43, 3) := by decide +kernel
theorem dX7_solve_184 : decode cX7_solve 184 = .ok (.irem, 1) := by decide +kernel
theorem dX7_solve_185 : decode cX7_solve 185 = .ok (.istore 4, 2) := by decide +kernel
theorem dX7_solve_187 : decode cX7_solve 187 = .ok (.aload_n 0, 1) := by decide +kernel
theorem dX7_solve_188 : decode cX7_solve 188 = .ok (.dup, 1) := by decide +kernel
theorem dX7_solve_189 : decode cX7_solve 189 = .ok (.getfield 310, 3) := by decide +kernel
theorem dX7_solve_192 : decode cX7_solve 192 = .ok (.iconst 1, 1) := by decide +kernel
theorem dX7_solve_193 : decode cX7_solve 193 = .ok (.iadd, 1) := by decide +kernel
theorem dX7_solve_194 : decode cX7_solve 194 = .ok (.putfield 310, 3) := by decide +kernel
theorem dX7_solve_197 : decode cX7_solve 197 = .ok (.aload_n 0, 1) := by decide +kernel
theorem dX7_solve_198 : decode cX7_solve 198 = .ok (.iload_n 1, 1) := by decide +kernel
theorem dX7_solve_199 : decode cX7_solve 199 = .ok (.iload 4, 2) := by decide +kernel
theorem dX7_solve_201 : decode cX7_solve 201 = .ok (.aload_n 0, 1) := by decide +kernel
theorem dX7_solve_202 : decode cX7_solve 202 = .ok (.getfield 43, 3) := by decide +kernel
theorem dX7_solve_205 : decode cX7_solve 205 = .ok (.if_icmp .ge 8, 3) := by decide +kernel
theorem dX7_solve_208 : decode cX7_solve 208 = .ok (.iload 4, 2) := by decide +kernel
theorem dX7_solve_210 : decode cX7_solve 210 = .ok (.goto 4, 3) := by decide +kernel
theorem dX7_solve_213 : decode cX7_solve 213 = .ok (.iconst 0, 1) := by decide +kernel
theorem dX7_solve_214 : decode cX7_solve 214 = .ok (.invokevirtual 333, 3) := by decide +kernel
theorem dX7_solve_217 : decode cX7_solve 217 = .ok (.aload_n 0, 1) := by decide +kernel
theorem dX7_solve_218 : decode cX7_solve 218 = .ok (.iload_n 1, 1) := by decide +kernel
theorem dX7_solve_219 : decode cX7_solve 219 = .ok (.invokevirtual 336, 3) := by decide +kernel
theorem dX7_solve_222 : decode cX7_solve 222 = .ok (.istore 5, 2) := by decide +kernel
theorem dX7_solve_224 : decode cX7_solve 224 = .ok (.iload 5, 2) := by decide +kernel
theorem dX7_solve_226 : decode cX7_solve 226 = .ok (.ifCond .le 13, 3) := by decide +kernel
theorem dX7_solve_229 : decode cX7_solve 229 = .ok (.aload_n 0, 1) := by decide +kernel
theorem dX7_solve_230 : decode cX7_solve 230 = .ok (.iload_n 1, 1) := by decide +kernel
theorem dX7_solve_231 : decode cX7_solve 231 = .ok (.iload 5, 2) := by decide +kernel
theorem dX7_solve_233 : decode cX7_solve 233 = .ok (.invokevirtual 330, 3) := by decide +kernel
theorem dX7_solve_236 : decode cX7_solve 236 = .ok (.iload 5, 2) := by decide +kernel
theorem dX7_solve_238 : decode cX7_solve 238 = .ok (.ireturn, 1) := by decide +kernel
theorem dX7_solve_239 : decode cX7_solve 239 = .ok (.iinc 3 1, 3) := by decide +kernel
theorem dX7_solve_242 : decode cX7_solve 242 = .ok (.goto (-99), 3) := by decide +kernel
theorem dX7_solve_245 : decode cX7_solve 245 = .ok (.iconst 0, 1) := by decide +kernel
theorem dX7_solve_246 : decode cX7_solve 246 = .ok (.ireturn, 1) := by decide +kernel
theorem dX7_giveUp_0 : decode cX7_giveUp 0 = .ok (.aload_n 0, 1) := by decide +kernel
theorem dX7_giveUp_1 : decode cX7_giveUp 1 = .ok (.iconst 0, 1) := by decide +kernel
theorem dX7_giveUp_2 : decode cX7_giveUp 2 = .ok (.putfield 201, 3) := by decide +kernel
theorem dX7_giveUp_5 : decode cX7_giveUp 5 = .ok (.aload_n 0, 1) := by decide +kernel
theorem dX7_giveUp_6 : decode cX7_giveUp 6 = .ok (.getfield 62, 3) := by decide +kernel
theorem dX7_giveUp_9 : decode cX7_giveUp 9 = .ok (.bipush (-9), 2) := by decide +kernel
theorem dX7_giveUp_11 : decode cX7_giveUp 11 = .ok (.if_icmp .ne 6, 3) := by decide +kernel
theorem dX7_giveUp_14 : decode cX7_giveUp 14 = .ok (.bipush (-2), 2) := by decide +kernel
theorem dX7_giveUp_16 : decode cX7_giveUp 16 = .ok (.ireturn, 1) := by decide +kernel
theorem dX7_giveUp_17 : decode cX7_giveUp 17 = .ok (.aload_n 0, 1) := by decide +kernel
theorem dX7_giveUp_18 : decode cX7_giveUp 18 = .ok (.getfield 62, 3) := by decide +kernel
theorem dX7_giveUp_21 : decode cX7_giveUp 21 = .ok (.istore_n 1, 1) := by decide +kernel
theorem dX7_giveUp_22 : decode cX7_giveUp 22 = .ok (.aload_n 0, 1) := by decide +kernel
theorem dX7_giveUp_23 : decode cX7_giveUp 23 = .ok (.bipush (-9), 2) := by decide +kernel
theorem dX7_giveUp_25 : decode cX7_giveUp 25 = .ok (.putfield 62, 3) := by decide +kernel
theorem dX7_giveUp_28 : decode cX7_giveUp 28 = .ok (.iload_n 1, 1) := by decide +kernel
theorem dX7_giveUp_29 : decode cX7_giveUp 29 = .ok (.ireturn, 1) := by decide +kernel
set_option maxRecDepth 20000 in
theorem ggX7_told_X7_isProblem : GoodIn wsX7_told wsX7_isProblem := goodIn_g _ [(8, 4), (7, 1), (12, 80)] rfl (by decide +kernel)
set_option maxRecDepth 20000 in
theorem gX7_told_X7_isProblem : GoodIn wsX7_told (wsV RX7 214 RX7 yX7_isProblem wsX7_isProblem) := goodIn_app (goodIn_of _ (by decide +kernel)) ggX7_told_X7_isProblem
set_option maxRecDepth 20000 in
theorem ggX7_told_X7_in : GoodIn wsX7_told wsX7_in := goodIn_g _ [(12, 1)] rfl (by decide +kernel)
set_option maxRecDepth 20000 in
theorem gX7_told_X7_in : GoodIn wsX7_told (va_wsS RX7 207 yX7_in wsX7_in) := goodIn_app (goodIn_of _ (by decide +kernel)) ggX7_told_X7_in
theorem dX7_told_0 : decode cX7_told 0 = .ok (.aload_n 0, 1) := by decide +kernel
theorem dX7_told_1 : decode cX7_told 1 = .ok (.iconst 0, 1) := by decide +kernel
theorem dX7_told_2 : decode cX7_told 2 = .ok (.putfield 201, 3) := by decide +kernel
theorem dX7_told_5 : decode cX7_told 5 = .ok (.aload_n 0, 1) := by decide +kernel
theorem dX7_told_6 : decode cX7_told 6 = .ok (.iload_n 1, 1) := by decide +kernel
theorem dX7_told_7 : decode cX7_told 7 = .ok (.invokevirtual 214, 3) := by decide +kernel
theorem dX7_told_10 : decode cX7_told 10 = .ok (.ifCond .eq 12, 3) := by decide +kernel
theorem dX7_told_13 : decode cX7_told 13 = .ok (.iload_n 2, 1) := by decide +kernel
theorem dX7_told_14 : decode cX7_told 14 = .ok (.iconst 0, 1) := by decide +kernel
theorem dX7_told_15 : decode cX7_told 15 = .ok (.iconst 5, 1) := by decide +kernel
theorem dX7_told_16 : decode cX7_told 16 = .ok (.invokestatic 207, 3) := by decide +kernel
theorem dX7_told_19 : decode cX7_told 19 = .ok (.ifCond .ne 5, 3) := by decide +kernel
theorem dX7_told_22 : decode cX7_told 22 = .ok (.iconst (-1), 1) := by decide +kernel
theorem dX7_told_23 : decode cX7_told 23 = .ok (.ireturn, 1) := by decide +kernel
theorem dX7_told_24 : decode cX7_told 24 = .ok (.aload_n 0, 1) := by decide +kernel
theorem dX7_told_25 : decode cX7_told 25 = .ok (.getfield 114, 3) := by decide +kernel
theorem dX7_told_28 : decode cX7_told 28 = .ok (.iload_n 1, 1) := by decide +kernel
theorem dX7_told_29 : decode cX7_told 29 = .ok (.baload, 1) := by decide +kernel
theorem dX7_told_30 : decode cX7_told 30 = .ok (.ifCond .eq 17, 3) := by decide +kernel
theorem dX7_told_33 : decode cX7_told 33 = .ok (.aload_n 0, 1) := by decide +kernel
theorem dX7_told_34 : decode cX7_told 34 = .ok (.getfield 111, 3) := by decide +kernel
theorem dX7_told_37 : decode cX7_told 37 = .ok (.bipush 6, 2) := by decide +kernel
theorem dX7_told_39 : decode cX7_told 39 = .ok (.iload_n 1, 1) := by decide +kernel
theorem dX7_told_40 : decode cX7_told 40 = .ok (.imul, 1) := by decide +kernel
theorem dX7_told_41 : decode cX7_told 41 = .ok (.iload_n 2, 1) := by decide +kernel
theorem dX7_told_42 : decode cX7_told 42 = .ok (.iadd, 1) := by decide +kernel
theorem dX7_told_43 : decode cX7_told 43 = .ok (.iaload, 1) := by decide +kernel
theorem dX7_told_44 : decode cX7_told 44 = .ok (.goto 5, 3) := by decide +kernel
theorem dX7_told_47 : decode cX7_told 47 = .ok (.bipush (-9), 2) := by decide +kernel
theorem dX7_told_49 : decode cX7_told 49 = .ok (.ireturn, 1) := by decide +kernel
set_option maxRecDepth 20000 in
theorem ggX7_answer_X7_isProblem : GoodIn wsX7_answer wsX7_isProblem := goodIn_g _ [(9, 4), (8, 1), (13, 80)] rfl (by decide +kernel)
set_option maxRecDepth 20000 in
theorem gX7_answer_X7_isProblem : GoodIn wsX7_answer (wsV RX7 214 RX7 yX7_isProblem wsX7_isProblem) := goodIn_app (goodIn_of _ (by decide +kernel)) ggX7_answer_X7_isProblem
set_option maxRecDepth 20000 in
theorem ggX7_answer_X7_in : GoodIn wsX7_answer wsX7_in := goodIn_g _ [(13, 1)] rfl (by decide +kernel)
set_option maxRecDepth 20000 in
theorem gX7_answer_X7_in : GoodIn wsX7_answer (va_wsS RX7 207 yX7_in wsX7_in) := goodIn_app (goodIn_of _ (by decide +kernel)) ggX7_answer_X7_in
theorem dX7_answer_0 : decode cX7_answer 0 = .ok (.aload_n 0, 1) := by decide +kernel
theorem dX7_answer_1 : decode cX7_answer 1 = .ok (.iconst 0, 1) := by decide +kernel
theorem dX7_answer_2 : decode cX7_answer 2 = .ok (.putfield 201, 3) := by decide +kernel
theorem dX7_answer_5 : decode cX7_answer 5 = .ok (.aload_n 0, 1) := by decide +kernel
theorem dX7_answer_6 : decode cX7_answer 6 = .ok (.iload_n 1, 1) := by decide +kernel
theorem dX7_answer_7 : decode cX7_answer 7 = .ok (.invokevirtual 214, 3) := by decide +kernel
theorem dX7_answer_10 : decode cX7_answer 10 = .ok (.ifCond .eq 19, 3) := by decide +kernel
theorem dX7_answer_13 : decode cX7_answer 13 = .ok (.iload_n 2, 1) := by decide +kernel
theorem dX7_answer_14 : decode cX7_answer 14 = .ok (.iconst 0, 1) := by decide +kernel
theorem dX7_answer_15 : decode cX7_answer 15 = .ok (.aload_n 0, 1) := by decide +kernel
theorem dX7_answer_16 : decode cX7_answer 16 = .ok (.getfield 7, 3) := by decide +kernel
theorem dX7_answer_19 : decode cX7_answer 19 = .ok (.iload_n 1, 1) := by decide +kernel
theorem dX7_answer_20 : decode cX7_answer 20 = .ok (.iaload, 1) := by decide +kernel
theorem dX7_answer_21 : decode cX7_answer 21 = .ok (.iconst 1, 1) := by decide +kernel
theorem dX7_answer_22 : decode cX7_answer 22 = .ok (.isub, 1) := by decide +kernel
theorem dX7_answer_23 : decode cX7_answer 23 = .ok (.invokestatic 207, 3) := by decide +kernel
theorem dX7_answer_26 : decode cX7_answer 26 = .ok (.ifCond .ne 5, 3) := by decide +kernel
theorem dX7_answer_29 : decode cX7_answer 29 = .ok (.iconst (-1), 1) := by decide +kernel
theorem dX7_answer_30 : decode cX7_answer 30 = .ok (.ireturn, 1) := by decide +kernel
theorem dX7_answer_31 : decode cX7_answer 31 = .ok (.aload_n 0, 1) := by decide +kernel
theorem dX7_answer_32 : decode cX7_answer 32 = .ok (.getfield 117, 3) := by decide +kernel
theorem dX7_answer_35 : decode cX7_answer 35 = .ok (.iload_n 1, 1) := by decide +kernel
theorem dX7_answer_36 : decode cX7_answer 36 = .ok (.baload, 1) := by decide +kernel
theorem dX7_answer_37 : decode cX7_answer 37 = .ok (.ifCond .eq 17, 3) := by decide +kernel
theorem dX7_answer_40 : decode cX7_answer 40 = .ok (.aload_n 0, 1) := by decide +kernel
theorem dX7_answer_41 : decode cX7_answer 41 = .ok (.getfield 120, 3) := by decide +kernel
theorem dX7_answer_44 : decode cX7_answer 44 = .ok (.bipush 6, 2) := by decide +kernel
theorem dX7_answer_46 : decode cX7_answer 46 = .ok (.iload_n 1, 1) := by decide +kernel
theorem dX7_answer_47 : decode cX7_answer 47 = .ok (.imul, 1) := by decide +kernel
theorem dX7_answer_48 : decode cX7_answer 48 = .ok (.iload_n 2, 1) := by decide +kernel
theorem dX7_answer_49 : decode cX7_answer 49 = .ok (.iadd, 1) := by decide +kernel
theorem dX7_answer_50 : decode cX7_answer 50 = .ok (.iaload, 1) := by decide +kernel
theorem dX7_answer_51 : decode cX7_answer 51 = .ok (.goto 5, 3) := by decide +kernel
theorem dX7_answer_54 : decode cX7_answer 54 = .ok (.bipush (-9), 2) := by decide +kernel
theorem dX7_answer_56 : decode cX7_answer 56 = .ok (.ireturn, 1) := by decide +kernel
set_option maxRecDepth 20000 in
theorem ggX7_walked_X7_in : GoodIn wsX7_walked wsX7_in := goodIn_g _ [(11, 1)] rfl (by decide +kernel)
set_option maxRecDepth 20000 in
theorem gX7_walked_X7_in : GoodIn wsX7_walked (va_wsS RX7 207 yX7_in wsX7_in) := goodIn_app (goodIn_of _ (by decide +kernel)) ggX7_walked_X7_in
theorem dX7_walked_0 : decode cX7_walked 0 = .ok (.aload_n 0, 1) := by decide +kernel
theorem dX7_walked_1 : decode cX7_walked 1 = .ok (.iconst 0, 1) := by decide +kernel
theorem dX7_walked_2 : decode cX7_walked 2 = .ok (.putfield 201, 3) := by decide +kernel
theorem dX7_walked_5 : decode cX7_walked 5 = .ok (.iload_n 2, 1) := by decide +kernel
theorem dX7_walked_6 : decode cX7_walked 6 = .ok (.iconst 0, 1) := by decide +kernel
theorem dX7_walked_7 : decode cX7_walked 7 = .ok (.bipush 9, 2) := by decide +kernel
theorem dX7_walked_9 : decode cX7_walked 9 = .ok (.invokestatic 207, 3) := by decide +kernel
theorem dX7_walked_12 : decode cX7_walked 12 = .ok (.ifCond .ne 5, 3) := by decide +kernel
theorem dX7_walked_15 : decode cX7_walked 15 = .ok (.iconst (-1), 1) := by decide +kernel
theorem dX7_walked_16 : decode cX7_walked 16 = .ok (.ireturn, 1) := by decide +kernel
theorem dX7_walked_17 : decode cX7_walked 17 = .ok (.iload_n 1, 1) := by decide +kernel
theorem dX7_walked_18 : decode cX7_walked 18 = .ok (.iconst 0, 1) := by decide +kernel
theorem dX7_walked_19 : decode cX7_walked 19 = .ok (.aload_n 0, 1) := by decide +kernel
theorem dX7_walked_20 : decode cX7_walked 20 = .ok (.getfield 313, 3) := by decide +kernel
theorem dX7_walked_23 : decode cX7_walked 23 = .ok (.iconst 1, 1) := by decide +kernel
theorem dX7_walked_24 : decode cX7_walked 24 = .ok (.isub, 1) := by decide +kernel
theorem dX7_walked_25 : decode cX7_walked 25 = .ok (.invokestatic 207, 3) := by decide +kernel
theorem dX7_walked_28 : decode cX7_walked 28 = .ok (.ifCond .ne 6, 3) := by decide +kernel
theorem dX7_walked_31 : decode cX7_walked 31 = .ok (.bipush (-9), 2) := by decide +kernel
theorem dX7_walked_33 : decode cX7_walked 33 = .ok (.ireturn, 1) := by decide +kernel
theorem dX7_walked_34 : decode cX7_walked 34 = .ok (.iload_n 2, 1) := by decide +kernel
theorem dX7_walked_35 : decode cX7_walked 35 = .ok (.ifCond .ne 12, 3) := by decide +kernel
theorem dX7_walked_38 : decode cX7_walked 38 = .ok (.aload_n 0, 1) := by decide +kernel
theorem dX7_walked_39 : decode cX7_walked 39 = .ok (.getfield 123, 3) := by decide +kernel
theorem dX7_walked_42 : decode cX7_walked 42 = .ok (.iload_n 1, 1) := by decide +kernel
theorem dX7_walked_43 : decode cX7_walked 43 = .ok (.iaload, 1) := by decide +kernel
theorem dX7_walked_44 : decode cX7_walked 44 = .ok (.goto 61, 3) := by decide +kernel
theorem dX7_walked_47 : decode cX7_walked 47 = .ok (.iload_n 2, 1) := by decide +kernel
theorem dX7_walked_48 : decode cX7_walked 48 = .ok (.bipush 7, 2) := by decide +kernel
theorem dX7_walked_50 : decode cX7_walked 50 = .ok (.if_icmp .ge 19, 3) := by decide +kernel
theorem dX7_walked_53 : decode cX7_walked 53 = .ok (.aload_n 0, 1) := by decide +kernel
theorem dX7_walked_54 : decode cX7_walked 54 = .ok (.getfield 126, 3) := by decide +kernel
theorem dX7_walked_57 : decode cX7_walked 57 = .ok (.bipush 6, 2) := by decide +kernel
theorem dX7_walked_59 : decode cX7_walked 59 = .ok (.iload_n 1, 1) := by decide +kernel
theorem dX7_walked_60 : decode cX7_walked 60 = .ok (.imul, 1) := by decide +kernel
theorem dX7_walked_61 : decode cX7_walked 61 = .ok (.iload_n 2, 1) := by decide +kernel
theorem dX7_walked_62 : decode cX7_walked 62 = .ok (.iadd, 1) := by decide +kernel
theorem dX7_walked_63 : decode cX7_walked 63 = .ok (.iconst 1, 1) := by decide +kernel
theorem dX7_walked_64 : decode cX7_walked 64 = .ok (.isub, 1) := by decide +kernel
theorem dX7_walked_65 : decode cX7_walked 65 = .ok (.iaload, 1) := by decide +kernel
theorem dX7_walked_66 : decode cX7_walked 66 = .ok (.goto 39, 3) := by decide +kernel
theorem dX7_walked_69 : decode cX7_walked 69 = .ok (.iload_n 2, 1) := by decide +kernel
theorem dX7_walked_70 : decode cX7_walked 70 = .ok (.bipush 7, 2) := by decide +kernel
theorem dX7_walked_72 : decode cX7_walked 72 = .ok (.if_icmp .ne 12, 3) := by decide +kernel
theorem dX7_walked_75 : decode cX7_walked 75 = .ok (.aload_n 0, 1) := by decide +kernel
theorem dX7_walked_76 : decode cX7_walked 76 = .ok (.getfield 129, 3) := by decide +kernel
theorem dX7_walked_79 : decode cX7_walked 79 = .ok (.iload_n 1, 1) := by decide +kernel
theorem dX7_walked_80 : decode cX7_walked 80 = .ok (.iaload, 1) := by decide +kernel
theorem dX7_walked_81 : decode cX7_walked 81 = .ok (.goto 24, 3) := by decide +kernel
theorem dX7_walked_84 : decode cX7_walked 84 = .ok (.iload_n 2, 1) := by decide +kernel
theorem dX7_walked_85 : decode cX7_walked 85 = .ok (.bipush 8, 2) := by decide +kernel
theorem dX7_walked_87 : decode cX7_walked 87 = .ok (.if_icmp .ne 12, 3) := by decide +kernel
theorem dX7_walked_90 : decode cX7_walked 90 = .ok (.aload_n 0, 1) := by decide +kernel
theorem dX7_walked_91 : decode cX7_walked 91 = .ok (.getfield 132, 3) := by decide +kernel
theorem dX7_walked_94 : decode cX7_walked 94 = .ok (.iload_n 1, 1) := by decide +kernel
theorem dX7_walked_95 : decode cX7_walked 95 = .ok (.iaload, 1) := by decide +kernel
theorem dX7_walked_96 : decode cX7_walked 96 = .ok (.goto 9, 3) := by decide +kernel
theorem dX7_walked_99 : decode cX7_walked 99 = .ok (.aload_n 0, 1) := by decide +kernel
theorem dX7_walked_100 : decode cX7_walked 100 = .ok (.getfield 135, 3) := by decide +kernel
theorem dX7_walked_103 : decode cX7_walked 103 = .ok (.iload_n 1, 1) := by decide +kernel
theorem dX7_walked_104 : decode cX7_walked 104 = .ok (.iaload, 1) := by decide +kernel
theorem dX7_walked_105 : decode cX7_walked 105 = .ok (.ireturn, 1) := by decide +kernel
set_option maxRecDepth 20000 in
theorem ggX7_closed_X7_in : GoodIn wsX7_closed wsX7_in := goodIn_g _ [(9, 1)] rfl (by decide +kernel)
set_option maxRecDepth 20000 in
theorem gX7_closed_X7_in : GoodIn wsX7_closed (va_wsS RX7 207 yX7_in wsX7_in) := goodIn_app (goodIn_of _ (by decide +kernel)) ggX7_closed_X7_in
theorem dX7_closed_0 : decode cX7_closed 0 = .ok (.aload_n 0, 1) := by decide +kernel
theorem dX7_closed_1 : decode cX7_closed 1 = .ok (.iconst 0, 1) := by decide +kernel
theorem dX7_closed_2 : decode cX7_closed 2 = .ok (.putfield 201, 3) := by decide +kernel
theorem dX7_closed_5 : decode cX7_closed 5 = .ok (.iload_n 3, 1) := by decide +kernel
theorem dX7_closed_6 : decode cX7_closed 6 = .ok (.iconst 0, 1) := by decide +kernel
theorem dX7_closed_7 : decode cX7_closed 7 = .ok (.iconst 1, 1) := by decide +kernel
theorem dX7_closed_8 : decode cX7_closed 8 = .ok (.invokestatic 207, 3) := by decide +kernel
theorem dX7_closed_11 : decode cX7_closed 11 = .ok (.ifCond .ne 5, 3) := by decide +kernel
theorem dX7_closed_14 : decode cX7_closed 14 = .ok (.iconst (-1), 1) := by decide +kernel
theorem dX7_closed_15 : decode cX7_closed 15 = .ok (.ireturn, 1) := by decide +kernel
theorem dX7_closed_16 : decode cX7_closed 16 = .ok (.iload_n 1, 1) := by decide +kernel
theorem dX7_closed_17 : decode cX7_closed 17 = .ok (.iconst 0, 1) := by decide +kernel
theorem dX7_closed_18 : decode cX7_closed 18 = .ok (.aload_n 0, 1) := by decide +kernel
theorem dX7_closed_19 : decode cX7_closed 19 = .ok (.getfield 313, 3) := by decide +kernel
theorem dX7_closed_22 : decode cX7_closed 22 = .ok (.iconst 1, 1) := by decide +kernel
theorem dX7_closed_23 : decode cX7_closed 23 = .ok (.isub, 1) := by decide +kernel
theorem dX7_closed_24 : decode cX7_closed 24 = .ok (.invokestatic 207, 3) := by decide +kernel
theorem dX7_closed_27 : decode cX7_closed 27 = .ok (.ifCond .eq 19, 3) := by decide +kernel
theorem dX7_closed_30 : decode cX7_closed 30 = .ok (.iload_n 2, 1) := by decide +kernel
theorem dX7_closed_31 : decode cX7_closed 31 = .ok (.iconst 0, 1) := by decide +kernel
theorem dX7_closed_32 : decode cX7_closed 32 = .ok (.aload_n 0, 1) := by decide +kernel
theorem dX7_closed_33 : decode cX7_closed 33 = .ok (.getfield 138, 3) := by decide +kernel
theorem dX7_closed_36 : decode cX7_closed 36 = .ok (.iload_n 1, 1) := by decide +kernel
theorem dX7_closed_37 : decode cX7_closed 37 = .ok (.iaload, 1) := by decide +kernel
theorem dX7_closed_38 : decode cX7_closed 38 = .ok (.iconst 1, 1) := by decide +kernel
theorem dX7_closed_39 : decode cX7_closed 39 = .ok (.isub, 1) := by decide +kernel
theorem dX7_closed_40 : decode cX7_closed 40 = .ok (.invokestatic 207, 3) := by decide +kernel
theorem dX7_closed_43 : decode cX7_closed 43 = .ok (.ifCond .ne 6, 3) := by decide +kernel
theorem dX7_closed_46 : decode cX7_closed 46 = .ok (.bipush (-9), 2) := by decide +kernel
theorem dX7_closed_48 : decode cX7_closed 48 = .ok (.ireturn, 1) := by decide +kernel
theorem dX7_closed_49 : decode cX7_closed 49 = .ok (.iload_n 3, 1) := by decide +kernel
theorem dX7_closed_50 : decode cX7_closed 50 = .ok (.ifCond .ne 17, 3) := by decide +kernel
theorem dX7_closed_53 : decode cX7_closed 53 = .ok (.aload_n 0, 1) := by decide +kernel
theorem dX7_closed_54 : decode cX7_closed 54 = .ok (.getfield 141, 3) := by decide +kernel
theorem dX7_closed_57 : decode cX7_closed 57 = .ok (.bipush 6, 2) := by decide +kernel
theorem dX7_closed_59 : decode cX7_closed 59 = .ok (.iload_n 1, 1) := by decide +kernel
theorem dX7_closed_60 : decode cX7_closed 60 = .ok (.imul, 1) := by decide +kernel
theorem dX7_closed_61 : decode cX7_closed 61 = .ok (.iload_n 2, 1) := by decide +kernel
theorem dX7_closed_62 : decode cX7_closed 62 = .ok (.iadd, 1) := by decide +kernel
theorem dX7_closed_63 : decode cX7_closed 63 = .ok (.iaload, 1) := by decide +kernel
theorem dX7_closed_64 : decode cX7_closed 64 = .ok (.goto 14, 3) := by decide +kernel
theorem dX7_closed_67 : decode cX7_closed 67 = .ok (.aload_n 0, 1) := by decide +kernel
theorem dX7_closed_68 : decode cX7_closed 68 = .ok (.getfield 144, 3) := by decide +kernel
theorem dX7_closed_71 : decode cX7_closed 71 = .ok (.bipush 6, 2) := by decide +kernel
theorem dX7_closed_73 : decode cX7_closed 73 = .ok (.iload_n 1, 1) := by decide +kernel
theorem dX7_closed_74 : decode cX7_closed 74 = .ok (.imul, 1) := by decide +kernel
theorem dX7_closed_75 : decode cX7_closed 75 = .ok (.iload_n 2, 1) := by decide +kernel
theorem dX7_closed_76 : decode cX7_closed 76 = .ok (.iadd, 1) := by decide +kernel
theorem dX7_closed_77 : decode cX7_closed 77 = .ok (.iaload, 1) := by decide +kernel
theorem dX7_closed_78 : decode cX7_closed 78 = .ok (.ireturn, 1) := by decide +kernel
set_option maxRecDepth 20000 in
theorem ggX7_helper_X7_in : GoodIn wsX7_helper wsX7_in := goodIn_g _ [(8, 1)] rfl (by decide +kernel)
set_option maxRecDepth 20000 in
theorem gX7_helper_X7_in : GoodIn wsX7_helper (va_wsS RX7 207 yX7_in wsX7_in) := goodIn_app (goodIn_of _ (by decide +kernel)) ggX7_helper_X7_in
theorem dX7_helper_0 : decode cX7_helper 0 = .ok (.aload_n 0, 1) := by decide +kernel
theorem dX7_helper_1 : decode cX7_helper 1 = .ok (.iconst 0, 1) := by decide +kernel
theorem dX7_helper_2 : decode cX7_helper 2 = .ok (.putfield 201, 3) := by decide +kernel
theorem dX7_helper_5 : decode cX7_helper 5 = .ok (.iload_n 1, 1) := by decide +kernel
theorem dX7_helper_6 : decode cX7_helper 6 = .ok (.iconst 0, 1) := by decide +kernel
theorem dX7_helper_7 : decode cX7_helper 7 = .ok (.iconst 4, 1) := by decide +kernel
theorem dX7_helper_8 : decode cX7_helper 8 = .ok (.invokestatic 207, 3) := by decide +kernel
theorem dX7_helper_11 : decode cX7_helper 11 = .ok (.ifCond .eq 12, 3) := by decide +kernel
theorem dX7_helper_14 : decode cX7_helper 14 = .ok (.iload_n 2, 1) := by decide +kernel
theorem dX7_helper_15 : decode cX7_helper 15 = .ok (.iconst 0, 1) := by decide +kernel
theorem dX7_helper_16 : decode cX7_helper 16 = .ok (.iconst 2, 1) := by decide +kernel
theorem dX7_helper_17 : decode cX7_helper 17 = .ok (.invokestatic 207, 3) := by decide +kernel
theorem dX7_helper_20 : decode cX7_helper 20 = .ok (.ifCond .ne 5, 3) := by decide +kernel
theorem dX7_helper_23 : decode cX7_helper 23 = .ok (.iconst (-1), 1) := by decide +kernel
theorem dX7_helper_24 : decode cX7_helper 24 = .ok (.ireturn, 1) := by decide +kernel
theorem dX7_helper_25 : decode cX7_helper 25 = .ok (.iload_n 2, 1) := by decide +kernel
theorem dX7_helper_26 : decode cX7_helper 26 = .ok (.ifCond .ne 12, 3) := by decide +kernel
theorem dX7_helper_29 : decode cX7_helper 29 = .ok (.aload_n 0, 1) := by decide +kernel
theorem dX7_helper_30 : decode cX7_helper 30 = .ok (.getfield 59, 3) := by decide +kernel
theorem dX7_helper_33 : decode cX7_helper 33 = .ok (.iload_n 1, 1) := by decide +kernel
theorem dX7_helper_34 : decode cX7_helper 34 = .ok (.iaload, 1) := by decide +kernel
theorem dX7_helper_35 : decode cX7_helper 35 = .ok (.goto 23, 3) := by decide +kernel
theorem dX7_helper_38 : decode cX7_helper 38 = .ok (.iload_n 2, 1) := by decide +kernel
theorem dX7_helper_39 : decode cX7_helper 39 = .ok (.iconst 1, 1) := by decide +kernel
theorem dX7_helper_40 : decode cX7_helper 40 = .ok (.if_icmp .ne 12, 3) := by decide +kernel
theorem dX7_helper_43 : decode cX7_helper 43 = .ok (.aload_n 0, 1) := by decide +kernel
theorem dX7_helper_44 : decode cX7_helper 44 = .ok (.getfield 53, 3) := by decide +kernel
theorem dX7_helper_47 : decode cX7_helper 47 = .ok (.iload_n 1, 1) := by decide +kernel
theorem dX7_helper_48 : decode cX7_helper 48 = .ok (.iaload, 1) := by decide +kernel
theorem dX7_helper_49 : decode cX7_helper 49 = .ok (.goto 9, 3) := by decide +kernel
theorem dX7_helper_52 : decode cX7_helper 52 = .ok (.aload_n 0, 1) := by decide +kernel
theorem dX7_helper_53 : decode cX7_helper 53 = .ok (.getfield 56, 3) := by decide +kernel
theorem dX7_helper_56 : decode cX7_helper 56 = .ok (.iload_n 1, 1) := by decide +kernel
theorem dX7_helper_57 : decode cX7_helper 57 = .ok (.iaload, 1) := by decide +kernel
theorem dX7_helper_58 : decode cX7_helper 58 = .ok (.ireturn, 1) := by decide +kernel
set_option maxRecDepth 20000 in
theorem ggX7_ask_X7_isProblem : GoodIn wsX7_ask wsX7_isProblem := goodIn_g _ [(11, 4), (10, 1), (15, 80)] rfl (by decide +kernel)
set_option maxRecDepth 20000 in
theorem gX7_ask_X7_isProblem : GoodIn wsX7_ask (wsV RX7 214 RX7 yX7_isProblem wsX7_isProblem) := goodIn_app (goodIn_of _ (by decide +kernel)) ggX7_ask_X7_isProblem
theorem dX7_ask_0 : decode cX7_ask 0 = .ok (.aload_n 0, 1) := by decide +kernel
theorem dX7_ask_1 : decode cX7_ask 1 = .ok (.iconst 0, 1) := by decide +kernel
theorem dX7_ask_2 : decode cX7_ask 2 = .ok (.putfield 201, 3) := by decide +kernel
theorem dX7_ask_5 : decode cX7_ask 5 = .ok (.aload_n 0, 1) := by decide +kernel
theorem dX7_ask_6 : decode cX7_ask 6 = .ok (.iload_n 1, 1) := by decide +kernel
theorem dX7_ask_7 : decode cX7_ask 7 = .ok (.invokevirtual 214, 3) := by decide +kernel
theorem dX7_ask_10 : decode cX7_ask 10 = .ok (.ifCond .ne 5, 3) := by decide +kernel
theorem dX7_ask_13 : decode cX7_ask 13 = .ok (.iconst (-1), 1) := by decide +kernel
theorem dX7_ask_14 : decode cX7_ask 14 = .ok (.ireturn, 1) := by decide +kernel
theorem dX7_ask_15 : decode cX7_ask 15 = .ok (.aload_n 0, 1) := by decide +kernel
theorem dX7_ask_16 : decode cX7_ask 16 = .ok (.iload_n 1, 1) := by decide +kernel
theorem dX7_ask_17 : decode cX7_ask 17 = .ok (.putfield 147, 3) := by decide +kernel
theorem dX7_ask_20 : decode cX7_ask 20 = .ok (.aload_n 0, 1) := by decide +kernel
theorem dX7_ask_21 : decode cX7_ask 21 = .ok (.aload_n 0, 1) := by decide +kernel
theorem dX7_ask_22 : decode cX7_ask 22 = .ok (.getfield 40, 3) := by decide +kernel
theorem dX7_ask_25 : decode cX7_ask 25 = .ok (.iload_n 1, 1) := by decide +kernel
theorem dX7_ask_26 : decode cX7_ask 26 = .ok (.iaload, 1) := by decide +kernel
theorem dX7_ask_27 : decode cX7_ask 27 = .ok (.putfield 339, 3) := by decide +kernel
theorem dX7_ask_30 : decode cX7_ask 30 = .ok (.aload_n 0, 1) := by decide +kernel
theorem dX7_ask_31 : decode cX7_ask 31 = .ok (.iconst 0, 1) := by decide +kernel
theorem dX7_ask_32 : decode cX7_ask 32 = .ok (.putfield 342, 3) := by decide +kernel
theorem dX7_ask_35 : decode cX7_ask 35 = .ok (.aload_n 0, 1) := by decide +kernel
theorem dX7_ask_36 : decode cX7_ask 36 = .ok (.getfield 7, 3) := by decide +kernel
theorem dX7_ask_39 : decode cX7_ask 39 = .ok (.iload_n 1, 1) := by decide +kernel
theorem dX7_ask_40 : decode cX7_ask 40 = .ok (.iaload, 1) := by decide +kernel
theorem dX7_ask_41 : decode cX7_ask 41 = .ok (.ireturn, 1) := by decide +kernel
set_option maxRecDepth 20000 in
theorem ggX7_with_X7_in : GoodIn wsX7_with wsX7_in := goodIn_g _ [(10, 1)] rfl (by decide +kernel)
set_option maxRecDepth 20000 in
theorem gX7_with_X7_in : GoodIn wsX7_with (va_wsS RX7 207 yX7_in wsX7_in) := goodIn_app (goodIn_of _ (by decide +kernel)) ggX7_with_X7_in
theorem dX7_with_0 : decode cX7_with 0 = .ok (.aload_n 0, 1) := by decide +kernel
theorem dX7_with_1 : decode cX7_with 1 = .ok (.iconst 0, 1) := by decide +kernel
theorem dX7_with_2 : decode cX7_with 2 = .ok (.putfield 201, 3) := by decide +kernel
theorem dX7_with_5 : decode cX7_with 5 = .ok (.aload_n 0, 1) := by decide +kernel
theorem dX7_with_6 : decode cX7_with 6 = .ok (.getfield 147, 3) := by decide +kernel
theorem dX7_with_9 : decode cX7_with 9 = .ok (.bipush (-9), 2) := by decide +kernel
theorem dX7_with_11 : decode cX7_with 11 = .ok (.if_icmp .eq 46, 3) := by decide +kernel
theorem dX7_with_14 : decode cX7_with 14 = .ok (.aload_n 0, 1) := by decide +kernel
theorem dX7_with_15 : decode cX7_with 15 = .ok (.getfield 342, 3) := by decide +kernel
theorem dX7_with_18 : decode cX7_with 18 = .ok (.aload_n 0, 1) := by decide +kernel
theorem dX7_with_19 : decode cX7_with 19 = .ok (.getfield 7, 3) := by decide +kernel
theorem dX7_with_22 : decode cX7_with 22 = .ok (.aload_n 0, 1) := by decide +kernel
theorem dX7_with_23 : decode cX7_with 23 = .ok (.getfield 147, 3) := by decide +kernel
theorem dX7_with_26 : decode cX7_with 26 = .ok (.iaload, 1) := by decide +kernel
theorem dX7_with_27 : decode cX7_with 27 = .ok (.if_icmp .eq 30, 3) := by decide +kernel
theorem dX7_with_30 : decode cX7_with 30 = .ok (.iload_n 1, 1) := by decide +kernel
theorem dX7_with_31 : decode cX7_with 31 = .ok (.iconst 0, 1) := by decide +kernel
theorem dX7_with_32 : decode cX7_with 32 = .ok (.aload_n 0, 1) := by decide +kernel
theorem dX7_with_33 : decode cX7_with 33 = .ok (.getfield 16, 3) := by decide +kernel
theorem dX7_with_36 : decode cX7_with 36 = .ok (.bipush 6, 2) := by decide +kernel
theorem dX7_with_38 : decode cX7_with 38 = .ok (.aload_n 0, 1) := by decide +kernel
theorem dX7_with_39 : decode cX7_with 39 = .ok (.getfield 147, 3) := by decide +kernel
theorem dX7_with_42 : decode cX7_with 42 = .ok (.imul, 1) := by decide +kernel
theorem dX7_with_43 : decode cX7_with 43 = .ok (.aload_n 0, 1) := by decide +kernel
theorem dX7_with_44 : decode cX7_with 44 = .ok (.getfield 342, 3) := by decide +kernel
theorem dX7_with_47 : decode cX7_with 47 = .ok (.iadd, 1) := by decide +kernel
theorem dX7_with_48 : decode cX7_with 48 = .ok (.iaload, 1) := by decide +kernel
theorem dX7_with_49 : decode cX7_with 49 = .ok (.iconst 1, 1) := by decide +kernel
theorem dX7_with_50 : decode cX7_with 50 = .ok (.isub, 1) := by decide +kernel
theorem dX7_with_51 : decode cX7_with 51 = .ok (.invokestatic 207, 3) := by decide +kernel
theorem dX7_with_54 : decode cX7_with 54 = .ok (.ifCond .ne 5, 3) := by decide +kernel
theorem dX7_with_57 : decode cX7_with 57 = .ok (.iconst (-1), 1) := by decide +kernel
theorem dX7_with_58 : decode cX7_with 58 = .ok (.ireturn, 1) := by decide +kernel
theorem dX7_with_59 : decode cX7_with 59 = .ok (.aload_n 0, 1) := by decide +kernel
theorem dX7_with_60 : decode cX7_with 60 = .ok (.getfield 150, 3) := by decide +kernel
theorem dX7_with_63 : decode cX7_with 63 = .ok (.aload_n 0, 1) := by decide +kernel
theorem dX7_with_64 : decode cX7_with 64 = .ok (.getfield 342, 3) := by decide +kernel
theorem dX7_with_67 : decode cX7_with 67 = .ok (.iload_n 1, 1) := by decide +kernel
theorem dX7_with_68 : decode cX7_with 68 = .ok (.iastore, 1) := by decide +kernel
theorem dX7_with_69 : decode cX7_with 69 = .ok (.aload_n 0, 1) := by decide +kernel
theorem dX7_with_70 : decode cX7_with 70 = .ok (.dup, 1) := by decide +kernel
theorem dX7_with_71 : decode cX7_with 71 = .ok (.getfield 342, 3) := by decide +kernel
theorem dX7_with_74 : decode cX7_with 74 = .ok (.iconst 1, 1) := by decide +kernel
theorem dX7_with_75 : decode cX7_with 75 = .ok (.iadd, 1) := by decide +kernel
theorem dX7_with_76 : decode cX7_with 76 = .ok (.putfield 342, 3) := by decide +kernel
theorem dX7_with_79 : decode cX7_with 79 = .ok (.aload_n 0, 1) := by decide +kernel
theorem dX7_with_80 : decode cX7_with 80 = .ok (.getfield 342, 3) := by decide +kernel
theorem dX7_with_83 : decode cX7_with 83 = .ok (.ireturn, 1) := by decide +kernel
set_option maxRecDepth 20000 in
theorem ggX7_node_X7_in : GoodIn wsX7_node wsX7_in := goodIn_g _ [(14, 1)] rfl (by decide +kernel)
set_option maxRecDepth 20000 in
theorem gX7_node_X7_in : GoodIn wsX7_node (va_wsS RX7 207 yX7_in wsX7_in) := goodIn_app (goodIn_of _ (by decide +kernel)) ggX7_node_X7_in
set_option maxRecDepth 20000 in
theorem ggX7_node_X7_isRule : GoodIn wsX7_node wsX7_isRule := goodIn_g _ [(18, 5), (13, 1), (23, 2), (11, 2), (14, 1), (81, 79)] rfl (by decide +kernel)
set_option maxRecDepth 20000 in
theorem gX7_node_X7_isRule : GoodIn wsX7_node (wsV RX7 235 RX7 yX7_isRule wsX7_isRule) := goodIn_app (goodIn_of _ (by decide +kernel)) ggX7_node_X7_isRule
set_option maxRecDepth 20000 in
theorem ggX7_node_X7_isBroken : GoodIn wsX7_node wsX7_isBroken := goodIn_g _ [(28, 4), (5, 1), (32, 5), (13, 1), (37, 14), (81, 79)] rfl (by decide +kernel)
set_option maxRecDepth 20000 in
theorem gX7_node_X7_isBroken : GoodIn wsX7_node (wsV RX7 263 RX7 yX7_isBroken wsX7_isBroken) := goodIn_app (goodIn_of _ (by decide +kernel)) ggX7_node_X7_isBroken
set_option maxRecDepth 20000 in
theorem ggX7_node_X7_isValue : GoodIn wsX7_node wsX7_isValue := goodIn_g _ [(54, 2), (42, 1), (20, 3), (13, 1), (23, 2), (11, 2), (14, 1), (81, 79)] rfl (by decide +kernel)
set_option maxRecDepth 20000 in
theorem gX7_node_X7_isValue : GoodIn wsX7_node (wsV RX7 225 RX7 yX7_isValue wsX7_isValue) := goodIn_app (goodIn_of _ (by decide +kernel)) ggX7_node_X7_isValue
set_option maxRecDepth 20000 in
theorem ggX7_node_X7_isOut : GoodIn wsX7_node wsX7_isOut := goodIn_g _ [(59, 1), (5, 1), (60, 3), (13, 1), (63, 1), (19, 1), (25, 26), (81, 79)] rfl (by decide +kernel)
set_option maxRecDepth 20000 in
theorem gX7_node_X7_isOut : GoodIn wsX7_node (wsV RX7 281 RX7 yX7_isOut wsX7_isOut) := goodIn_app (goodIn_of _ (by decide +kernel)) ggX7_node_X7_isOut
set_option maxRecDepth 20000 in
theorem ggX7_node_X7_whatIs : GoodIn wsX7_node wsX7_whatIs := goodIn_g _ [(67, 1), (10, 1), (5, 1), (8, 1), (55, 1), (42, 1), (60, 3), (13, 1), (63, 1), (19, 1), (25, 17), (43, 8), (68, 13), (56, 4), (81, 79)] rfl (by decide +kernel)
set_option maxRecDepth 20000 in
theorem gX7_node_X7_whatIs : GoodIn wsX7_node (wsV RX7 293 RX7 yX7_whatIs wsX7_whatIs) := goodIn_app (goodIn_of _ (by decide +kernel)) ggX7_node_X7_whatIs
theorem dX7_node_0 : decode cX7_node 0 = .ok (.aload_n 0, 1) := by decide +kernel
theorem dX7_node_1 : decode cX7_node 1 = .ok (.iconst 0, 1) := by decide +kernel
theorem dX7_node_2 : decode cX7_node 2 = .ok (.putfield 201, 3) := by decide +kernel
theorem dX7_node_5 : decode cX7_node 5 = .ok (.iload_n 1, 1) := by decide +kernel
theorem dX7_node_6 : decode cX7_node 6 = .ok (.iconst 0, 1) := by decide +kernel
theorem dX7_node_7 : decode cX7_node 7 = .ok (.iconst 4, 1) := by decide +kernel
theorem dX7_node_8 : decode cX7_node 8 = .ok (.invokestatic 207, 3) := by decide +kernel
theorem dX7_node_11 : decode cX7_node 11 = .ok (.ifCond .ne 5, 3) := by decide +kernel
theorem dX7_node_14 : decode cX7_node 14 = .ok (.iconst (-1), 1) := by decide +kernel
theorem dX7_node_15 : decode cX7_node 15 = .ok (.ireturn, 1) := by decide +kernel
theorem dX7_node_16 : decode cX7_node 16 = .ok (.aload_n 0, 1) := by decide +kernel
theorem dX7_node_17 : decode cX7_node 17 = .ok (.getfield 147, 3) := by decide +kernel
theorem dX7_node_20 : decode cX7_node 20 = .ok (.bipush (-9), 2) := by decide +kernel
theorem dX7_node_22 : decode cX7_node 22 = .ok (.if_icmp .eq 19, 3) := by decide +kernel
theorem dX7_node_25 : decode cX7_node 25 = .ok (.aload_n 0, 1) := by decide +kernel
theorem dX7_node_26 : decode cX7_node 26 = .ok (.getfield 40, 3) := by decide +kernel
theorem dX7_node_29 : decode cX7_node 29 = .ok (.aload_n 0, 1) := by decide +kernel
theorem dX7_node_30 : decode cX7_node 30 = .ok (.getfield 147, 3) := by decide +kernel
theorem dX7_node_33 : decode cX7_node 33 = .ok (.iaload, 1) := by decide +kernel
theorem dX7_node_34 : decode cX7_node 34 = .ok (.aload_n 0, 1) := by decide +kernel
theorem dX7_node_35 : decode cX7_node 35 = .ok (.getfield 339, 3) := by decide +kernel
theorem dX7_node_38 : decode cX7_node 38 = .ok (.if_icmp .eq 6, 3) := by decide +kernel
theorem dX7_node_41 : decode cX7_node 41 = .ok (.bipush (-2), 2) := by decide +kernel
theorem dX7_node_43 : decode cX7_node 43 = .ok (.ireturn, 1) := by decide +kernel
theorem dX7_node_44 : decode cX7_node 44 = .ok (.aload_n 0, 1) := by decide +kernel
theorem dX7_node_45 : decode cX7_node 45 = .ok (.getfield 147, 3) := by decide +kernel
theorem dX7_node_48 : decode cX7_node 48 = .ok (.istore 4, 2) := by decide +kernel
theorem dX7_node_50 : decode cX7_node 50 = .ok (.iconst 0, 1) := by decide +kernel
theorem dX7_node_51 : decode cX7_node 51 = .ok (.istore 5, 2) := by decide +kernel
theorem dX7_node_53 : decode cX7_node 53 = .ok (.iload 5, 2) := by decide +kernel
theorem dX7_node_55 : decode cX7_node 55 = .ok (.bipush 6, 2) := by decide +kernel
theorem dX7_node_57 : decode cX7_node 57 = .ok (.if_icmp .ge 37, 3) := by decide +kernel
theorem dX7_node_60 : decode cX7_node 60 = .ok (.aload_n 0, 1) := by decide +kernel
theorem dX7_node_61 : decode cX7_node 61 = .ok (.getfield 159, 3) := by decide +kernel
theorem dX7_node_64 : decode cX7_node 64 = .ok (.iload 5, 2) := by decide +kernel
theorem dX7_node_66 : decode cX7_node 66 = .ok (.iload 5, 2) := by decide +kernel
theorem dX7_node_68 : decode cX7_node 68 = .ok (.aload_n 0, 1) := by decide +kernel
theorem dX7_node_69 : decode cX7_node 69 = .ok (.getfield 342, 3) := by decide +kernel
theorem dX7_node_72 : decode cX7_node 72 = .ok (.if_icmp .ge 13, 3) := by decide +kernel
theorem dX7_node_75 : decode cX7_node 75 = .ok (.aload_n 0, 1) := by decide +kernel
theorem dX7_node_76 : decode cX7_node 76 = .ok (.getfield 150, 3) := by decide +kernel
theorem dX7_node_79 : decode cX7_node 79 = .ok (.iload 5, 2) := by decide +kernel
theorem dX7_node_81 : decode cX7_node 81 = .ok (.iaload, 1) := by decide +kernel
theorem dX7_node_82 : decode cX7_node 82 = .ok (.goto 5, 3) := by decide +kernel
theorem dX7_node_85 : decode cX7_node 85 = .ok (.bipush (-9), 2) := by decide +kernel
theorem dX7_node_87 : decode cX7_node 87 = .ok (.iastore, 1) := by decide +kernel
theorem dX7_node_88 : decode cX7_node 88 = .ok (.iinc 5 1, 3) := by decide +kernel
theorem dX7_node_91 : decode cX7_node 91 = .ok (.goto (-38), 3) := by decide +kernel
theorem dX7_node_94 : decode cX7_node 94 = .ok (.iload_n 1, 1) := by decide +kernel
theorem dX7_node_95 : decode cX7_node 95 = .ok (.ifCond .ne 33, 3) := by decide +kernel
theorem dX7_node_98 : decode cX7_node 98 = .ok (.aload_n 0, 1) := by decide +kernel
theorem dX7_node_99 : decode cX7_node 99 = .ok (.iload 4, 2) := by decide +kernel
theorem dX7_node_101 : decode cX7_node 101 = .ok (.iload_n 2, 1) := by decide +kernel
theorem dX7_node_102 : decode cX7_node 102 = .ok (.invokevirtual 235, 3) := by decide +kernel
theorem dX7_node_105 : decode cX7_node 105 = .ok (.ifCond .ne 7, 3) := by decide +kernel
theorem dX7_node_108 : decode cX7_node 108 = .ok (.iconst (-1), 1) := by decide +kernel
theorem dX7_node_109 : decode cX7_node 109 = .ok (.goto 18, 3) := by decide +kernel
theorem dX7_node_112 : decode cX7_node 112 = .ok (.aload_n 0, 1) := by decide +kernel
theorem dX7_node_113 : decode cX7_node 113 = .ok (.iload 4, 2) := by decide +kernel
theorem dX7_node_115 : decode cX7_node 115 = .ok (.iload_n 2, 1) := by decide +kernel
theorem dX7_node_116 : decode cX7_node 116 = .ok (.invokevirtual 263, 3) := by decide +kernel
theorem dX7_node_119 : decode cX7_node 119 = .ok (.ifCond .eq 7, 3) := by decide +kernel
theorem dX7_node_122 : decode cX7_node 122 = .ok (.iconst 1, 1) := by decide +kernel
theorem dX7_node_123 : decode cX7_node 123 = .ok (.goto 4, 3) := by decide +kernel
theorem dX7_node_126 : decode cX7_node 126 = .ok (.iconst 0, 1) := by decide +kernel
theorem dX7_node_127 : decode cX7_node 127 = .ok (.ireturn, 1) := by decide +kernel
theorem dX7_node_128 : decode cX7_node 128 = .ok (.iload_n 1, 1) := by decide +kernel
theorem dX7_node_129 : decode cX7_node 129 = .ok (.iconst 1, 1) := by decide +kernel
theorem dX7_node_130 : decode cX7_node 130 = .ok (.if_icmp .ne 43, 3) := by decide +kernel
theorem dX7_node_133 : decode cX7_node 133 = .ok (.aload_n 0, 1) := by decide +kernel
theorem dX7_node_134 : decode cX7_node 134 = .ok (.iload 4, 2) := by decide +kernel
theorem dX7_node_136 : decode cX7_node 136 = .ok (.iload_n 2, 1) := by decide +kernel
theorem dX7_node_137 : decode cX7_node 137 = .ok (.iload_n 3, 1) := by decide +kernel
theorem dX7_node_138 : decode cX7_node 138 = .ok (.invokevirtual 225, 3) := by decide +kernel
theorem dX7_node_141 : decode cX7_node 141 = .ok (.ifCond .ne 7, 3) := by decide +kernel
theorem dX7_node_144 : decode cX7_node 144 = .ok (.iconst (-1), 1) := by decide +kernel
theorem dX7_node_145 : decode cX7_node 145 = .ok (.goto 27, 3) := by decide +kernel
theorem dX7_node_148 : decode cX7_node 148 = .ok (.iload_n 2, 1) := by decide +kernel
theorem dX7_node_149 : decode cX7_node 149 = .ok (.aload_n 0, 1) := by decide +kernel
theorem dX7_node_150 : decode cX7_node 150 = .ok (.getfield 342, 3) := by decide +kernel
theorem dX7_node_153 : decode cX7_node 153 = .ok (.if_icmp .lt 18, 3) := by decide +kernel
theorem dX7_node_156 : decode cX7_node 156 = .ok (.aload_n 0, 1) := by decide +kernel
theorem dX7_node_157 : decode cX7_node 157 = .ok (.iload 4, 2) := by decide +kernel
theorem dX7_node_159 : decode cX7_node 159 = .ok (.iload_n 2, 1) := by decide +kernel
theorem dX7_node_160 : decode cX7_node 160 = .ok (.iload_n 3, 1) := by decide +kernel
theorem dX7_node_161 : decode cX7_node 161 = .ok (.invokevirtual 281, 3) := by decide +kernel
theorem dX7_node_164 : decode cX7_node 164 = .ok (.ifCond .eq 7, 3) := by decide +kernel
theorem dX7_node_167 : decode cX7_node 167 = .ok (.iconst 1, 1) := by decide +kernel
theorem dX7_node_168 : decode cX7_node 168 = .ok (.goto 4, 3) := by decide +kernel
theorem dX7_node_171 : decode cX7_node 171 = .ok (.iconst 0, 1) := by decide +kernel
theorem dX7_node_172 : decode cX7_node 172 = .ok (.ireturn, 1) := by decide +kernel
theorem dX7_node_173 : decode cX7_node 173 = .ok (.aload_n 0, 1) := by decide +kernel
theorem dX7_node_174 : decode cX7_node 174 = .ok (.iload 4, 2) := by decide +kernel
theorem dX7_node_176 : decode cX7_node 176 = .ok (.aload_n 0, 1) := by decide +kernel
theorem dX7_node_177 : decode cX7_node 177 = .ok (.getfield 342, 3) := by decide +kernel
theorem dX7_node_180 : decode cX7_node 180 = .ok (.iconst 1, 1) := by decide +kernel
theorem dX7_node_181 : decode cX7_node 181 = .ok (.invokevirtual 293, 3) := by decide +kernel
theorem dX7_node_184 : decode cX7_node 184 = .ok (.istore 5, 2) := by decide +kernel
theorem dX7_node_186 : decode cX7_node 186 = .ok (.iload_n 1, 1) := by decide +kernel
theorem dX7_node_187 : decode cX7_node 187 = .ok (.iconst 2, 1) := by decide +kernel
theorem dX7_node_188 : decode cX7_node 188 = .ok (.if_icmp .ne 8, 3) := by decide +kernel
theorem dX7_node_191 : decode cX7_node 191 = .ok (.iload 5, 2) := by decide +kernel
theorem dX7_node_193 : decode cX7_node 193 = .ok (.goto 39, 3) := by decide +kernel
theorem dX7_node_196 : decode cX7_node 196 = .ok (.iload_n 1, 1) := by decide +kernel
theorem dX7_node_197 : decode cX7_node 197 = .ok (.iconst 3, 1) := by decide +kernel
theorem dX7_node_198 : decode cX7_node 198 = .ok (.if_icmp .ne 20, 3) := by decide +kernel
theorem dX7_node_201 : decode cX7_node 201 = .ok (.iload 5, 2) := by decide +kernel
theorem dX7_node_203 : decode cX7_node 203 = .ok (.ifCond .ne 10, 3) := by decide +kernel
theorem dX7_node_206 : decode cX7_node 206 = .ok (.aload_n 0, 1) := by decide +kernel
theorem dX7_node_207 : decode cX7_node 207 = .ok (.getfield 278, 3) := by decide +kernel
theorem dX7_node_210 : decode cX7_node 210 = .ok (.goto 22, 3) := by decide +kernel
theorem dX7_node_213 : decode cX7_node 213 = .ok (.ldc 224, 2) := by decide +kernel
theorem dX7_node_215 : decode cX7_node 215 = .ok (.goto 17, 3) := by decide +kernel
theorem dX7_node_218 : decode cX7_node 218 = .ok (.iload 5, 2) := by decide +kernel
theorem dX7_node_220 : decode cX7_node 220 = .ok (.ifCond .ne 8, 3) := by decide +kernel
theorem dX7_node_223 : decode cX7_node 223 = .ok (.bipush (-9), 2) := by decide +kernel
theorem dX7_node_225 : decode cX7_node 225 = .ok (.goto 7, 3) := by decide +kernel
theorem dX7_node_228 : decode cX7_node 228 = .ok (.aload_n 0, 1) := by decide +kernel
theorem dX7_node_229 : decode cX7_node 229 = .ok (.getfield 272, 3) := by decide +kernel
theorem dX7_node_232 : decode cX7_node 232 = .ok (.ireturn, 1) := by decide +kernel
theorem dX7_swap_0 : decode cX7_swap 0 = .ok (.iconst 0, 1) := by decide +kernel
theorem dX7_swap_1 : decode cX7_swap 1 = .ok (.istore_n 2, 1) := by decide +kernel
theorem dX7_swap_2 : decode cX7_swap 2 = .ok (.iload_n 2, 1) := by decide +kernel
theorem dX7_swap_3 : decode cX7_swap 3 = .ok (.aload_n 0, 1) := by decide +kernel
theorem dX7_swap_4 : decode cX7_swap 4 = .ok (.arraylength, 1) := by decide +kernel
theorem dX7_swap_5 : decode cX7_swap 5 = .ok (.if_icmp .ge 23, 3) := by decide +kernel
theorem dX7_swap_8 : decode cX7_swap 8 = .ok (.aload_n 0, 1) := by decide +kernel
theorem dX7_swap_9 : decode cX7_swap 9 = .ok (.iload_n 2, 1) := by decide +kernel
theorem dX7_swap_10 : decode cX7_swap 10 = .ok (.iaload, 1) := by decide +kernel
theorem dX7_swap_11 : decode cX7_swap 11 = .ok (.istore_n 3, 1) := by decide +kernel
theorem dX7_swap_12 : decode cX7_swap 12 = .ok (.aload_n 0, 1) := by decide +kernel
theorem dX7_swap_13 : decode cX7_swap 13 = .ok (.iload_n 2, 1) := by decide +kernel
theorem dX7_swap_14 : decode cX7_swap 14 = .ok (.aload_n 1, 1) := by decide +kernel
theorem dX7_swap_15 : decode cX7_swap 15 = .ok (.iload_n 2, 1) := by decide +kernel
theorem dX7_swap_16 : decode cX7_swap 16 = .ok (.iaload, 1) := by decide +kernel
theorem dX7_swap_17 : decode cX7_swap 17 = .ok (.iastore, 1) := by decide +kernel
theorem dX7_swap_18 : decode cX7_swap 18 = .ok (.aload_n 1, 1) := by decide +kernel
theorem dX7_swap_19 : decode cX7_swap 19 = .ok (.iload_n 2, 1) := by decide +kernel
theorem dX7_swap_20 : decode cX7_swap 20 = .ok (.iload_n 3, 1) := by decide +kernel
theorem dX7_swap_21 : decode cX7_swap 21 = .ok (.iastore, 1) := by decide +kernel
theorem dX7_swap_22 : decode cX7_swap 22 = .ok (.iinc 2 1, 3) := by decide +kernel
theorem dX7_swap_25 : decode cX7_swap 25 = .ok (.goto (-23), 3) := by decide +kernel
theorem dX7_swap_28 : decode cX7_swap 28 = .ok (.return_, 1) := by decide +kernel
theorem dX7_turnRound_0 : decode cX7_turnRound 0 = .ok (.iconst 0, 1) := by decide +kernel
theorem dX7_turnRound_1 : decode cX7_turnRound 1 = .ok (.istore_n 2, 1) := by decide +kernel
theorem dX7_turnRound_2 : decode cX7_turnRound 2 = .ok (.iload_n 2, 1) := by decide +kernel
theorem dX7_turnRound_3 : decode cX7_turnRound 3 = .ok (.aload_n 0, 1) := by decide +kernel
theorem dX7_turnRound_4 : decode cX7_turnRound 4 = .ok (.arraylength, 1) := by decide +kernel
theorem dX7_turnRound_5 : decode cX7_turnRound 5 = .ok (.if_icmp .ge 23, 3) := by decide +kernel
theorem dX7_turnRound_8 : decode cX7_turnRound 8 = .ok (.aload_n 0, 1) := by decide +kernel
theorem dX7_turnRound_9 : decode cX7_turnRound 9 = .ok (.iload_n 2, 1) := by decide +kernel
theorem dX7_turnRound_10 : decode cX7_turnRound 10 = .ok (.baload, 1) := by decide +kernel
theorem dX7_turnRound_11 : decode cX7_turnRound 11 = .ok (.istore_n 3, 1) := by decide +kernel
theorem dX7_turnRound_12 : decode cX7_turnRound 12 = .ok (.aload_n 0, 1) := by decide +kernel
theorem dX7_turnRound_13 : decode cX7_turnRound 13 = .ok (.iload_n 2, 1) := by decide +kernel
theorem dX7_turnRound_14 : decode cX7_turnRound 14 = .ok (.aload_n 1, 1) := by decide +kernel
theorem dX7_turnRound_15 : decode cX7_turnRound 15 = .ok (.iload_n 2, 1) := by decide +kernel
theorem dX7_turnRound_16 : decode cX7_turnRound 16 = .ok (.baload, 1) := by decide +kernel
theorem dX7_turnRound_17 : decode cX7_turnRound 17 = .ok (.bastore, 1) := by decide +kernel
theorem dX7_turnRound_18 : decode cX7_turnRound 18 = .ok (.aload_n 1, 1) := by decide +kernel
theorem dX7_turnRound_19 : decode cX7_turnRound 19 = .ok (.iload_n 2, 1) := by decide +kernel
theorem dX7_turnRound_20 : decode cX7_turnRound 20 = .ok (.iload_n 3, 1) := by decide +kernel
theorem dX7_turnRound_21 : decode cX7_turnRound 21 = .ok (.bastore, 1) := by decide +kernel
theorem dX7_turnRound_22 : decode cX7_turnRound 22 = .ok (.iinc 2 1, 3) := by decide +kernel
theorem dX7_turnRound_25 : decode cX7_turnRound 25 = .ok (.goto (-23), 3) := by decide +kernel
theorem dX7_turnRound_28 : decode cX7_turnRound 28 = .ok (.return_, 1) := by decide +kernel
set_option maxRecDepth 20000 in
theorem ggX7_aside_X7_swap : GoodIn wsX7_aside wsX7_swap := goodIn_g _ [(32, 1)] rfl (by decide +kernel)
set_option maxRecDepth 20000 in
theorem gX7_aside_X7_swap : GoodIn wsX7_aside (va_wsS RX7 345 yX7_swap wsX7_swap) := goodIn_app (goodIn_of _ (by decide +kernel)) ggX7_aside_X7_swap
set_option maxRecDepth 20000 in
theorem ggX7_aside_X7_turnRound : GoodIn wsX7_aside wsX7_turnRound := goodIn_g _ [(35, 1)] rfl (by decide +kernel)
set_option maxRecDepth 20000 in
theorem gX7_aside_X7_turnRound : GoodIn wsX7_aside (va_wsS RX7 349 yX7_turnRound wsX7_turnRound) := goodIn_app (goodIn_of _ (by decide +kernel)) ggX7_aside_X7_turnRound
theorem dX7_aside_0 : decode cX7_aside 0 = .ok (.aload_n 0, 1) := by decide +kernel
theorem dX7_aside_1 : decode cX7_aside 1 = .ok (.getfield 284, 3) := by decide +kernel
theorem dX7_aside_4 : decode cX7_aside 4 = .ok (.istore_n 1, 1) := by decide +kernel
theorem dX7_aside_5 : decode cX7_aside 5 = .ok (.aload_n 0, 1) := by decide +kernel
theorem dX7_aside_6 : decode cX7_aside 6 = .ok (.getfield 287, 3) := by decide +kernel
theorem dX7_aside_9 : decode cX7_aside 9 = .ok (.istore_n 2, 1) := by decide +kernel
theorem dX7_aside_10 : decode cX7_aside 10 = .ok (.aload_n 0, 1) := by decide +kernel
theorem dX7_aside_11 : decode cX7_aside 11 = .ok (.getfield 303, 3) := by decide +kernel
theorem dX7_aside_14 : decode cX7_aside 14 = .ok (.istore_n 3, 1) := by decide +kernel
theorem dX7_aside_15 : decode cX7_aside 15 = .ok (.aload_n 0, 1) := by decide +kernel
theorem dX7_aside_16 : decode cX7_aside 16 = .ok (.aload_n 0, 1) := by decide +kernel
theorem dX7_aside_17 : decode cX7_aside 17 = .ok (.getfield 162, 3) := by decide +kernel
theorem dX7_aside_20 : decode cX7_aside 20 = .ok (.iconst 0, 1) := by decide +kernel
theorem dX7_aside_21 : decode cX7_aside 21 = .ok (.iaload, 1) := by decide +kernel
theorem dX7_aside_22 : decode cX7_aside 22 = .ok (.putfield 284, 3) := by decide +kernel
theorem dX7_aside_25 : decode cX7_aside 25 = .ok (.aload_n 0, 1) := by decide +kernel
theorem dX7_aside_26 : decode cX7_aside 26 = .ok (.aload_n 0, 1) := by decide +kernel
theorem dX7_aside_27 : decode cX7_aside 27 = .ok (.getfield 162, 3) := by decide +kernel
theorem dX7_aside_30 : decode cX7_aside 30 = .ok (.iconst 1, 1) := by decide +kernel
theorem dX7_aside_31 : decode cX7_aside 31 = .ok (.iaload, 1) := by decide +kernel
theorem dX7_aside_32 : decode cX7_aside 32 = .ok (.putfield 287, 3) := by decide +kernel
theorem dX7_aside_35 : decode cX7_aside 35 = .ok (.aload_n 0, 1) := by decide +kernel
theorem dX7_aside_36 : decode cX7_aside 36 = .ok (.aload_n 0, 1) := by decide +kernel
theorem dX7_aside_37 : decode cX7_aside 37 = .ok (.getfield 162, 3) := by decide +kernel
theorem dX7_aside_40 : decode cX7_aside 40 = .ok (.iconst 2, 1) := by decide +kernel
theorem dX7_aside_41 : decode cX7_aside 41 = .ok (.iaload, 1) := by decide +kernel
theorem dX7_aside_42 : decode cX7_aside 42 = .ok (.putfield 303, 3) := by decide +kernel
theorem dX7_aside_45 : decode cX7_aside 45 = .ok (.aload_n 0, 1) := by decide +kernel
theorem dX7_aside_46 : decode cX7_aside 46 = .ok (.getfield 162, 3) := by decide +kernel
theorem dX7_aside_49 : decode cX7_aside 49 = .ok (.iconst 0, 1) := by decide +kernel
theorem dX7_aside_50 : decode cX7_aside 50 = .ok (.iload_n 1, 1) := by decide +kernel
theorem dX7_aside_51 : decode cX7_aside 51 = .ok (.iastore, 1) := by decide +kernel
theorem dX7_aside_52 : decode cX7_aside 52 = .ok (.aload_n 0, 1) := by decide +kernel
theorem dX7_aside_53 : decode cX7_aside 53 = .ok (.getfield 162, 3) := by decide +kernel
theorem dX7_aside_56 : decode cX7_aside 56 = .ok (.iconst 1, 1) := by decide +kernel
theorem dX7_aside_57 : decode cX7_aside 57 = .ok (.iload_n 2, 1) := by decide +kernel
theorem dX7_aside_58 : decode cX7_aside 58 = .ok (.iastore, 1) := by decide +kernel
theorem dX7_aside_59 : decode cX7_aside 59 = .ok (.aload_n 0, 1) := by decide +kernel
theorem dX7_aside_60 : decode cX7_aside 60 = .ok (.getfield 162, 3) := by decide +kernel
theorem dX7_aside_63 : decode cX7_aside 63 = .ok (.iconst 2, 1) := by decide +kernel
theorem dX7_aside_64 : decode cX7_aside 64 = .ok (.iload_n 3, 1) := by decide +kernel
theorem dX7_aside_65 : decode cX7_aside 65 = .ok (.iastore, 1) := by decide +kernel
theorem dX7_aside_66 : decode cX7_aside 66 = .ok (.aload_n 0, 1) := by decide +kernel
theorem dX7_aside_67 : decode cX7_aside 67 = .ok (.getfield 74, 3) := by decide +kernel
theorem dX7_aside_70 : decode cX7_aside 70 = .ok (.aload_n 0, 1) := by decide +kernel
theorem dX7_aside_71 : decode cX7_aside 71 = .ok (.getfield 165, 3) := by decide +kernel
theorem dX7_aside_74 : decode cX7_aside 74 = .ok (.invokestatic 345, 3) := by decide +kernel
theorem dX7_aside_77 : decode cX7_aside 77 = .ok (.aload_n 0, 1) := by decide +kernel
theorem dX7_aside_78 : decode cX7_aside 78 = .ok (.getfield 77, 3) := by decide +kernel
theorem dX7_aside_81 : decode cX7_aside 81 = .ok (.aload_n 0, 1) := by decide +kernel
theorem dX7_aside_82 : decode cX7_aside 82 = .ok (.getfield 168, 3) := by decide +kernel
theorem dX7_aside_85 : decode cX7_aside 85 = .ok (.invokestatic 345, 3) := by decide +kernel
theorem dX7_aside_88 : decode cX7_aside 88 = .ok (.aload_n 0, 1) := by decide +kernel
theorem dX7_aside_89 : decode cX7_aside 89 = .ok (.getfield 80, 3) := by decide +kernel
theorem dX7_aside_92 : decode cX7_aside 92 = .ok (.aload_n 0, 1) := by decide +kernel
theorem dX7_aside_93 : decode cX7_aside 93 = .ok (.getfield 171, 3) := by decide +kernel
theorem dX7_aside_96 : decode cX7_aside 96 = .ok (.invokestatic 345, 3) := by decide +kernel
theorem dX7_aside_99 : decode cX7_aside 99 = .ok (.aload_n 0, 1) := by decide +kernel
theorem dX7_aside_100 : decode cX7_aside 100 = .ok (.getfield 83, 3) := by decide +kernel
theorem dX7_aside_103 : decode cX7_aside 103 = .ok (.aload_n 0, 1) := by decide +kernel
theorem dX7_aside_104 : decode cX7_aside 104 = .ok (.getfield 174, 3) := by decide +kernel
theorem dX7_aside_107 : decode cX7_aside 107 = .ok (.invokestatic 345, 3) := by decide +kernel
theorem dX7_aside_110 : decode cX7_aside 110 = .ok (.aload_n 0, 1) := by decide +kernel
theorem dX7_aside_111 : decode cX7_aside 111 = .ok (.getfield 86, 3) := by decide +kernel
theorem dX7_aside_114 : decode cX7_aside 114 = .ok (.aload_n 0, 1) := by decide +kernel
theorem dX7_aside_115 : decode cX7_aside 115 = .ok (.getfield 177, 3) := by decide +kernel
theorem dX7_aside_118 : decode cX7_aside 118 = .ok (.invokestatic 345, 3) := by decide +kernel
theorem dX7_aside_121 : decode cX7_aside 121 = .ok (.aload_n 0, 1) := by decide +kernel
theorem dX7_aside_122 : decode cX7_aside 122 = .ok (.getfield 89, 3) := by decide +kernel
theorem dX7_aside_125 : decode cX7_aside 125 = .ok (.aload_n 0, 1) := by decide +kernel
theorem dX7_aside_126 : decode cX7_aside 126 = .ok (.getfield 180, 3) := by decide +kernel
theorem dX7_aside_129 : decode cX7_aside 129 = .ok (.invokestatic 345, 3) := by decide +kernel
theorem dX7_aside_132 : decode cX7_aside 132 = .ok (.aload_n 0, 1) := by decide +kernel
theorem dX7_aside_133 : decode cX7_aside 133 = .ok (.getfield 92, 3) := by decide +kernel
theorem dX7_aside_136 : decode cX7_aside 136 = .ok (.aload_n 0, 1) := by decide +kernel
theorem dX7_aside_137 : decode cX7_aside 137 = .ok (.getfield 183, 3) := by decide +kernel
theorem dX7_aside_140 : decode cX7_aside 140 = .ok (.invokestatic 349, 3) := by decide +kernel
theorem dX7_aside_143 : decode cX7_aside 143 = .ok (.aload_n 0, 1) := by decide +kernel
theorem dX7_aside_144 : decode cX7_aside 144 = .ok (.getfield 96, 3) := by decide +kernel
theorem dX7_aside_147 : decode cX7_aside 147 = .ok (.aload_n 0, 1) := by decide +kernel
theorem dX7_aside_148 : decode cX7_aside 148 = .ok (.getfield 186, 3) := by decide +kernel
theorem dX7_aside_151 : decode cX7_aside 151 = .ok (.invokestatic 349, 3) := by decide +kernel
theorem dX7_aside_154 : decode cX7_aside 154 = .ok (.aload_n 0, 1) := by decide +kernel
theorem dX7_aside_155 : decode cX7_aside 155 = .ok (.getfield 99, 3) := by decide +kernel
theorem dX7_aside_158 : decode cX7_aside 158 = .ok (.aload_n 0, 1) := by decide +kernel
theorem dX7_aside_159 : decode cX7_aside 159 = .ok (.getfield 189, 3) := by decide +kernel
theorem dX7_aside_162 : decode cX7_aside 162 = .ok (.invokestatic 345, 3) := by decide +kernel
theorem dX7_aside_165 : decode cX7_aside 165 = .ok (.aload_n 0, 1) := by decide +kernel
theorem dX7_aside_166 : decode cX7_aside 166 = .ok (.getfield 102, 3) := by decide +kernel
theorem dX7_aside_169 : decode cX7_aside 169 = .ok (.aload_n 0, 1) := by decide +kernel
theorem dX7_aside_170 : decode cX7_aside 170 = .ok (.getfield 192, 3) := by decide +kernel
theorem dX7_aside_173 : decode cX7_aside 173 = .ok (.invokestatic 345, 3) := by decide +kernel
theorem dX7_aside_176 : decode cX7_aside 176 = .ok (.aload_n 0, 1) := by decide +kernel
theorem dX7_aside_177 : decode cX7_aside 177 = .ok (.getfield 105, 3) := by decide +kernel
theorem dX7_aside_180 : decode cX7_aside 180 = .ok (.aload_n 0, 1) := by decide +kernel
theorem dX7_aside_181 : decode cX7_aside 181 = .ok (.getfield 195, 3) := by decide +kernel
theorem dX7_aside_184 : decode cX7_aside 184 = .ok (.invokestatic 345, 3) := by decide +kernel
theorem dX7_aside_187 : decode cX7_aside 187 = .ok (.aload_n 0, 1) := by decide +kernel
theorem dX7_aside_188 : decode cX7_aside 188 = .ok (.getfield 108, 3) := by decide +kernel
theorem dX7_aside_191 : decode cX7_aside 191 = .ok (.aload_n 0, 1) := by decide +kernel
theorem dX7_aside_192 : decode cX7_aside 192 = .ok (.getfield 198, 3) := by decide +kernel
theorem dX7_aside_195 : decode cX7_aside 195 = .ok (.invokestatic 345, 3) := by decide +kernel
theorem dX7_aside_198 : decode cX7_aside 198 = .ok (.return_, 1) := by decide +kernel
set_option maxRecDepth 20000 in
theorem ggX7_second_X7_isProblem : GoodIn wsX7_second wsX7_isProblem := goodIn_g _ [(16, 4), (15, 1), (20, 1), (138, 79)] rfl (by decide +kernel)
set_option maxRecDepth 20000 in
theorem gX7_second_X7_isProblem : GoodIn wsX7_second (wsV RX7 214 RX7 yX7_isProblem wsX7_isProblem) := goodIn_app (goodIn_of _ (by decide +kernel)) ggX7_second_X7_isProblem
set_option maxRecDepth 20000 in
theorem ggX7_second_X7_in : GoodIn wsX7_second wsX7_in := goodIn_g _ [(20, 1)] rfl (by decide +kernel)
set_option maxRecDepth 20000 in
theorem gX7_second_X7_in : GoodIn wsX7_second (va_wsS RX7 207 yX7_in wsX7_in) := goodIn_app (goodIn_of _ (by decide +kernel)) ggX7_second_X7_in
set_option maxRecDepth 20000 in
theorem ggX7_second_X7_aside : GoodIn wsX7_second wsX7_aside := goodIn_g _ [(24, 3), (3, 1), (27, 1), (4, 1), (28, 1), (11, 1), (29, 3), (7, 1), (32, 19), (15, 1), (51, 4), (138, 79)] rfl (by decide +kernel)
set_option maxRecDepth 20000 in
theorem gX7_second_X7_aside : GoodIn wsX7_second (wsV RX7 354 RX7 yX7_aside wsX7_aside) := goodIn_app (goodIn_of _ (by decide +kernel)) ggX7_second_X7_aside
set_option maxRecDepth 20000 in
theorem ggX7_second_X7_begins : GoodIn wsX7_second wsX7_begins := goodIn_g _ [(58, 1), (25, 2), (3, 1), (59, 4), (15, 1), (63, 3), (5, 1), (66, 52), (4, 1), (33, 1), (7, 1), (35, 1), (37, 1), (39, 1), (47, 1), (11, 1), (30, 1), (138, 79)] rfl (by decide +kernel)
set_option maxRecDepth 20000 in
theorem gX7_second_X7_begins : GoodIn wsX7_second (wsV RX7 326 RX7 yX7_begins wsX7_begins) := goodIn_app (goodIn_of _ (by decide +kernel)) ggX7_second_X7_begins
set_option maxRecDepth 20000 in
theorem ggX7_second_X7_nextOf : GoodIn wsX7_second wsX7_nextOf := goodIn_g _ [(121, 1), (25, 1), (39, 1), (33, 1), (122, 3), (15, 1), (125, 1), (7, 1), (30, 1), (138, 79)] rfl (by decide +kernel)
set_option maxRecDepth 20000 in
theorem gX7_second_X7_nextOf : GoodIn wsX7_second (wsV RX7 306 RX7 yX7_nextOf wsX7_nextOf) := goodIn_app (goodIn_of _ (by decide +kernel)) ggX7_second_X7_nextOf
set_option maxRecDepth 20000 in
theorem ggX7_second_X7_takes : GoodIn wsX7_second wsX7_takes := goodIn_g _ [(129, 1), (39, 1), (41, 1), (3, 1), (138, 79)] rfl (by decide +kernel)
set_option maxRecDepth 20000 in
theorem gX7_second_X7_takes : GoodIn wsX7_second (wsV RX7 316 RX7 yX7_takes wsX7_takes) := goodIn_app (goodIn_of _ (by decide +kernel)) ggX7_second_X7_takes
set_option maxRecDepth 20000 in
theorem ggX7_second_X7_opens : GoodIn wsX7_second wsX7_opens := goodIn_g _ [(133, 1), (37, 1), (26, 1), (4, 2), (66, 1), (59, 1), (43, 1), (45, 1), (64, 1), (47, 1), (134, 3), (15, 1), (137, 1), (11, 1), (60, 4), (65, 1), (67, 51), (25, 1), (33, 1), (7, 1), (35, 1), (39, 1), (30, 1), (138, 79)] rfl (by decide +kernel)
set_option maxRecDepth 20000 in
theorem gX7_second_X7_opens : GoodIn wsX7_second (wsV RX7 322 RX7 yX7_opens wsX7_opens) := goodIn_app (goodIn_of _ (by decide +kernel)) ggX7_second_X7_opens
theorem dX7_second_0 : decode cX7_second 0 = .ok (.aload_n 0, 1) := by decide +kernel
theorem dX7_second_1 : decode cX7_second 1 = .ok (.iconst 0, 1) := by decide +kernel
theorem dX7_second_2 : decode cX7_second 2 = .ok (.putfield 201, 3) := by decide +kernel
theorem dX7_second_5 : decode cX7_second 5 = .ok (.aload_n 0, 1) := by decide +kernel
theorem dX7_second_6 : decode cX7_second 6 = .ok (.iload_n 1, 1) := by decide +kernel
theorem dX7_second_7 : decode cX7_second 7 = .ok (.invokevirtual 214, 3) := by decide +kernel
theorem dX7_second_10 : decode cX7_second 10 = .ok (.ifCond .eq 13, 3) := by decide +kernel
theorem dX7_second_13 : decode cX7_second 13 = .ok (.iload_n 2, 1) := by decide +kernel
theorem dX7_second_14 : decode cX7_second 14 = .ok (.iconst 0, 1) := by decide +kernel
theorem dX7_second_15 : decode cX7_second 15 = .ok (.bipush 60, 2) := by decide +kernel
theorem dX7_second_17 : decode cX7_second 17 = .ok (.invokestatic 207, 3) := by decide +kernel
theorem dX7_second_20 : decode cX7_second 20 = .ok (.ifCond .ne 7, 3) := by decide +kernel
theorem dX7_second_23 : decode cX7_second 23 = .ok (.ldc_w 353, 3) := by decide +kernel
theorem dX7_second_26 : decode cX7_second 26 = .ok (.ireturn, 1) := by decide +kernel
theorem dX7_second_27 : decode cX7_second 27 = .ok (.aload_n 0, 1) := by decide +kernel
theorem dX7_second_28 : decode cX7_second 28 = .ok (.invokevirtual 354, 3) := by decide +kernel
theorem dX7_second_31 : decode cX7_second 31 = .ok (.aload_n 0, 1) := by decide +kernel
theorem dX7_second_32 : decode cX7_second 32 = .ok (.iload_n 1, 1) := by decide +kernel
theorem dX7_second_33 : decode cX7_second 33 = .ok (.iconst 0, 1) := by decide +kernel
theorem dX7_second_34 : decode cX7_second 34 = .ok (.invokevirtual 326, 3) := by decide +kernel
theorem dX7_second_37 : decode cX7_second 37 = .ok (.iconst 0, 1) := by decide +kernel
theorem dX7_second_38 : decode cX7_second 38 = .ok (.istore_n 3, 1) := by decide +kernel
theorem dX7_second_39 : decode cX7_second 39 = .ok (.bipush (-9), 2) := by decide +kernel
theorem dX7_second_41 : decode cX7_second 41 = .ok (.istore 4, 2) := by decide +kernel
theorem dX7_second_43 : decode cX7_second 43 = .ok (.aload_n 0, 1) := by decide +kernel
theorem dX7_second_44 : decode cX7_second 44 = .ok (.invokevirtual 306, 3) := by decide +kernel
theorem dX7_second_47 : decode cX7_second 47 = .ok (.istore 5, 2) := by decide +kernel
theorem dX7_second_49 : decode cX7_second 49 = .ok (.iload 5, 2) := by decide +kernel
theorem dX7_second_51 : decode cX7_second 51 = .ok (.bipush (-9), 2) := by decide +kernel
theorem dX7_second_53 : decode cX7_second 53 = .ok (.if_icmp .eq 76, 3) := by decide +kernel
theorem dX7_second_56 : decode cX7_second 56 = .ok (.aload_n 0, 1) := by decide +kernel
theorem dX7_second_57 : decode cX7_second 57 = .ok (.getfield 303, 3) := by decide +kernel
theorem dX7_second_60 : decode cX7_second 60 = .ok (.sipush 250, 3) := by decide +kernel
theorem dX7_second_63 : decode cX7_second 63 = .ok (.if_icmp .ge 66, 3) := by decide +kernel
theorem dX7_second_66 : decode cX7_second 66 = .ok (.iload 4, 2) := by decide +kernel
theorem dX7_second_68 : decode cX7_second 68 = .ok (.bipush (-9), 2) := by decide +kernel
theorem dX7_second_70 : decode cX7_second 70 = .ok (.if_icmp .ne 59, 3) := by decide +kernel
theorem dX7_second_73 : decode cX7_second 73 = .ok (.aload_n 0, 1) := by decide +kernel
theorem dX7_second_74 : decode cX7_second 74 = .ok (.iload 5, 2) := by decide +kernel
theorem dX7_second_76 : decode cX7_second 76 = .ok (.invokevirtual 316, 3) := by decide +kernel
theorem dX7_second_79 : decode cX7_second 79 = .ok (.aload_n 0, 1) := by decide +kernel
theorem dX7_second_80 : decode cX7_second 80 = .ok (.iload_n 1, 1) := by decide +kernel
theorem dX7_second_81 : decode cX7_second 81 = .ok (.iload 5, 2) := by decide +kernel
theorem dX7_second_83 : decode cX7_second 83 = .ok (.iconst 0, 1) := by decide +kernel
theorem dX7_second_84 : decode cX7_second 84 = .ok (.invokevirtual 322, 3) := by decide +kernel
theorem dX7_second_87 : decode cX7_second 87 = .ok (.aload_n 0, 1) := by decide +kernel
theorem dX7_second_88 : decode cX7_second 88 = .ok (.getfield 74, 3) := by decide +kernel
theorem dX7_second_91 : decode cX7_second 91 = .ok (.iload 5, 2) := by decide +kernel
theorem dX7_second_93 : decode cX7_second 93 = .ok (.iaload, 1) := by decide +kernel
theorem dX7_second_94 : decode cX7_second 94 = .ok (.aload_n 0, 1) := by decide +kernel
theorem dX7_second_95 : decode cX7_second 95 = .ok (.getfield 7, 3) := by decide +kernel
theorem dX7_second_98 : decode cX7_second 98 = .ok (.iload_n 1, 1) := by decide +kernel
theorem dX7_second_99 : decode cX7_second 99 = .ok (.iaload, 1) := by decide +kernel
theorem dX7_second_100 : decode cX7_second 100 = .ok (.if_icmp .ne 20, 3) := by decide +kernel
theorem dX7_second_103 : decode cX7_second 103 = .ok (.iload_n 3, 1) := by decide +kernel
theorem dX7_second_104 : decode cX7_second 104 = .ok (.iload_n 2, 1) := by decide +kernel
theorem dX7_second_105 : decode cX7_second 105 = .ok (.if_icmp .ne 8, 3) := by decide +kernel
theorem dX7_second_108 : decode cX7_second 108 = .ok (.iload 5, 2) := by decide +kernel
theorem dX7_second_110 : decode cX7_second 110 = .ok (.goto 5, 3) := by decide +kernel
theorem dX7_second_113 : decode cX7_second 113 = .ok (.bipush (-9), 2) := by decide +kernel
theorem dX7_second_115 : decode cX7_second 115 = .ok (.istore 4, 2) := by decide +kernel
theorem dX7_second_117 : decode cX7_second 117 = .ok (.iinc 3 1, 3) := by decide +kernel
theorem dX7_second_120 : decode cX7_second 120 = .ok (.aload_n 0, 1) := by decide +kernel
theorem dX7_second_121 : decode cX7_second 121 = .ok (.invokevirtual 306, 3) := by decide +kernel
theorem dX7_second_124 : decode cX7_second 124 = .ok (.istore 5, 2) := by decide +kernel
theorem dX7_second_126 : decode cX7_second 126 = .ok (.goto (-77), 3) := by decide +kernel
theorem dX7_second_129 : decode cX7_second 129 = .ok (.aload_n 0, 1) := by decide +kernel
theorem dX7_second_130 : decode cX7_second 130 = .ok (.iload 4, 2) := by decide +kernel
theorem dX7_second_132 : decode cX7_second 132 = .ok (.bipush (-9), 2) := by decide +kernel
theorem dX7_second_134 : decode cX7_second 134 = .ok (.if_icmp .ne 8, 3) := by decide +kernel
theorem dX7_second_137 : decode cX7_second 137 = .ok (.bipush (-9), 2) := by decide +kernel
theorem dX7_second_139 : decode cX7_second 139 = .ok (.goto 9, 3) := by decide +kernel
theorem dX7_second_142 : decode cX7_second 142 = .ok (.aload_n 0, 1) := by decide +kernel
theorem dX7_second_143 : decode cX7_second 143 = .ok (.getfield 7, 3) := by decide +kernel
theorem dX7_second_146 : decode cX7_second 146 = .ok (.iload_n 1, 1) := by decide +kernel
theorem dX7_second_147 : decode cX7_second 147 = .ok (.iaload, 1) := by decide +kernel
theorem dX7_second_148 : decode cX7_second 148 = .ok (.putfield 153, 3) := by decide +kernel
theorem dX7_second_151 : decode cX7_second 151 = .ok (.iload 4, 2) := by decide +kernel
theorem dX7_second_153 : decode cX7_second 153 = .ok (.bipush (-9), 2) := by decide +kernel
theorem dX7_second_155 : decode cX7_second 155 = .ok (.if_icmp .eq 13, 3) := by decide +kernel
theorem dX7_second_158 : decode cX7_second 158 = .ok (.aload_n 0, 1) := by decide +kernel
theorem dX7_second_159 : decode cX7_second 159 = .ok (.getfield 83, 3) := by decide +kernel
theorem dX7_second_162 : decode cX7_second 162 = .ok (.iload 4, 2) := by decide +kernel
theorem dX7_second_164 : decode cX7_second 164 = .ok (.iaload, 1) := by decide +kernel
theorem dX7_second_165 : decode cX7_second 165 = .ok (.goto 18, 3) := by decide +kernel
theorem dX7_second_168 : decode cX7_second 168 = .ok (.iload 5, 2) := by decide +kernel
theorem dX7_second_170 : decode cX7_second 170 = .ok (.bipush (-9), 2) := by decide +kernel
theorem dX7_second_172 : decode cX7_second 172 = .ok (.if_icmp .ne 8, 3) := by decide +kernel
theorem dX7_second_175 : decode cX7_second 175 = .ok (.ldc 224, 2) := by decide +kernel
theorem dX7_second_177 : decode cX7_second 177 = .ok (.goto 6, 3) := by decide +kernel
theorem dX7_second_180 : decode cX7_second 180 = .ok (.ldc_w 357, 3) := by decide +kernel
theorem dX7_second_183 : decode cX7_second 183 = .ok (.istore 6, 2) := by decide +kernel
theorem dX7_second_185 : decode cX7_second 185 = .ok (.iconst 0, 1) := by decide +kernel
theorem dX7_second_186 : decode cX7_second 186 = .ok (.istore 7, 2) := by decide +kernel
theorem dX7_second_188 : decode cX7_second 188 = .ok (.iload 7, 2) := by decide +kernel
theorem dX7_second_190 : decode cX7_second 190 = .ok (.bipush 6, 2) := by decide +kernel
theorem dX7_second_192 : decode cX7_second 192 = .ok (.if_icmp .ge 36, 3) := by decide +kernel
theorem dX7_second_195 : decode cX7_second 195 = .ok (.iload 4, 2) := by decide +kernel
theorem dX7_second_197 : decode cX7_second 197 = .ok (.bipush (-9), 2) := by decide +kernel
theorem dX7_second_199 : decode cX7_second 199 = .ok (.if_icmp .eq 29, 3) := by decide +kernel
theorem dX7_second_202 : decode cX7_second 202 = .ok (.aload_n 0, 1) := by decide +kernel
theorem dX7_second_203 : decode cX7_second 203 = .ok (.getfield 156, 3) := by decide +kernel
theorem dX7_second_206 : decode cX7_second 206 = .ok (.iload 7, 2) := by decide +kernel
theorem dX7_second_208 : decode cX7_second 208 = .ok (.aload_n 0, 1) := by decide +kernel
theorem dX7_second_209 : decode cX7_second 209 = .ok (.getfield 77, 3) := by decide +kernel
theorem dX7_second_212 : decode cX7_second 212 = .ok (.bipush 6, 2) := by decide +kernel
theorem dX7_second_214 : decode cX7_second 214 = .ok (.iload 4, 2) := by decide +kernel
theorem dX7_second_216 : decode cX7_second 216 = .ok (.imul, 1) := by decide +kernel
theorem dX7_second_217 : decode cX7_second 217 = .ok (.iload 7, 2) := by decide +kernel
theorem dX7_second_219 : decode cX7_second 219 = .ok (.iadd, 1) := by decide +kernel
theorem dX7_second_220 : decode cX7_second 220 = .ok (.iaload, 1) := by decide +kernel
theorem dX7_second_221 : decode cX7_second 221 = .ok (.iastore, 1) := by decide +kernel
theorem dX7_second_222 : decode cX7_second 222 = .ok (.iinc 7 1, 3) := by decide +kernel
theorem dX7_second_225 : decode cX7_second 225 = .ok (.goto (-37), 3) := by decide +kernel
theorem dX7_second_228 : decode cX7_second 228 = .ok (.aload_n 0, 1) := by decide +kernel
theorem dX7_second_229 : decode cX7_second 229 = .ok (.invokevirtual 354, 3) := by decide +kernel
theorem dX7_second_232 : decode cX7_second 232 = .ok (.iload 6, 2) := by decide +kernel
theorem dX7_second_234 : decode cX7_second 234 = .ok (.ireturn, 1) := by decide +kernel
set_option maxRecDepth 20000 in
theorem ggX7_row_X7_in : GoodIn wsX7_row wsX7_in := goodIn_g _ [(7, 1)] rfl (by decide +kernel)
set_option maxRecDepth 20000 in
theorem gX7_row_X7_in : GoodIn wsX7_row (va_wsS RX7 207 yX7_in wsX7_in) := goodIn_app (goodIn_of _ (by decide +kernel)) ggX7_row_X7_in
theorem dX7_row_0 : decode cX7_row 0 = .ok (.aload_n 0, 1) := by decide +kernel
theorem dX7_row_1 : decode cX7_row 1 = .ok (.iconst 0, 1) := by decide +kernel
theorem dX7_row_2 : decode cX7_row 2 = .ok (.putfield 201, 3) := by decide +kernel
theorem dX7_row_5 : decode cX7_row 5 = .ok (.aload_n 0, 1) := by decide +kernel
theorem dX7_row_6 : decode cX7_row 6 = .ok (.getfield 153, 3) := by decide +kernel
theorem dX7_row_9 : decode cX7_row 9 = .ok (.bipush (-9), 2) := by decide +kernel
theorem dX7_row_11 : decode cX7_row 11 = .ok (.if_icmp .eq 26, 3) := by decide +kernel
theorem dX7_row_14 : decode cX7_row 14 = .ok (.iload_n 1, 1) := by decide +kernel
theorem dX7_row_15 : decode cX7_row 15 = .ok (.iconst 0, 1) := by decide +kernel
theorem dX7_row_16 : decode cX7_row 16 = .ok (.aload_n 0, 1) := by decide +kernel
theorem dX7_row_17 : decode cX7_row 17 = .ok (.getfield 153, 3) := by decide +kernel
theorem dX7_row_20 : decode cX7_row 20 = .ok (.iconst 1, 1) := by decide +kernel
theorem dX7_row_21 : decode cX7_row 21 = .ok (.isub, 1) := by decide +kernel
theorem dX7_row_22 : decode cX7_row 22 = .ok (.invokestatic 207, 3) := by decide +kernel
theorem dX7_row_25 : decode cX7_row 25 = .ok (.ifCond .eq 12, 3) := by decide +kernel
theorem dX7_row_28 : decode cX7_row 28 = .ok (.aload_n 0, 1) := by decide +kernel
theorem dX7_row_29 : decode cX7_row 29 = .ok (.getfield 156, 3) := by decide +kernel
theorem dX7_row_32 : decode cX7_row 32 = .ok (.iload_n 1, 1) := by decide +kernel
theorem dX7_row_33 : decode cX7_row 33 = .ok (.iaload, 1) := by decide +kernel
theorem dX7_row_34 : decode cX7_row 34 = .ok (.goto 5, 3) := by decide +kernel
theorem dX7_row_37 : decode cX7_row 37 = .ok (.bipush (-9), 2) := by decide +kernel
theorem dX7_row_39 : decode cX7_row 39 = .ok (.ireturn, 1) := by decide +kernel
set_option maxRecDepth 20000 in
theorem ggX7_same_X7_isProblem : GoodIn wsX7_same wsX7_isProblem := goodIn_g _ [(7, 4), (6, 1), (11, 80)] rfl (by decide +kernel)
set_option maxRecDepth 20000 in
theorem gX7_same_X7_isProblem : GoodIn wsX7_same (wsV RX7 214 RX7 yX7_isProblem wsX7_isProblem) := goodIn_app (goodIn_of _ (by decide +kernel)) ggX7_same_X7_isProblem
set_option maxRecDepth 20000 in
theorem ggX7_same_X7_in : GoodIn wsX7_same wsX7_in := goodIn_g _ [(11, 1)] rfl (by decide +kernel)
set_option maxRecDepth 20000 in
theorem gX7_same_X7_in : GoodIn wsX7_same (va_wsS RX7 207 yX7_in wsX7_in) := goodIn_app (goodIn_of _ (by decide +kernel)) ggX7_same_X7_in
theorem dX7_same_0 : decode cX7_same 0 = .ok (.aload_n 0, 1) := by decide +kernel
theorem dX7_same_1 : decode cX7_same 1 = .ok (.iconst 0, 1) := by decide +kernel
theorem dX7_same_2 : decode cX7_same 2 = .ok (.putfield 201, 3) := by decide +kernel
theorem dX7_same_5 : decode cX7_same 5 = .ok (.aload_n 0, 1) := by decide +kernel
theorem dX7_same_6 : decode cX7_same 6 = .ok (.iload_n 1, 1) := by decide +kernel
theorem dX7_same_7 : decode cX7_same 7 = .ok (.invokevirtual 214, 3) := by decide +kernel
theorem dX7_same_10 : decode cX7_same 10 = .ok (.ifCond .eq 12, 3) := by decide +kernel
theorem dX7_same_13 : decode cX7_same 13 = .ok (.iload_n 2, 1) := by decide +kernel
theorem dX7_same_14 : decode cX7_same 14 = .ok (.iconst 1, 1) := by decide +kernel
theorem dX7_same_15 : decode cX7_same 15 = .ok (.iconst 5, 1) := by decide +kernel
theorem dX7_same_16 : decode cX7_same 16 = .ok (.invokestatic 207, 3) := by decide +kernel
theorem dX7_same_19 : decode cX7_same 19 = .ok (.ifCond .ne 5, 3) := by decide +kernel
theorem dX7_same_22 : decode cX7_same 22 = .ok (.iconst (-1), 1) := by decide +kernel
theorem dX7_same_23 : decode cX7_same 23 = .ok (.ireturn, 1) := by decide +kernel
theorem dX7_same_24 : decode cX7_same 24 = .ok (.aload_n 0, 1) := by decide +kernel
theorem dX7_same_25 : decode cX7_same 25 = .ok (.getfield 62, 3) := by decide +kernel
theorem dX7_same_28 : decode cX7_same 28 = .ok (.bipush (-9), 2) := by decide +kernel
theorem dX7_same_30 : decode cX7_same 30 = .ok (.if_icmp .eq 8, 3) := by decide +kernel
theorem dX7_same_33 : decode cX7_same 33 = .ok (.bipush (-2), 2) := by decide +kernel
theorem dX7_same_35 : decode cX7_same 35 = .ok (.goto 4, 3) := by decide +kernel
theorem dX7_same_38 : decode cX7_same 38 = .ok (.iconst 1, 1) := by decide +kernel
theorem dX7_same_39 : decode cX7_same 39 = .ok (.ireturn, 1) := by decide +kernel
theorem dX7_count_0 : decode cX7_count 0 = .ok (.aload_n 0, 1) := by decide +kernel
theorem dX7_count_1 : decode cX7_count 1 = .ok (.iconst 0, 1) := by decide +kernel
theorem dX7_count_2 : decode cX7_count 2 = .ok (.putfield 201, 3) := by decide +kernel
theorem dX7_count_5 : decode cX7_count 5 = .ok (.iload_n 1, 1) := by decide +kernel
theorem dX7_count_6 : decode cX7_count 6 = .ok (.tableswitch 125 0 7 #[46, 51, 56, 61, 66, 71, 89, 107], 46) := by decide +kernel
theorem dX7_count_52 : decode cX7_count 52 = .ok (.aload_n 0, 1) := by decide +kernel
theorem dX7_count_53 : decode cX7_count 53 = .ok (.getfield 204, 3) := by decide +kernel
theorem dX7_count_56 : decode cX7_count 56 = .ok (.ireturn, 1) := by decide +kernel
theorem dX7_count_57 : decode cX7_count 57 = .ok (.aload_n 0, 1) := by decide +kernel
theorem dX7_count_58 : decode cX7_count 58 = .ok (.getfield 246, 3) := by decide +kernel
theorem dX7_count_61 : decode cX7_count 61 = .ok (.ireturn, 1) := by decide +kernel
theorem dX7_count_62 : decode cX7_count 62 = .ok (.aload_n 0, 1) := by decide +kernel
theorem dX7_count_63 : decode cX7_count 63 = .ok (.getfield 43, 3) := by decide +kernel
theorem dX7_count_66 : decode cX7_count 66 = .ok (.ireturn, 1) := by decide +kernel
theorem dX7_count_67 : decode cX7_count 67 = .ok (.aload_n 0, 1) := by decide +kernel
theorem dX7_count_68 : decode cX7_count 68 = .ok (.getfield 243, 3) := by decide +kernel
theorem dX7_count_71 : decode cX7_count 71 = .ok (.ireturn, 1) := by decide +kernel
theorem dX7_count_72 : decode cX7_count 72 = .ok (.aload_n 0, 1) := by decide +kernel
theorem dX7_count_73 : decode cX7_count 73 = .ok (.getfield 62, 3) := by decide +kernel
theorem dX7_count_76 : decode cX7_count 76 = .ok (.ireturn, 1) := by decide +kernel
theorem dX7_count_77 : decode cX7_count 77 = .ok (.aload_n 0, 1) := by decide +kernel
theorem dX7_count_78 : decode cX7_count 78 = .ok (.getfield 62, 3) := by decide +kernel
theorem dX7_count_81 : decode cX7_count 81 = .ok (.bipush (-9), 2) := by decide +kernel
theorem dX7_count_83 : decode cX7_count 83 = .ok (.if_icmp .ne 7, 3) := by decide +kernel
theorem dX7_count_86 : decode cX7_count 86 = .ok (.iconst 0, 1) := by decide +kernel
theorem dX7_count_87 : decode cX7_count 87 = .ok (.goto 7, 3) := by decide +kernel
theorem dX7_count_90 : decode cX7_count 90 = .ok (.aload_n 0, 1) := by decide +kernel
theorem dX7_count_91 : decode cX7_count 91 = .ok (.getfield 284, 3) := by decide +kernel
theorem dX7_count_94 : decode cX7_count 94 = .ok (.ireturn, 1) := by decide +kernel
theorem dX7_count_95 : decode cX7_count 95 = .ok (.aload_n 0, 1) := by decide +kernel
theorem dX7_count_96 : decode cX7_count 96 = .ok (.getfield 62, 3) := by decide +kernel
theorem dX7_count_99 : decode cX7_count 99 = .ok (.bipush (-9), 2) := by decide +kernel
theorem dX7_count_101 : decode cX7_count 101 = .ok (.if_icmp .ne 7, 3) := by decide +kernel
theorem dX7_count_104 : decode cX7_count 104 = .ok (.iconst 0, 1) := by decide +kernel
theorem dX7_count_105 : decode cX7_count 105 = .ok (.goto 7, 3) := by decide +kernel
theorem dX7_count_108 : decode cX7_count 108 = .ok (.aload_n 0, 1) := by decide +kernel
theorem dX7_count_109 : decode cX7_count 109 = .ok (.getfield 287, 3) := by decide +kernel
theorem dX7_count_112 : decode cX7_count 112 = .ok (.ireturn, 1) := by decide +kernel
theorem dX7_count_113 : decode cX7_count 113 = .ok (.aload_n 0, 1) := by decide +kernel
theorem dX7_count_114 : decode cX7_count 114 = .ok (.getfield 62, 3) := by decide +kernel
theorem dX7_count_117 : decode cX7_count 117 = .ok (.bipush (-9), 2) := by decide +kernel
theorem dX7_count_119 : decode cX7_count 119 = .ok (.if_icmp .ne 7, 3) := by decide +kernel
theorem dX7_count_122 : decode cX7_count 122 = .ok (.iconst 0, 1) := by decide +kernel
theorem dX7_count_123 : decode cX7_count 123 = .ok (.goto 7, 3) := by decide +kernel
theorem dX7_count_126 : decode cX7_count 126 = .ok (.aload_n 0, 1) := by decide +kernel
theorem dX7_count_127 : decode cX7_count 127 = .ok (.getfield 303, 3) := by decide +kernel
theorem dX7_count_130 : decode cX7_count 130 = .ok (.ireturn, 1) := by decide +kernel
theorem dX7_count_131 : decode cX7_count 131 = .ok (.iconst (-1), 1) := by decide +kernel
theorem dX7_count_132 : decode cX7_count 132 = .ok (.ireturn, 1) := by decide +kernel
set_option maxRecDepth 20000 in
theorem ggX7_about_X7_isProblem : GoodIn wsX7_about wsX7_isProblem := goodIn_g _ [(14, 4), (13, 1), (18, 1), (28, 79)] rfl (by decide +kernel)
set_option maxRecDepth 20000 in
theorem gX7_about_X7_isProblem : GoodIn wsX7_about (wsV RX7 214 RX7 yX7_isProblem wsX7_isProblem) := goodIn_app (goodIn_of _ (by decide +kernel)) ggX7_about_X7_isProblem
set_option maxRecDepth 20000 in
theorem ggX7_about_X7_in : GoodIn wsX7_about wsX7_in := goodIn_g _ [(18, 1)] rfl (by decide +kernel)
set_option maxRecDepth 20000 in
theorem gX7_about_X7_in : GoodIn wsX7_about (va_wsS RX7 207 yX7_in wsX7_in) := goodIn_app (goodIn_of _ (by decide +kernel)) ggX7_about_X7_in
set_option maxRecDepth 20000 in
theorem ggX7_about_X7_no : GoodIn wsX7_about wsX7_no := goodIn_g _ [(22, 1), (2, 1), (23, 1), (28, 79)] rfl (by decide +kernel)
set_option maxRecDepth 20000 in
theorem gX7_about_X7_no : GoodIn wsX7_about (wsV RX7 230 RX7 yX7_no wsX7_no) := goodIn_app (goodIn_of _ (by decide +kernel)) ggX7_about_X7_no
set_option maxRecDepth 20000 in
theorem ggX7_about_X7_isRule : GoodIn wsX7_about wsX7_isRule := goodIn_g _ [(27, 1), (4, 1), (10, 9), (28, 79)] rfl (by decide +kernel)
set_option maxRecDepth 20000 in
theorem gX7_about_X7_isRule : GoodIn wsX7_about (wsV RX7 235 RX7 yX7_isRule wsX7_isRule) := goodIn_app (goodIn_of _ (by decide +kernel)) ggX7_about_X7_isRule
theorem dX7_about_0 : decode cX7_about 0 = .ok (.aload_n 0, 1) := by decide +kernel
theorem dX7_about_1 : decode cX7_about 1 = .ok (.iconst 0, 1) := by decide +kernel
theorem dX7_about_2 : decode cX7_about 2 = .ok (.putfield 201, 3) := by decide +kernel
theorem dX7_about_5 : decode cX7_about 5 = .ok (.aload_n 0, 1) := by decide +kernel
theorem dX7_about_6 : decode cX7_about 6 = .ok (.iconst 0, 1) := by decide +kernel
theorem dX7_about_7 : decode cX7_about 7 = .ok (.putfield 221, 3) := by decide +kernel
theorem dX7_about_10 : decode cX7_about 10 = .ok (.aload_n 0, 1) := by decide +kernel
theorem dX7_about_11 : decode cX7_about 11 = .ok (.iload_n 1, 1) := by decide +kernel
theorem dX7_about_12 : decode cX7_about 12 = .ok (.invokevirtual 214, 3) := by decide +kernel
theorem dX7_about_15 : decode cX7_about 15 = .ok (.ifCond .eq 13, 3) := by decide +kernel
theorem dX7_about_18 : decode cX7_about 18 = .ok (.iload_n 2, 1) := by decide +kernel
theorem dX7_about_19 : decode cX7_about 19 = .ok (.iconst 0, 1) := by decide +kernel
theorem dX7_about_20 : decode cX7_about 20 = .ok (.bipush 6, 2) := by decide +kernel
theorem dX7_about_22 : decode cX7_about 22 = .ok (.invokestatic 207, 3) := by decide +kernel
theorem dX7_about_25 : decode cX7_about 25 = .ok (.ifCond .ne 9, 3) := by decide +kernel
theorem dX7_about_28 : decode cX7_about 28 = .ok (.aload_n 0, 1) := by decide +kernel
theorem dX7_about_29 : decode cX7_about 29 = .ok (.iconst (-1), 1) := by decide +kernel
theorem dX7_about_30 : decode cX7_about 30 = .ok (.invokevirtual 230, 3) := by decide +kernel
theorem dX7_about_33 : decode cX7_about 33 = .ok (.ireturn, 1) := by decide +kernel
theorem dX7_about_34 : decode cX7_about 34 = .ok (.iload_n 2, 1) := by decide +kernel
theorem dX7_about_35 : decode cX7_about 35 = .ok (.ifCond .ne 10, 3) := by decide +kernel
theorem dX7_about_38 : decode cX7_about 38 = .ok (.aload_n 0, 1) := by decide +kernel
theorem dX7_about_39 : decode cX7_about 39 = .ok (.getfield 7, 3) := by decide +kernel
theorem dX7_about_42 : decode cX7_about 42 = .ok (.iload_n 1, 1) := by decide +kernel
theorem dX7_about_43 : decode cX7_about 43 = .ok (.iaload, 1) := by decide +kernel
theorem dX7_about_44 : decode cX7_about 44 = .ok (.ireturn, 1) := by decide +kernel
theorem dX7_about_45 : decode cX7_about 45 = .ok (.iload_n 2, 1) := by decide +kernel
theorem dX7_about_46 : decode cX7_about 46 = .ok (.iconst 1, 1) := by decide +kernel
theorem dX7_about_47 : decode cX7_about 47 = .ok (.if_icmp .ne 10, 3) := by decide +kernel
theorem dX7_about_50 : decode cX7_about 50 = .ok (.aload_n 0, 1) := by decide +kernel
theorem dX7_about_51 : decode cX7_about 51 = .ok (.getfield 13, 3) := by decide +kernel
theorem dX7_about_54 : decode cX7_about 54 = .ok (.iload_n 1, 1) := by decide +kernel
theorem dX7_about_55 : decode cX7_about 55 = .ok (.iaload, 1) := by decide +kernel
theorem dX7_about_56 : decode cX7_about 56 = .ok (.ireturn, 1) := by decide +kernel
theorem dX7_about_57 : decode cX7_about 57 = .ok (.iload_n 2, 1) := by decide +kernel
theorem dX7_about_58 : decode cX7_about 58 = .ok (.iconst 5, 1) := by decide +kernel
theorem dX7_about_59 : decode cX7_about 59 = .ok (.if_icmp .ge 70, 3) := by decide +kernel
theorem dX7_about_62 : decode cX7_about 62 = .ok (.aload_n 0, 1) := by decide +kernel
theorem dX7_about_63 : decode cX7_about 63 = .ok (.iload_n 1, 1) := by decide +kernel
theorem dX7_about_64 : decode cX7_about 64 = .ok (.iload_n 3, 1) := by decide +kernel
theorem dX7_about_65 : decode cX7_about 65 = .ok (.invokevirtual 235, 3) := by decide +kernel
theorem dX7_about_68 : decode cX7_about 68 = .ok (.ifCond .ne 11, 3) := by decide +kernel
theorem dX7_about_71 : decode cX7_about 71 = .ok (.aload_n 0, 1) := by decide +kernel
theorem dX7_about_72 : decode cX7_about 72 = .ok (.iconst (-1), 1) := by decide +kernel
theorem dX7_about_73 : decode cX7_about 73 = .ok (.invokevirtual 230, 3) := by decide +kernel
theorem dX7_about_76 : decode cX7_about 76 = .ok (.goto 52, 3) := by decide +kernel
theorem dX7_about_79 : decode cX7_about 79 = .ok (.iload_n 2, 1) := by decide +kernel
theorem dX7_about_80 : decode cX7_about 80 = .ok (.iconst 2, 1) := by decide +kernel
theorem dX7_about_81 : decode cX7_about 81 = .ok (.if_icmp .ne 17, 3) := by decide +kernel
theorem dX7_about_84 : decode cX7_about 84 = .ok (.aload_n 0, 1) := by decide +kernel
theorem dX7_about_85 : decode cX7_about 85 = .ok (.getfield 25, 3) := by decide +kernel
theorem dX7_about_88 : decode cX7_about 88 = .ok (.bipush 8, 2) := by decide +kernel
theorem dX7_about_90 : decode cX7_about 90 = .ok (.iload_n 1, 1) := by decide +kernel
theorem dX7_about_91 : decode cX7_about 91 = .ok (.imul, 1) := by decide +kernel
theorem dX7_about_92 : decode cX7_about 92 = .ok (.iload_n 3, 1) := by decide +kernel
theorem dX7_about_93 : decode cX7_about 93 = .ok (.iadd, 1) := by decide +kernel
theorem dX7_about_94 : decode cX7_about 94 = .ok (.iaload, 1) := by decide +kernel
theorem dX7_about_95 : decode cX7_about 95 = .ok (.goto 33, 3) := by decide +kernel
theorem dX7_about_98 : decode cX7_about 98 = .ok (.iload_n 2, 1) := by decide +kernel
theorem dX7_about_99 : decode cX7_about 99 = .ok (.iconst 3, 1) := by decide +kernel
theorem dX7_about_100 : decode cX7_about 100 = .ok (.if_icmp .ne 17, 3) := by decide +kernel
theorem dX7_about_103 : decode cX7_about 103 = .ok (.aload_n 0, 1) := by decide +kernel
theorem dX7_about_104 : decode cX7_about 104 = .ok (.getfield 28, 3) := by decide +kernel
theorem dX7_about_107 : decode cX7_about 107 = .ok (.bipush 8, 2) := by decide +kernel
theorem dX7_about_109 : decode cX7_about 109 = .ok (.iload_n 1, 1) := by decide +kernel
theorem dX7_about_110 : decode cX7_about 110 = .ok (.imul, 1) := by decide +kernel
theorem dX7_about_111 : decode cX7_about 111 = .ok (.iload_n 3, 1) := by decide +kernel
theorem dX7_about_112 : decode cX7_about 112 = .ok (.iadd, 1) := by decide +kernel
theorem dX7_about_113 : decode cX7_about 113 = .ok (.iaload, 1) := by decide +kernel
theorem dX7_about_114 : decode cX7_about 114 = .ok (.goto 14, 3) := by decide +kernel
theorem dX7_about_117 : decode cX7_about 117 = .ok (.aload_n 0, 1) := by decide +kernel
theorem dX7_about_118 : decode cX7_about 118 = .ok (.getfield 31, 3) := by decide +kernel
theorem dX7_about_121 : decode cX7_about 121 = .ok (.bipush 8, 2) := by decide +kernel
theorem dX7_about_123 : decode cX7_about 123 = .ok (.iload_n 1, 1) := by decide +kernel
theorem dX7_about_124 : decode cX7_about 124 = .ok (.imul, 1) := by decide +kernel
theorem dX7_about_125 : decode cX7_about 125 = .ok (.iload_n 3, 1) := by decide +kernel
theorem dX7_about_126 : decode cX7_about 126 = .ok (.iadd, 1) := by decide +kernel
theorem dX7_about_127 : decode cX7_about 127 = .ok (.iaload, 1) := by decide +kernel
theorem dX7_about_128 : decode cX7_about 128 = .ok (.ireturn, 1) := by decide +kernel
theorem dX7_about_129 : decode cX7_about 129 = .ok (.iload_n 3, 1) := by decide +kernel
theorem dX7_about_130 : decode cX7_about 130 = .ok (.iconst 0, 1) := by decide +kernel
theorem dX7_about_131 : decode cX7_about 131 = .ok (.aload_n 0, 1) := by decide +kernel
theorem dX7_about_132 : decode cX7_about 132 = .ok (.getfield 7, 3) := by decide +kernel
theorem dX7_about_135 : decode cX7_about 135 = .ok (.iload_n 1, 1) := by decide +kernel
theorem dX7_about_136 : decode cX7_about 136 = .ok (.iaload, 1) := by decide +kernel
theorem dX7_about_137 : decode cX7_about 137 = .ok (.iconst 1, 1) := by decide +kernel
theorem dX7_about_138 : decode cX7_about 138 = .ok (.isub, 1) := by decide +kernel
theorem dX7_about_139 : decode cX7_about 139 = .ok (.invokestatic 207, 3) := by decide +kernel
theorem dX7_about_142 : decode cX7_about 142 = .ok (.ifCond .ne 11, 3) := by decide +kernel
theorem dX7_about_145 : decode cX7_about 145 = .ok (.aload_n 0, 1) := by decide +kernel
theorem dX7_about_146 : decode cX7_about 146 = .ok (.iconst (-1), 1) := by decide +kernel
theorem dX7_about_147 : decode cX7_about 147 = .ok (.invokevirtual 230, 3) := by decide +kernel
theorem dX7_about_150 : decode cX7_about 150 = .ok (.goto 33, 3) := by decide +kernel
theorem dX7_about_153 : decode cX7_about 153 = .ok (.iload_n 2, 1) := by decide +kernel
theorem dX7_about_154 : decode cX7_about 154 = .ok (.iconst 5, 1) := by decide +kernel
theorem dX7_about_155 : decode cX7_about 155 = .ok (.if_icmp .ne 17, 3) := by decide +kernel
theorem dX7_about_158 : decode cX7_about 158 = .ok (.aload_n 0, 1) := by decide +kernel
theorem dX7_about_159 : decode cX7_about 159 = .ok (.getfield 16, 3) := by decide +kernel
theorem dX7_about_162 : decode cX7_about 162 = .ok (.bipush 6, 2) := by decide +kernel
theorem dX7_about_164 : decode cX7_about 164 = .ok (.iload_n 1, 1) := by decide +kernel
theorem dX7_about_165 : decode cX7_about 165 = .ok (.imul, 1) := by decide +kernel
theorem dX7_about_166 : decode cX7_about 166 = .ok (.iload_n 3, 1) := by decide +kernel
theorem dX7_about_167 : decode cX7_about 167 = .ok (.iadd, 1) := by decide +kernel
theorem dX7_about_168 : decode cX7_about 168 = .ok (.iaload, 1) := by decide +kernel
theorem dX7_about_169 : decode cX7_about 169 = .ok (.goto 14, 3) := by decide +kernel
theorem dX7_about_172 : decode cX7_about 172 = .ok (.aload_n 0, 1) := by decide +kernel
theorem dX7_about_173 : decode cX7_about 173 = .ok (.getfield 19, 3) := by decide +kernel
theorem dX7_about_176 : decode cX7_about 176 = .ok (.bipush 6, 2) := by decide +kernel
theorem dX7_about_178 : decode cX7_about 178 = .ok (.iload_n 1, 1) := by decide +kernel
theorem dX7_about_179 : decode cX7_about 179 = .ok (.imul, 1) := by decide +kernel
theorem dX7_about_180 : decode cX7_about 180 = .ok (.iload_n 3, 1) := by decide +kernel
theorem dX7_about_181 : decode cX7_about 181 = .ok (.iadd, 1) := by decide +kernel
theorem dX7_about_182 : decode cX7_about 182 = .ok (.iaload, 1) := by decide +kernel
theorem dX7_about_183 : decode cX7_about 183 = .ok (.ireturn, 1) := by decide +kernel
set_option maxRecDepth 20000 in
theorem ggX7_costs_X7_isValue : GoodIn wsX7_costs wsX7_isValue := goodIn_g _ [(7, 6), (6, 1), (13, 5), (28, 79)] rfl (by decide +kernel)
set_option maxRecDepth 20000 in
theorem gX7_costs_X7_isValue : GoodIn wsX7_costs (wsV RX7 225 RX7 yX7_isValue wsX7_isValue) := goodIn_app (goodIn_of _ (by decide +kernel)) ggX7_costs_X7_isValue
set_option maxRecDepth 20000 in
theorem ggX7_costs_X7_costAt : GoodIn wsX7_costs wsX7_costAt := goodIn_g _ [(21, 2), (28, 79)] rfl (by decide +kernel)
set_option maxRecDepth 20000 in
theorem gX7_costs_X7_costAt : GoodIn wsX7_costs (wsV RX7 269 RX7 yX7_costAt wsX7_costAt) := goodIn_app (goodIn_of _ (by decide +kernel)) ggX7_costs_X7_costAt
set_option maxRecDepth 20000 in
theorem ggX7_costs_X7_no : GoodIn wsX7_costs wsX7_no := goodIn_g _ [(26, 1), (2, 1), (27, 80)] rfl (by decide +kernel)
set_option maxRecDepth 20000 in
theorem gX7_costs_X7_no : GoodIn wsX7_costs (wsV RX7 230 RX7 yX7_no wsX7_no) := goodIn_app (goodIn_of _ (by decide +kernel)) ggX7_costs_X7_no
theorem dX7_costs_0 : decode cX7_costs 0 = .ok (.aload_n 0, 1) := by decide +kernel
theorem dX7_costs_1 : decode cX7_costs 1 = .ok (.iconst 0, 1) := by decide +kernel
theorem dX7_costs_2 : decode cX7_costs 2 = .ok (.putfield 201, 3) := by decide +kernel
theorem dX7_costs_5 : decode cX7_costs 5 = .ok (.aload_n 0, 1) := by decide +kernel
theorem dX7_costs_6 : decode cX7_costs 6 = .ok (.iconst 0, 1) := by decide +kernel
theorem dX7_costs_7 : decode cX7_costs 7 = .ok (.putfield 221, 3) := by decide +kernel
theorem dX7_costs_10 : decode cX7_costs 10 = .ok (.aload_n 0, 1) := by decide +kernel
theorem dX7_costs_11 : decode cX7_costs 11 = .ok (.iload_n 1, 1) := by decide +kernel
theorem dX7_costs_12 : decode cX7_costs 12 = .ok (.iload_n 2, 1) := by decide +kernel
theorem dX7_costs_13 : decode cX7_costs 13 = .ok (.iload_n 3, 1) := by decide +kernel
theorem dX7_costs_14 : decode cX7_costs 14 = .ok (.invokevirtual 225, 3) := by decide +kernel
theorem dX7_costs_17 : decode cX7_costs 17 = .ok (.ifCond .eq 13, 3) := by decide +kernel
theorem dX7_costs_20 : decode cX7_costs 20 = .ok (.aload_n 0, 1) := by decide +kernel
theorem dX7_costs_21 : decode cX7_costs 21 = .ok (.iload_n 1, 1) := by decide +kernel
theorem dX7_costs_22 : decode cX7_costs 22 = .ok (.iload_n 2, 1) := by decide +kernel
theorem dX7_costs_23 : decode cX7_costs 23 = .ok (.iload_n 3, 1) := by decide +kernel
theorem dX7_costs_24 : decode cX7_costs 24 = .ok (.invokevirtual 269, 3) := by decide +kernel
theorem dX7_costs_27 : decode cX7_costs 27 = .ok (.goto 8, 3) := by decide +kernel
theorem dX7_costs_30 : decode cX7_costs 30 = .ok (.aload_n 0, 1) := by decide +kernel
theorem dX7_costs_31 : decode cX7_costs 31 = .ok (.iconst (-1), 1) := by decide +kernel
theorem dX7_costs_32 : decode cX7_costs 32 = .ok (.invokevirtual 230, 3) := by decide +kernel
theorem dX7_costs_35 : decode cX7_costs 35 = .ok (.ireturn, 1) := by decide +kernel
theorem dX7_status_0 : decode cX7_status 0 = .ok (.aload_n 0, 1) := by decide +kernel
theorem dX7_status_1 : decode cX7_status 1 = .ok (.iconst 0, 1) := by decide +kernel
theorem dX7_status_2 : decode cX7_status 2 = .ok (.putfield 201, 3) := by decide +kernel
theorem dX7_status_5 : decode cX7_status 5 = .ok (.aload_n 0, 1) := by decide +kernel
theorem dX7_status_6 : decode cX7_status 6 = .ok (.getfield 221, 3) := by decide +kernel
theorem dX7_status_9 : decode cX7_status 9 = .ok (.ireturn, 1) := by decide +kernel
