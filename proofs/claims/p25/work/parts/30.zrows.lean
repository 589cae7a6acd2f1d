set_option maxRecDepth 20000 in
theorem ggX3_pick_X5_nextFree : GoodIn wsX3_pick wsX5_nextFree := goodIn_g _ [(13, 5), (24, 16)] rfl (by decide +kernel)
set_option maxRecDepth 20000 in
theorem gX3_pick_X5_nextFree : GoodIn wsX3_pick (wsV RX3 84 RX5 yX5_nextFree wsX5_nextFree) := goodIn_app (goodIn_of _ (by decide +kernel)) ggX3_pick_X5_nextFree
theorem dX3_pick_0 : decode cX3_pick 0 = .ok (.aload_n 0, 1) := by decide +kernel
theorem dX3_pick_1 : decode cX3_pick 1 = .ok (.getfield 30, 3) := by decide +kernel
theorem dX3_pick_4 : decode cX3_pick 4 = .ok (.getfield 79, 3) := by decide +kernel
theorem dX3_pick_7 : decode cX3_pick 7 = .ok (.aload_n 0, 1) := by decide +kernel
theorem dX3_pick_8 : decode cX3_pick 8 = .ok (.getfield 30, 3) := by decide +kernel
theorem dX3_pick_11 : decode cX3_pick 11 = .ok (.getfield 81, 3) := by decide +kernel
theorem dX3_pick_14 : decode cX3_pick 14 = .ok (.isub, 1) := by decide +kernel
theorem dX3_pick_15 : decode cX3_pick 15 = .ok (.bipush 30, 2) := by decide +kernel
theorem dX3_pick_17 : decode cX3_pick 17 = .ok (.if_icmp .lt 7, 3) := by decide +kernel
theorem dX3_pick_20 : decode cX3_pick 20 = .ok (.iconst 1, 1) := by decide +kernel
theorem dX3_pick_21 : decode cX3_pick 21 = .ok (.goto 4, 3) := by decide +kernel
theorem dX3_pick_24 : decode cX3_pick 24 = .ok (.iconst 0, 1) := by decide +kernel
theorem dX3_pick_25 : decode cX3_pick 25 = .ok (.istore_n 2, 1) := by decide +kernel
theorem dX3_pick_26 : decode cX3_pick 26 = .ok (.iload_n 2, 1) := by decide +kernel
theorem dX3_pick_27 : decode cX3_pick 27 = .ok (.ifCond .eq 7, 3) := by decide +kernel
theorem dX3_pick_30 : decode cX3_pick 30 = .ok (.iconst (-1), 1) := by decide +kernel
theorem dX3_pick_31 : decode cX3_pick 31 = .ok (.goto 10, 3) := by decide +kernel
theorem dX3_pick_34 : decode cX3_pick 34 = .ok (.aload_n 0, 1) := by decide +kernel
theorem dX3_pick_35 : decode cX3_pick 35 = .ok (.getfield 30, 3) := by decide +kernel
theorem dX3_pick_38 : decode cX3_pick 38 = .ok (.invokevirtual 84, 3) := by decide +kernel
theorem dX3_pick_41 : decode cX3_pick 41 = .ok (.istore_n 3, 1) := by decide +kernel
theorem dX3_pick_42 : decode cX3_pick 42 = .ok (.iload_n 3, 1) := by decide +kernel
theorem dX3_pick_43 : decode cX3_pick 43 = .ok (.iconst (-1), 1) := by decide +kernel
theorem dX3_pick_44 : decode cX3_pick 44 = .ok (.if_icmp .ne 17, 3) := by decide +kernel
theorem dX3_pick_47 : decode cX3_pick 47 = .ok (.aload_n 0, 1) := by decide +kernel
theorem dX3_pick_48 : decode cX3_pick 48 = .ok (.getfield 34, 3) := by decide +kernel
theorem dX3_pick_51 : decode cX3_pick 51 = .ok (.getfield 87, 3) := by decide +kernel
theorem dX3_pick_54 : decode cX3_pick 54 = .ok (.iload_n 1, 1) := by decide +kernel
theorem dX3_pick_55 : decode cX3_pick 55 = .ok (.dup2, 1) := by decide +kernel
theorem dX3_pick_56 : decode cX3_pick 56 = .ok (.iaload, 1) := by decide +kernel
theorem dX3_pick_57 : decode cX3_pick 57 = .ok (.iconst 1, 1) := by decide +kernel
theorem dX3_pick_58 : decode cX3_pick 58 = .ok (.iadd, 1) := by decide +kernel
theorem dX3_pick_59 : decode cX3_pick 59 = .ok (.iastore, 1) := by decide +kernel
theorem dX3_pick_60 : decode cX3_pick 60 = .ok (.return_, 1) := by decide +kernel
theorem dX3_pick_61 : decode cX3_pick 61 = .ok (.aload_n 0, 1) := by decide +kernel
theorem dX3_pick_62 : decode cX3_pick 62 = .ok (.getfield 30, 3) := by decide +kernel
theorem dX3_pick_65 : decode cX3_pick 65 = .ok (.getfield 90, 3) := by decide +kernel
theorem dX3_pick_68 : decode cX3_pick 68 = .ok (.iload_n 3, 1) := by decide +kernel
theorem dX3_pick_69 : decode cX3_pick 69 = .ok (.iconst 1, 1) := by decide +kernel
theorem dX3_pick_70 : decode cX3_pick 70 = .ok (.bastore, 1) := by decide +kernel
theorem dX3_pick_71 : decode cX3_pick 71 = .ok (.aload_n 0, 1) := by decide +kernel
theorem dX3_pick_72 : decode cX3_pick 72 = .ok (.getfield 18, 3) := by decide +kernel
theorem dX3_pick_75 : decode cX3_pick 75 = .ok (.iload_n 1, 1) := by decide +kernel
theorem dX3_pick_76 : decode cX3_pick 76 = .ok (.iload_n 3, 1) := by decide +kernel
theorem dX3_pick_77 : decode cX3_pick 77 = .ok (.iastore, 1) := by decide +kernel
theorem dX3_pick_78 : decode cX3_pick 78 = .ok (.aload_n 0, 1) := by decide +kernel
theorem dX3_pick_79 : decode cX3_pick 79 = .ok (.getfield 22, 3) := by decide +kernel
theorem dX3_pick_82 : decode cX3_pick 82 = .ok (.iload_n 1, 1) := by decide +kernel
theorem dX3_pick_83 : decode cX3_pick 83 = .ok (.dup2, 1) := by decide +kernel
theorem dX3_pick_84 : decode cX3_pick 84 = .ok (.iaload, 1) := by decide +kernel
theorem dX3_pick_85 : decode cX3_pick 85 = .ok (.iconst 1, 1) := by decide +kernel
theorem dX3_pick_86 : decode cX3_pick 86 = .ok (.iadd, 1) := by decide +kernel
theorem dX3_pick_87 : decode cX3_pick 87 = .ok (.iastore, 1) := by decide +kernel
theorem dX3_pick_88 : decode cX3_pick 88 = .ok (.return_, 1) := by decide +kernel
theorem dX3_replace_0 : decode cX3_replace 0 = .ok (.aload_n 0, 1) := by decide +kernel
theorem dX3_replace_1 : decode cX3_replace 1 = .ok (.getfield 30, 3) := by decide +kernel
theorem dX3_replace_4 : decode cX3_replace 4 = .ok (.getfield 90, 3) := by decide +kernel
theorem dX3_replace_7 : decode cX3_replace 7 = .ok (.aload_n 0, 1) := by decide +kernel
theorem dX3_replace_8 : decode cX3_replace 8 = .ok (.getfield 18, 3) := by decide +kernel
theorem dX3_replace_11 : decode cX3_replace 11 = .ok (.iload_n 1, 1) := by decide +kernel
theorem dX3_replace_12 : decode cX3_replace 12 = .ok (.iaload, 1) := by decide +kernel
theorem dX3_replace_13 : decode cX3_replace 13 = .ok (.iconst 0, 1) := by decide +kernel
theorem dX3_replace_14 : decode cX3_replace 14 = .ok (.bastore, 1) := by decide +kernel
theorem dX3_replace_15 : decode cX3_replace 15 = .ok (.aload_n 0, 1) := by decide +kernel
theorem dX3_replace_16 : decode cX3_replace 16 = .ok (.getfield 18, 3) := by decide +kernel
theorem dX3_replace_19 : decode cX3_replace 19 = .ok (.iload_n 1, 1) := by decide +kernel
theorem dX3_replace_20 : decode cX3_replace 20 = .ok (.iconst (-1), 1) := by decide +kernel
theorem dX3_replace_21 : decode cX3_replace 21 = .ok (.iastore, 1) := by decide +kernel
theorem dX3_replace_22 : decode cX3_replace 22 = .ok (.aload_n 0, 1) := by decide +kernel
theorem dX3_replace_23 : decode cX3_replace 23 = .ok (.getfield 34, 3) := by decide +kernel
theorem dX3_replace_26 : decode cX3_replace 26 = .ok (.getfield 93, 3) := by decide +kernel
theorem dX3_replace_29 : decode cX3_replace 29 = .ok (.iload_n 1, 1) := by decide +kernel
theorem dX3_replace_30 : decode cX3_replace 30 = .ok (.dup2, 1) := by decide +kernel
theorem dX3_replace_31 : decode cX3_replace 31 = .ok (.iaload, 1) := by decide +kernel
theorem dX3_replace_32 : decode cX3_replace 32 = .ok (.iconst 1, 1) := by decide +kernel
theorem dX3_replace_33 : decode cX3_replace 33 = .ok (.iadd, 1) := by decide +kernel
theorem dX3_replace_34 : decode cX3_replace 34 = .ok (.iastore, 1) := by decide +kernel
theorem dX3_replace_35 : decode cX3_replace 35 = .ok (.return_, 1) := by decide +kernel
