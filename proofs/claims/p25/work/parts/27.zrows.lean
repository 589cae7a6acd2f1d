set_option maxRecDepth 20000 in
theorem ggX5_take_X5_widthBelow : GoodIn wsX5_take wsX5_widthBelow := goodIn_g _ [(10, 1), (5, 1), (11, 28)] rfl (by decide +kernel)
set_option maxRecDepth 20000 in
theorem gX5_take_X5_widthBelow : GoodIn wsX5_take (wsV RX5 117 RX5 yX5_widthBelow wsX5_widthBelow) := goodIn_app (goodIn_of _ (by decide +kernel)) ggX5_take_X5_widthBelow
theorem dX5_take_0 : decode cX5_take 0 = .ok (.aload_n 0, 1) := by decide +kernel
theorem dX5_take_1 : decode cX5_take 1 = .ok (.getfield 22, 3) := by decide +kernel
theorem dX5_take_4 : decode cX5_take 4 = .ok (.sipush 250, 3) := by decide +kernel
theorem dX5_take_7 : decode cX5_take 7 = .ok (.if_icmp .lt 4, 3) := by decide +kernel
theorem dX5_take_11 : decode cX5_take 11 = .ok (.aload_n 0, 1) := by decide +kernel
theorem dX5_take_12 : decode cX5_take 12 = .ok (.getfield 63, 3) := by decide +kernel
theorem dX5_take_15 : decode cX5_take 15 = .ok (.iload_n 1, 1) := by decide +kernel
theorem dX5_take_16 : decode cX5_take 16 = .ok (.iconst 3, 1) := by decide +kernel
theorem dX5_take_17 : decode cX5_take 17 = .ok (.bastore, 1) := by decide +kernel
theorem dX5_take_18 : decode cX5_take 18 = .ok (.aload_n 0, 1) := by decide +kernel
theorem dX5_take_19 : decode cX5_take 19 = .ok (.getfield 11, 3) := by decide +kernel
theorem dX5_take_22 : decode cX5_take 22 = .ok (.aload_n 0, 1) := by decide +kernel
theorem dX5_take_23 : decode cX5_take 23 = .ok (.getfield 22, 3) := by decide +kernel
theorem dX5_take_26 : decode cX5_take 26 = .ok (.iload_n 1, 1) := by decide +kernel
theorem dX5_take_27 : decode cX5_take 27 = .ok (.iastore, 1) := by decide +kernel
theorem dX5_take_28 : decode cX5_take 28 = .ok (.aload_n 0, 1) := by decide +kernel
theorem dX5_take_29 : decode cX5_take 29 = .ok (.dup, 1) := by decide +kernel
theorem dX5_take_30 : decode cX5_take 30 = .ok (.getfield 22, 3) := by decide +kernel
theorem dX5_take_33 : decode cX5_take 33 = .ok (.iconst 1, 1) := by decide +kernel
theorem dX5_take_34 : decode cX5_take 34 = .ok (.iadd, 1) := by decide +kernel
theorem dX5_take_35 : decode cX5_take 35 = .ok (.putfield 22, 3) := by decide +kernel
theorem dX5_take_38 : decode cX5_take 38 = .ok (.aload_n 0, 1) := by decide +kernel
theorem dX5_take_39 : decode cX5_take 39 = .ok (.iload_n 1, 1) := by decide +kernel
theorem dX5_take_40 : decode cX5_take 40 = .ok (.invokevirtual 117, 3) := by decide +kernel
theorem dX5_take_43 : decode cX5_take 43 = .ok (.istore_n 2, 1) := by decide +kernel
theorem dX5_take_44 : decode cX5_take 44 = .ok (.iconst 0, 1) := by decide +kernel
theorem dX5_take_45 : decode cX5_take 45 = .ok (.istore_n 3, 1) := by decide +kernel
theorem dX5_take_46 : decode cX5_take 46 = .ok (.iload_n 3, 1) := by decide +kernel
theorem dX5_take_47 : decode cX5_take 47 = .ok (.iload_n 2, 1) := by decide +kernel
theorem dX5_take_48 : decode cX5_take 48 = .ok (.if_icmp .ge 23, 3) := by decide +kernel
theorem dX5_take_51 : decode cX5_take 51 = .ok (.aload_n 0, 1) := by decide +kernel
theorem dX5_take_52 : decode cX5_take 52 = .ok (.getfield 73, 3) := by decide +kernel
theorem dX5_take_55 : decode cX5_take 55 = .ok (.aload_n 0, 1) := by decide +kernel
theorem dX5_take_56 : decode cX5_take 56 = .ok (.getfield 69, 3) := by decide +kernel
theorem dX5_take_59 : decode cX5_take 59 = .ok (.iload_n 1, 1) := by decide +kernel
theorem dX5_take_60 : decode cX5_take 60 = .ok (.saload, 1) := by decide +kernel
theorem dX5_take_61 : decode cX5_take 61 = .ok (.iload_n 3, 1) := by decide +kernel
theorem dX5_take_62 : decode cX5_take 62 = .ok (.iadd, 1) := by decide +kernel
theorem dX5_take_63 : decode cX5_take 63 = .ok (.iconst 1, 1) := by decide +kernel
theorem dX5_take_64 : decode cX5_take 64 = .ok (.bastore, 1) := by decide +kernel
theorem dX5_take_65 : decode cX5_take 65 = .ok (.iinc 3 1, 3) := by decide +kernel
theorem dX5_take_68 : decode cX5_take 68 = .ok (.goto (-22), 3) := by decide +kernel
theorem dX5_take_71 : decode cX5_take 71 = .ok (.return_, 1) := by decide +kernel
set_option maxRecDepth 20000 in
theorem ggX5_openBelow_X5_widthBelow : GoodIn wsX5_openBelow wsX5_widthBelow := goodIn_g _ [(7, 1), (2, 1), (8, 28)] rfl (by decide +kernel)
set_option maxRecDepth 20000 in
theorem gX5_openBelow_X5_widthBelow : GoodIn wsX5_openBelow (wsV RX5 117 RX5 yX5_widthBelow wsX5_widthBelow) := goodIn_app (goodIn_of _ (by decide +kernel)) ggX5_openBelow_X5_widthBelow
theorem dX5_openBelow_0 : decode cX5_openBelow 0 = .ok (.iconst 0, 1) := by decide +kernel
theorem dX5_openBelow_1 : decode cX5_openBelow 1 = .ok (.istore_n 2, 1) := by decide +kernel
theorem dX5_openBelow_2 : decode cX5_openBelow 2 = .ok (.aload_n 0, 1) := by decide +kernel
theorem dX5_openBelow_3 : decode cX5_openBelow 3 = .ok (.iload_n 1, 1) := by decide +kernel
theorem dX5_openBelow_4 : decode cX5_openBelow 4 = .ok (.invokevirtual 117, 3) := by decide +kernel
theorem dX5_openBelow_7 : decode cX5_openBelow 7 = .ok (.istore_n 3, 1) := by decide +kernel
theorem dX5_openBelow_8 : decode cX5_openBelow 8 = .ok (.iconst 0, 1) := by decide +kernel
theorem dX5_openBelow_9 : decode cX5_openBelow 9 = .ok (.istore 4, 2) := by decide +kernel
theorem dX5_openBelow_11 : decode cX5_openBelow 11 = .ok (.iload 4, 2) := by decide +kernel
theorem dX5_openBelow_13 : decode cX5_openBelow 13 = .ok (.iload_n 3, 1) := by decide +kernel
theorem dX5_openBelow_14 : decode cX5_openBelow 14 = .ok (.if_icmp .ge 29, 3) := by decide +kernel
theorem dX5_openBelow_17 : decode cX5_openBelow 17 = .ok (.aload_n 0, 1) := by decide +kernel
theorem dX5_openBelow_18 : decode cX5_openBelow 18 = .ok (.getfield 57, 3) := by decide +kernel
theorem dX5_openBelow_21 : decode cX5_openBelow 21 = .ok (.aload_n 0, 1) := by decide +kernel
theorem dX5_openBelow_22 : decode cX5_openBelow 22 = .ok (.getfield 69, 3) := by decide +kernel
theorem dX5_openBelow_25 : decode cX5_openBelow 25 = .ok (.iload_n 1, 1) := by decide +kernel
theorem dX5_openBelow_26 : decode cX5_openBelow 26 = .ok (.saload, 1) := by decide +kernel
theorem dX5_openBelow_27 : decode cX5_openBelow 27 = .ok (.iload 4, 2) := by decide +kernel
theorem dX5_openBelow_29 : decode cX5_openBelow 29 = .ok (.iadd, 1) := by decide +kernel
theorem dX5_openBelow_30 : decode cX5_openBelow 30 = .ok (.baload, 1) := by decide +kernel
theorem dX5_openBelow_31 : decode cX5_openBelow 31 = .ok (.ifCond .ne 6, 3) := by decide +kernel
theorem dX5_openBelow_34 : decode cX5_openBelow 34 = .ok (.iinc 2 1, 3) := by decide +kernel
theorem dX5_openBelow_37 : decode cX5_openBelow 37 = .ok (.iinc 4 1, 3) := by decide +kernel
theorem dX5_openBelow_40 : decode cX5_openBelow 40 = .ok (.goto (-29), 3) := by decide +kernel
theorem dX5_openBelow_43 : decode cX5_openBelow 43 = .ok (.iload_n 2, 1) := by decide +kernel
theorem dX5_openBelow_44 : decode cX5_openBelow 44 = .ok (.ireturn, 1) := by decide +kernel
