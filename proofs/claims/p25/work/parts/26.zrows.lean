set_option maxRecDepth 20000 in
theorem ggX5_copyValues_X5_valueOf : GoodIn wsX5_copyValues wsX5_valueOf := goodIn_g _ [(6, 5), (5, 1), (11, 17)] rfl (by decide +kernel)
set_option maxRecDepth 20000 in
theorem gX5_copyValues_X5_valueOf : GoodIn wsX5_copyValues (wsV RX5 125 RX5 yX5_valueOf wsX5_valueOf) := goodIn_app (goodIn_of _ (by decide +kernel)) ggX5_copyValues_X5_valueOf
theorem dX5_copyValues_0 : decode cX5_copyValues 0 = .ok (.iconst 0, 1) := by decide +kernel
theorem dX5_copyValues_1 : decode cX5_copyValues 1 = .ok (.istore 4, 2) := by decide +kernel
theorem dX5_copyValues_3 : decode cX5_copyValues 3 = .ok (.iload 4, 2) := by decide +kernel
theorem dX5_copyValues_5 : decode cX5_copyValues 5 = .ok (.aload_n 0, 1) := by decide +kernel
theorem dX5_copyValues_6 : decode cX5_copyValues 6 = .ok (.getfield 53, 3) := by decide +kernel
theorem dX5_copyValues_9 : decode cX5_copyValues 9 = .ok (.iload_n 1, 1) := by decide +kernel
theorem dX5_copyValues_10 : decode cX5_copyValues 10 = .ok (.baload, 1) := by decide +kernel
theorem dX5_copyValues_11 : decode cX5_copyValues 11 = .ok (.if_icmp .ge 31, 3) := by decide +kernel
theorem dX5_copyValues_14 : decode cX5_copyValues 14 = .ok (.iload_n 3, 1) := by decide +kernel
theorem dX5_copyValues_15 : decode cX5_copyValues 15 = .ok (.iload 4, 2) := by decide +kernel
theorem dX5_copyValues_17 : decode cX5_copyValues 17 = .ok (.iadd, 1) := by decide +kernel
theorem dX5_copyValues_18 : decode cX5_copyValues 18 = .ok (.aload_n 2, 1) := by decide +kernel
theorem dX5_copyValues_19 : decode cX5_copyValues 19 = .ok (.arraylength, 1) := by decide +kernel
theorem dX5_copyValues_20 : decode cX5_copyValues 20 = .ok (.if_icmp .ge 22, 3) := by decide +kernel
theorem dX5_copyValues_23 : decode cX5_copyValues 23 = .ok (.aload_n 2, 1) := by decide +kernel
theorem dX5_copyValues_24 : decode cX5_copyValues 24 = .ok (.iload_n 3, 1) := by decide +kernel
theorem dX5_copyValues_25 : decode cX5_copyValues 25 = .ok (.iload 4, 2) := by decide +kernel
theorem dX5_copyValues_27 : decode cX5_copyValues 27 = .ok (.iadd, 1) := by decide +kernel
theorem dX5_copyValues_28 : decode cX5_copyValues 28 = .ok (.aload_n 0, 1) := by decide +kernel
theorem dX5_copyValues_29 : decode cX5_copyValues 29 = .ok (.iload_n 1, 1) := by decide +kernel
theorem dX5_copyValues_30 : decode cX5_copyValues 30 = .ok (.iload 4, 2) := by decide +kernel
theorem dX5_copyValues_32 : decode cX5_copyValues 32 = .ok (.invokevirtual 125, 3) := by decide +kernel
theorem dX5_copyValues_35 : decode cX5_copyValues 35 = .ok (.iastore, 1) := by decide +kernel
theorem dX5_copyValues_36 : decode cX5_copyValues 36 = .ok (.iinc 4 1, 3) := by decide +kernel
theorem dX5_copyValues_39 : decode cX5_copyValues 39 = .ok (.goto (-36), 3) := by decide +kernel
theorem dX5_copyValues_42 : decode cX5_copyValues 42 = .ok (.return_, 1) := by decide +kernel
theorem dJ7_fill_53178_0 : decode cJ7_fill_53178 0 = .ok (.iconst 0, 1) := by decide +kernel
theorem dJ7_fill_53178_1 : decode cJ7_fill_53178 1 = .ok (.istore_n 2, 1) := by decide +kernel
theorem dJ7_fill_53178_2 : decode cJ7_fill_53178 2 = .ok (.aload_n 0, 1) := by decide +kernel
theorem dJ7_fill_53178_3 : decode cJ7_fill_53178 3 = .ok (.arraylength, 1) := by decide +kernel
theorem dJ7_fill_53178_4 : decode cJ7_fill_53178 4 = .ok (.istore_n 3, 1) := by decide +kernel
theorem dJ7_fill_53178_5 : decode cJ7_fill_53178 5 = .ok (.iload_n 2, 1) := by decide +kernel
theorem dJ7_fill_53178_6 : decode cJ7_fill_53178 6 = .ok (.iload_n 3, 1) := by decide +kernel
theorem dJ7_fill_53178_7 : decode cJ7_fill_53178 7 = .ok (.if_icmp .ge 13, 3) := by decide +kernel
theorem dJ7_fill_53178_10 : decode cJ7_fill_53178 10 = .ok (.aload_n 0, 1) := by decide +kernel
theorem dJ7_fill_53178_11 : decode cJ7_fill_53178 11 = .ok (.iload_n 2, 1) := by decide +kernel
theorem dJ7_fill_53178_12 : decode cJ7_fill_53178 12 = .ok (.iload_n 1, 1) := by decide +kernel
theorem dJ7_fill_53178_13 : decode cJ7_fill_53178 13 = .ok (.iastore, 1) := by decide +kernel
theorem dJ7_fill_53178_14 : decode cJ7_fill_53178 14 = .ok (.iinc 2 1, 3) := by decide +kernel
theorem dJ7_fill_53178_17 : decode cJ7_fill_53178 17 = .ok (.goto (-12), 3) := by decide +kernel
theorem dJ7_fill_53178_20 : decode cJ7_fill_53178 20 = .ok (.return_, 1) := by decide +kernel
