set_option maxRecDepth 20000 in
theorem ggX4_become_J7_fill_53178 : GoodIn wsX4_become wsJ7_fill_53178 := goodIn_g _ [(6, 1)] rfl (by decide +kernel)
set_option maxRecDepth 20000 in
theorem gX4_become_J7_fill_53178 : GoodIn wsX4_become (va_wsS RX4 34 yJ7_fill_53178 wsJ7_fill_53178) := goodIn_app (goodIn_of _ (by decide +kernel)) ggX4_become_J7_fill_53178
theorem dX4_become_0 : decode cX4_become 0 = .ok (.aload_n 0, 1) := by decide +kernel
theorem dX4_become_1 : decode cX4_become 1 = .ok (.iload_n 1, 1) := by decide +kernel
theorem dX4_become_2 : decode cX4_become 2 = .ok (.putfield 9, 3) := by decide +kernel
theorem dX4_become_5 : decode cX4_become 5 = .ok (.aload_n 0, 1) := by decide +kernel
theorem dX4_become_6 : decode cX4_become 6 = .ok (.getfield 18, 3) := by decide +kernel
theorem dX4_become_9 : decode cX4_become 9 = .ok (.iconst 0, 1) := by decide +kernel
theorem dX4_become_10 : decode cX4_become 10 = .ok (.invokestatic 34, 3) := by decide +kernel
theorem dX4_become_13 : decode cX4_become 13 = .ok (.return_, 1) := by decide +kernel
set_option maxRecDepth 20000 in
theorem ggX4_whoHasTurn_J9_floorMod_7cf53 : GoodIn wsX4_whoHasTurn wsJ9_floorMod_7cf53 := goodIn_g _ [(7, 1)] rfl (by decide +kernel)
set_option maxRecDepth 20000 in
theorem gX4_whoHasTurn_J9_floorMod_7cf53 : GoodIn wsX4_whoHasTurn (va_wsS RX4 40 yJ9_floorMod_7cf53 wsJ9_floorMod_7cf53) := goodIn_app (goodIn_of _ (by decide +kernel)) ggX4_whoHasTurn_J9_floorMod_7cf53
theorem dX4_whoHasTurn_0 : decode cX4_whoHasTurn 0 = .ok (.iload_n 1, 1) := by decide +kernel
theorem dX4_whoHasTurn_1 : decode cX4_whoHasTurn 1 = .ok (.ifCond .lt 35, 3) := by decide +kernel
theorem dX4_whoHasTurn_4 : decode cX4_whoHasTurn 4 = .ok (.iload_n 1, 1) := by decide +kernel
theorem dX4_whoHasTurn_5 : decode cX4_whoHasTurn 5 = .ok (.aload_n 0, 1) := by decide +kernel
theorem dX4_whoHasTurn_6 : decode cX4_whoHasTurn 6 = .ok (.getfield 15, 3) := by decide +kernel
theorem dX4_whoHasTurn_9 : decode cX4_whoHasTurn 9 = .ok (.if_icmp .ge 27, 3) := by decide +kernel
theorem dX4_whoHasTurn_12 : decode cX4_whoHasTurn 12 = .ok (.aload_n 0, 1) := by decide +kernel
theorem dX4_whoHasTurn_13 : decode cX4_whoHasTurn 13 = .ok (.getfield 22, 3) := by decide +kernel
theorem dX4_whoHasTurn_16 : decode cX4_whoHasTurn 16 = .ok (.iload_n 1, 1) := by decide +kernel
theorem dX4_whoHasTurn_17 : decode cX4_whoHasTurn 17 = .ok (.iaload, 1) := by decide +kernel
theorem dX4_whoHasTurn_18 : decode cX4_whoHasTurn 18 = .ok (.aload_n 0, 1) := by decide +kernel
theorem dX4_whoHasTurn_19 : decode cX4_whoHasTurn 19 = .ok (.getfield 9, 3) := by decide +kernel
theorem dX4_whoHasTurn_22 : decode cX4_whoHasTurn 22 = .ok (.if_icmp .ge 12, 3) := by decide +kernel
theorem dX4_whoHasTurn_25 : decode cX4_whoHasTurn 25 = .ok (.aload_n 0, 1) := by decide +kernel
theorem dX4_whoHasTurn_26 : decode cX4_whoHasTurn 26 = .ok (.getfield 22, 3) := by decide +kernel
theorem dX4_whoHasTurn_29 : decode cX4_whoHasTurn 29 = .ok (.iload_n 1, 1) := by decide +kernel
theorem dX4_whoHasTurn_30 : decode cX4_whoHasTurn 30 = .ok (.iaload, 1) := by decide +kernel
theorem dX4_whoHasTurn_31 : decode cX4_whoHasTurn 31 = .ok (.goto 4, 3) := by decide +kernel
theorem dX4_whoHasTurn_34 : decode cX4_whoHasTurn 34 = .ok (.iconst 0, 1) := by decide +kernel
theorem dX4_whoHasTurn_35 : decode cX4_whoHasTurn 35 = .ok (.ireturn, 1) := by decide +kernel
theorem dX4_whoHasTurn_36 : decode cX4_whoHasTurn 36 = .ok (.aload_n 0, 1) := by decide +kernel
theorem dX4_whoHasTurn_37 : decode cX4_whoHasTurn 37 = .ok (.getfield 9, 3) := by decide +kernel
theorem dX4_whoHasTurn_40 : decode cX4_whoHasTurn 40 = .ok (.iconst 1, 1) := by decide +kernel
theorem dX4_whoHasTurn_41 : decode cX4_whoHasTurn 41 = .ok (.if_icmp .le 19, 3) := by decide +kernel
theorem dX4_whoHasTurn_44 : decode cX4_whoHasTurn 44 = .ok (.iload_n 1, 1) := by decide +kernel
theorem dX4_whoHasTurn_45 : decode cX4_whoHasTurn 45 = .ok (.aload_n 0, 1) := by decide +kernel
theorem dX4_whoHasTurn_46 : decode cX4_whoHasTurn 46 = .ok (.getfield 15, 3) := by decide +kernel
theorem dX4_whoHasTurn_49 : decode cX4_whoHasTurn 49 = .ok (.isub, 1) := by decide +kernel
theorem dX4_whoHasTurn_50 : decode cX4_whoHasTurn 50 = .ok (.aload_n 0, 1) := by decide +kernel
theorem dX4_whoHasTurn_51 : decode cX4_whoHasTurn 51 = .ok (.getfield 9, 3) := by decide +kernel
theorem dX4_whoHasTurn_54 : decode cX4_whoHasTurn 54 = .ok (.invokestatic 40, 3) := by decide +kernel
theorem dX4_whoHasTurn_57 : decode cX4_whoHasTurn 57 = .ok (.goto 4, 3) := by decide +kernel
theorem dX4_whoHasTurn_60 : decode cX4_whoHasTurn 60 = .ok (.iconst 0, 1) := by decide +kernel
theorem dX4_whoHasTurn_61 : decode cX4_whoHasTurn 61 = .ok (.ireturn, 1) := by decide +kernel
theorem dJ9_floorMod_7cf53_0 : decode cJ9_floorMod_7cf53 0 = .ok (.iload_n 0, 1) := by decide +kernel
theorem dJ9_floorMod_7cf53_1 : decode cJ9_floorMod_7cf53 1 = .ok (.iload_n 1, 1) := by decide +kernel
theorem dJ9_floorMod_7cf53_2 : decode cJ9_floorMod_7cf53 2 = .ok (.irem, 1) := by decide +kernel
theorem dJ9_floorMod_7cf53_3 : decode cJ9_floorMod_7cf53 3 = .ok (.istore_n 2, 1) := by decide +kernel
theorem dJ9_floorMod_7cf53_4 : decode cJ9_floorMod_7cf53 4 = .ok (.iload_n 0, 1) := by decide +kernel
theorem dJ9_floorMod_7cf53_5 : decode cJ9_floorMod_7cf53 5 = .ok (.iload_n 1, 1) := by decide +kernel
theorem dJ9_floorMod_7cf53_6 : decode cJ9_floorMod_7cf53 6 = .ok (.ixor, 1) := by decide +kernel
theorem dJ9_floorMod_7cf53_7 : decode cJ9_floorMod_7cf53 7 = .ok (.ifCond .ge 11, 3) := by decide +kernel
theorem dJ9_floorMod_7cf53_18 : decode cJ9_floorMod_7cf53 18 = .ok (.iload_n 2, 1) := by decide +kernel
theorem dJ9_floorMod_7cf53_19 : decode cJ9_floorMod_7cf53 19 = .ok (.ireturn, 1) := by decide +kernel
