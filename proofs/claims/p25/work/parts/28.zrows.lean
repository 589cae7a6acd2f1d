set_option maxRecDepth 20000 in
theorem ggX5_plant_J7_fill_53178 : GoodIn wsX5_plant wsJ7_fill_53178 := goodIn_g _ [(12, 1)] rfl (by decide +kernel)
set_option maxRecDepth 20000 in
theorem gX5_plant_J7_fill_53178 : GoodIn wsX5_plant (va_wsS RX5 77 yJ7_fill_53178 wsJ7_fill_53178) := goodIn_app (goodIn_of _ (by decide +kernel)) ggX5_plant_J7_fill_53178
set_option maxRecDepth 20000 in
theorem ggX5_plant_X0_look : GoodIn wsX5_plant wsX0_look := goodIn_g _ [(17, 62), (16, 1), (79, 22), (132, 19)] rfl (by decide +kernel)
set_option maxRecDepth 20000 in
theorem gX5_plant_X0_look : GoodIn wsX5_plant (wsV RX5 83 RX0 yX0_look wsX0_look) := goodIn_app (goodIn_of _ (by decide +kernel)) ggX5_plant_X0_look
set_option maxRecDepth 20000 in
theorem ggX5_plant_X5_addJudged : GoodIn wsX5_plant wsX5_addJudged := goodIn_g _ [(105, 2), (3, 1), (7, 1), (107, 9), (8, 1), (116, 16), (141, 3)] rfl (by decide +kernel)
set_option maxRecDepth 20000 in
theorem gX5_plant_X5_addJudged : GoodIn wsX5_plant (wsV RX5 87 RX5 yX5_addJudged wsX5_addJudged) := goodIn_app (goodIn_of _ (by decide +kernel)) ggX5_plant_X5_addJudged
theorem dX5_plant_0 : decode cX5_plant 0 = .ok (.aload_n 0, 1) := by decide +kernel
theorem dX5_plant_1 : decode cX5_plant 1 = .ok (.aload_n 1, 1) := by decide +kernel
theorem dX5_plant_2 : decode cX5_plant 2 = .ok (.putfield 45, 3) := by decide +kernel
theorem dX5_plant_5 : decode cX5_plant 5 = .ok (.aload_n 0, 1) := by decide +kernel
theorem dX5_plant_6 : decode cX5_plant 6 = .ok (.iload_n 2, 1) := by decide +kernel
theorem dX5_plant_7 : decode cX5_plant 7 = .ok (.putfield 35, 3) := by decide +kernel
theorem dX5_plant_10 : decode cX5_plant 10 = .ok (.aload_n 0, 1) := by decide +kernel
theorem dX5_plant_11 : decode cX5_plant 11 = .ok (.iconst 0, 1) := by decide +kernel
theorem dX5_plant_12 : decode cX5_plant 12 = .ok (.putfield 15, 3) := by decide +kernel
theorem dX5_plant_15 : decode cX5_plant 15 = .ok (.aload_n 0, 1) := by decide +kernel
theorem dX5_plant_16 : decode cX5_plant 16 = .ok (.iconst 0, 1) := by decide +kernel
theorem dX5_plant_17 : decode cX5_plant 17 = .ok (.putfield 19, 3) := by decide +kernel
theorem dX5_plant_20 : decode cX5_plant 20 = .ok (.aload_n 0, 1) := by decide +kernel
theorem dX5_plant_21 : decode cX5_plant 21 = .ok (.iconst 0, 1) := by decide +kernel
theorem dX5_plant_22 : decode cX5_plant 22 = .ok (.putfield 22, 3) := by decide +kernel
theorem dX5_plant_25 : decode cX5_plant 25 = .ok (.aload_n 0, 1) := by decide +kernel
theorem dX5_plant_26 : decode cX5_plant 26 = .ok (.getfield 25, 3) := by decide +kernel
theorem dX5_plant_29 : decode cX5_plant 29 = .ok (.iconst (-1), 1) := by decide +kernel
theorem dX5_plant_30 : decode cX5_plant 30 = .ok (.invokestatic 77, 3) := by decide +kernel
theorem dX5_plant_33 : decode cX5_plant 33 = .ok (.aload_n 0, 1) := by decide +kernel
theorem dX5_plant_34 : decode cX5_plant 34 = .ok (.getfield 31, 3) := by decide +kernel
theorem dX5_plant_37 : decode cX5_plant 37 = .ok (.aload_n 0, 1) := by decide +kernel
theorem dX5_plant_38 : decode cX5_plant 38 = .ok (.getfield 45, 3) := by decide +kernel
theorem dX5_plant_41 : decode cX5_plant 41 = .ok (.aload_n 0, 1) := by decide +kernel
theorem dX5_plant_42 : decode cX5_plant 42 = .ok (.getfield 25, 3) := by decide +kernel
theorem dX5_plant_45 : decode cX5_plant 45 = .ok (.iconst 0, 1) := by decide +kernel
theorem dX5_plant_46 : decode cX5_plant 46 = .ok (.aload_n 0, 1) := by decide +kernel
theorem dX5_plant_47 : decode cX5_plant 47 = .ok (.getfield 35, 3) := by decide +kernel
theorem dX5_plant_50 : decode cX5_plant 50 = .ok (.invokevirtual 83, 3) := by decide +kernel
theorem dX5_plant_53 : decode cX5_plant 53 = .ok (.aload_n 0, 1) := by decide +kernel
theorem dX5_plant_54 : decode cX5_plant 54 = .ok (.iconst 0, 1) := by decide +kernel
theorem dX5_plant_55 : decode cX5_plant 55 = .ok (.lconst 0, 1) := by decide +kernel
theorem dX5_plant_56 : decode cX5_plant 56 = .ok (.invokevirtual 87, 3) := by decide +kernel
theorem dX5_plant_59 : decode cX5_plant 59 = .ok (.aload_n 0, 1) := by decide +kernel
theorem dX5_plant_60 : decode cX5_plant 60 = .ok (.getfield 73, 3) := by decide +kernel
theorem dX5_plant_63 : decode cX5_plant 63 = .ok (.iconst 0, 1) := by decide +kernel
theorem dX5_plant_64 : decode cX5_plant 64 = .ok (.iconst 1, 1) := by decide +kernel
theorem dX5_plant_65 : decode cX5_plant 65 = .ok (.bastore, 1) := by decide +kernel
theorem dX5_plant_66 : decode cX5_plant 66 = .ok (.return_, 1) := by decide +kernel
