/-! part 23.zrows -/
theorem dX1_hasVariable_0 : decode cX1_hasVariable 0 = .ok (.iload_n 1, 1) := by decide +kernel
theorem dX1_hasVariable_1 : decode cX1_hasVariable 1 = .ok (.ifCond .lt 15, 3) := by decide +kernel
theorem dX1_hasVariable_4 : decode cX1_hasVariable 4 = .ok (.iload_n 1, 1) := by decide +kernel
theorem dX1_hasVariable_5 : decode cX1_hasVariable 5 = .ok (.aload_n 0, 1) := by decide +kernel
theorem dX1_hasVariable_6 : decode cX1_hasVariable 6 = .ok (.getfield 9, 3) := by decide +kernel
theorem dX1_hasVariable_9 : decode cX1_hasVariable 9 = .ok (.if_icmp .ge 7, 3) := by decide +kernel
theorem dX1_hasVariable_12 : decode cX1_hasVariable 12 = .ok (.iconst 1, 1) := by decide +kernel
theorem dX1_hasVariable_13 : decode cX1_hasVariable 13 = .ok (.goto 4, 3) := by decide +kernel
theorem dX1_hasVariable_16 : decode cX1_hasVariable 16 = .ok (.iconst 0, 1) := by decide +kernel
theorem dX1_hasVariable_17 : decode cX1_hasVariable 17 = .ok (.ireturn, 1) := by decide +kernel
set_option maxRecDepth 20000 in
theorem ggX1_hasValue_X1_hasVariable : GoodIn wsX1_hasValue wsX1_hasVariable := goodIn_g _ [(6, 11)] rfl (by decide +kernel)
set_option maxRecDepth 20000 in
theorem gX1_hasValue_X1_hasVariable : GoodIn wsX1_hasValue (wsV RX1 47 RX1 yX1_hasVariable wsX1_hasVariable) := goodIn_app (goodIn_of _ (by decide +kernel)) ggX1_hasValue_X1_hasVariable
theorem dX1_hasValue_0 : decode cX1_hasValue 0 = .ok (.aload_n 0, 1) := by decide +kernel
theorem dX1_hasValue_1 : decode cX1_hasValue 1 = .ok (.iload_n 1, 1) := by decide +kernel
theorem dX1_hasValue_2 : decode cX1_hasValue 2 = .ok (.invokevirtual 47, 3) := by decide +kernel
theorem dX1_hasValue_5 : decode cX1_hasValue 5 = .ok (.ifCond .eq 21, 3) := by decide +kernel
theorem dX1_hasValue_8 : decode cX1_hasValue 8 = .ok (.iload_n 2, 1) := by decide +kernel
theorem dX1_hasValue_9 : decode cX1_hasValue 9 = .ok (.ifCond .lt 17, 3) := by decide +kernel
theorem dX1_hasValue_12 : decode cX1_hasValue 12 = .ok (.iload_n 2, 1) := by decide +kernel
theorem dX1_hasValue_13 : decode cX1_hasValue 13 = .ok (.aload_n 0, 1) := by decide +kernel
theorem dX1_hasValue_14 : decode cX1_hasValue 14 = .ok (.getfield 25, 3) := by decide +kernel
theorem dX1_hasValue_17 : decode cX1_hasValue 17 = .ok (.iload_n 1, 1) := by decide +kernel
theorem dX1_hasValue_18 : decode cX1_hasValue 18 = .ok (.iaload, 1) := by decide +kernel
theorem dX1_hasValue_19 : decode cX1_hasValue 19 = .ok (.if_icmp .ge 7, 3) := by decide +kernel
theorem dX1_hasValue_22 : decode cX1_hasValue 22 = .ok (.iconst 1, 1) := by decide +kernel
theorem dX1_hasValue_23 : decode cX1_hasValue 23 = .ok (.goto 4, 3) := by decide +kernel
theorem dX1_hasValue_26 : decode cX1_hasValue 26 = .ok (.iconst 0, 1) := by decide +kernel
theorem dX1_hasValue_27 : decode cX1_hasValue 27 = .ok (.ireturn, 1) := by decide +kernel
theorem dX1_hasRule_0 : decode cX1_hasRule 0 = .ok (.iload_n 1, 1) := by decide +kernel
theorem dX1_hasRule_1 : decode cX1_hasRule 1 = .ok (.ifCond .lt 15, 3) := by decide +kernel
theorem dX1_hasRule_4 : decode cX1_hasRule 4 = .ok (.iload_n 1, 1) := by decide +kernel
theorem dX1_hasRule_5 : decode cX1_hasRule 5 = .ok (.aload_n 0, 1) := by decide +kernel
theorem dX1_hasRule_6 : decode cX1_hasRule 6 = .ok (.getfield 15, 3) := by decide +kernel
theorem dX1_hasRule_9 : decode cX1_hasRule 9 = .ok (.if_icmp .ge 7, 3) := by decide +kernel
theorem dX1_hasRule_12 : decode cX1_hasRule 12 = .ok (.iconst 1, 1) := by decide +kernel
theorem dX1_hasRule_13 : decode cX1_hasRule 13 = .ok (.goto 4, 3) := by decide +kernel
theorem dX1_hasRule_16 : decode cX1_hasRule 16 = .ok (.iconst 0, 1) := by decide +kernel
theorem dX1_hasRule_17 : decode cX1_hasRule 17 = .ok (.ireturn, 1) := by decide +kernel
theorem dX1_change_0 : decode cX1_change 0 = .ok (.aload_n 0, 1) := by decide +kernel
theorem dX1_change_1 : decode cX1_change 1 = .ok (.dup, 1) := by decide +kernel
theorem dX1_change_2 : decode cX1_change 2 = .ok (.getfield 18, 3) := by decide +kernel
theorem dX1_change_5 : decode cX1_change 5 = .ok (.iconst 1, 1) := by decide +kernel
theorem dX1_change_6 : decode cX1_change 6 = .ok (.iadd, 1) := by decide +kernel
theorem dX1_change_7 : decode cX1_change 7 = .ok (.putfield 18, 3) := by decide +kernel
theorem dX1_change_10 : decode cX1_change 10 = .ok (.aload_n 0, 1) := by decide +kernel
theorem dX1_change_11 : decode cX1_change 11 = .ok (.iconst 0, 1) := by decide +kernel
theorem dX1_change_12 : decode cX1_change 12 = .ok (.putfield 21, 3) := by decide +kernel
theorem dX1_change_15 : decode cX1_change 15 = .ok (.return_, 1) := by decide +kernel
set_option maxRecDepth 20000 in
theorem ggX1_addVariable_X1_change : GoodIn wsX1_addVariable wsX1_change := goodIn_g _ [(8, 12)] rfl (by decide +kernel)
set_option maxRecDepth 20000 in
theorem gX1_addVariable_X1_change : GoodIn wsX1_addVariable (wsV RX1 51 RX1 yX1_change wsX1_change) := goodIn_app (goodIn_of _ (by decide +kernel)) ggX1_addVariable_X1_change
theorem dX1_addVariable_0 : decode cX1_addVariable 0 = .ok (.aload_n 0, 1) := by decide +kernel
theorem dX1_addVariable_1 : decode cX1_addVariable 1 = .ok (.invokevirtual 51, 3) := by decide +kernel
theorem dX1_addVariable_4 : decode cX1_addVariable 4 = .ok (.aload_n 0, 1) := by decide +kernel
theorem dX1_addVariable_5 : decode cX1_addVariable 5 = .ok (.getfield 25, 3) := by decide +kernel
theorem dX1_addVariable_8 : decode cX1_addVariable 8 = .ok (.aload_n 0, 1) := by decide +kernel
theorem dX1_addVariable_9 : decode cX1_addVariable 9 = .ok (.getfield 9, 3) := by decide +kernel
theorem dX1_addVariable_12 : decode cX1_addVariable 12 = .ok (.iload_n 1, 1) := by decide +kernel
theorem dX1_addVariable_13 : decode cX1_addVariable 13 = .ok (.iastore, 1) := by decide +kernel
theorem dX1_addVariable_14 : decode cX1_addVariable 14 = .ok (.aload_n 0, 1) := by decide +kernel
theorem dX1_addVariable_15 : decode cX1_addVariable 15 = .ok (.getfield 29, 3) := by decide +kernel
theorem dX1_addVariable_18 : decode cX1_addVariable 18 = .ok (.aload_n 0, 1) := by decide +kernel
theorem dX1_addVariable_19 : decode cX1_addVariable 19 = .ok (.getfield 9, 3) := by decide +kernel
theorem dX1_addVariable_22 : decode cX1_addVariable 22 = .ok (.iload_n 2, 1) := by decide +kernel
theorem dX1_addVariable_23 : decode cX1_addVariable 23 = .ok (.iastore, 1) := by decide +kernel
theorem dX1_addVariable_24 : decode cX1_addVariable 24 = .ok (.aload_n 0, 1) := by decide +kernel
theorem dX1_addVariable_25 : decode cX1_addVariable 25 = .ok (.dup, 1) := by decide +kernel
theorem dX1_addVariable_26 : decode cX1_addVariable 26 = .ok (.getfield 9, 3) := by decide +kernel
theorem dX1_addVariable_29 : decode cX1_addVariable 29 = .ok (.dup_x1, 1) := by decide +kernel
theorem dX1_addVariable_30 : decode cX1_addVariable 30 = .ok (.iconst 1, 1) := by decide +kernel
theorem dX1_addVariable_31 : decode cX1_addVariable 31 = .ok (.iadd, 1) := by decide +kernel
theorem dX1_addVariable_32 : decode cX1_addVariable 32 = .ok (.putfield 9, 3) := by decide +kernel
theorem dX1_addVariable_35 : decode cX1_addVariable 35 = .ok (.ireturn, 1) := by decide +kernel
set_option maxRecDepth 20000 in
theorem ggX1_setCost_X1_change : GoodIn wsX1_setCost wsX1_change := goodIn_g _ [(7, 12)] rfl (by decide +kernel)
set_option maxRecDepth 20000 in
theorem gX1_setCost_X1_change : GoodIn wsX1_setCost (wsV RX1 51 RX1 yX1_change wsX1_change) := goodIn_app (goodIn_of _ (by decide +kernel)) ggX1_setCost_X1_change
theorem dX1_setCost_0 : decode cX1_setCost 0 = .ok (.aload_n 0, 1) := by decide +kernel
theorem dX1_setCost_1 : decode cX1_setCost 1 = .ok (.invokevirtual 51, 3) := by decide +kernel
theorem dX1_setCost_4 : decode cX1_setCost 4 = .ok (.iload_n 3, 1) := by decide +kernel
theorem dX1_setCost_5 : decode cX1_setCost 5 = .ok (.istore 4, 2) := by decide +kernel
theorem dX1_setCost_7 : decode cX1_setCost 7 = .ok (.aload_n 0, 1) := by decide +kernel
theorem dX1_setCost_8 : decode cX1_setCost 8 = .ok (.getfield 29, 3) := by decide +kernel
theorem dX1_setCost_11 : decode cX1_setCost 11 = .ok (.iload_n 1, 1) := by decide +kernel
theorem dX1_setCost_12 : decode cX1_setCost 12 = .ok (.iaload, 1) := by decide +kernel
theorem dX1_setCost_13 : decode cX1_setCost 13 = .ok (.tableswitch 48 0 2 #[27, 34, 41], 27) := by decide +kernel
theorem dX1_setCost_40 : decode cX1_setCost 40 = .ok (.iload_n 3, 1) := by decide +kernel
theorem dX1_setCost_41 : decode cX1_setCost 41 = .ok (.i2b, 1) := by decide +kernel
theorem dX1_setCost_42 : decode cX1_setCost 42 = .ok (.istore 4, 2) := by decide +kernel
theorem dX1_setCost_44 : decode cX1_setCost 44 = .ok (.goto 17, 3) := by decide +kernel
theorem dX1_setCost_47 : decode cX1_setCost 47 = .ok (.iload_n 3, 1) := by decide +kernel
theorem dX1_setCost_48 : decode cX1_setCost 48 = .ok (.i2s, 1) := by decide +kernel
theorem dX1_setCost_49 : decode cX1_setCost 49 = .ok (.istore 4, 2) := by decide +kernel
theorem dX1_setCost_51 : decode cX1_setCost 51 = .ok (.goto 10, 3) := by decide +kernel
theorem dX1_setCost_54 : decode cX1_setCost 54 = .ok (.iload_n 3, 1) := by decide +kernel
theorem dX1_setCost_55 : decode cX1_setCost 55 = .ok (.i2c, 1) := by decide +kernel
theorem dX1_setCost_56 : decode cX1_setCost 56 = .ok (.istore 4, 2) := by decide +kernel
theorem dX1_setCost_58 : decode cX1_setCost 58 = .ok (.goto 3, 3) := by decide +kernel
theorem dX1_setCost_61 : decode cX1_setCost 61 = .ok (.aload_n 0, 1) := by decide +kernel
theorem dX1_setCost_62 : decode cX1_setCost 62 = .ok (.getfield 34, 3) := by decide +kernel
theorem dX1_setCost_65 : decode cX1_setCost 65 = .ok (.iload_n 1, 1) := by decide +kernel
theorem dX1_setCost_66 : decode cX1_setCost 66 = .ok (.aaload, 1) := by decide +kernel
theorem dX1_setCost_67 : decode cX1_setCost 67 = .ok (.iload_n 2, 1) := by decide +kernel
theorem dX1_setCost_68 : decode cX1_setCost 68 = .ok (.iload 4, 2) := by decide +kernel
theorem dX1_setCost_70 : decode cX1_setCost 70 = .ok (.iastore, 1) := by decide +kernel
theorem dX1_setCost_71 : decode cX1_setCost 71 = .ok (.iload 4, 2) := by decide +kernel
theorem dX1_setCost_73 : decode cX1_setCost 73 = .ok (.ireturn, 1) := by decide +kernel
set_option maxRecDepth 20000 in
theorem ggX1_addRule_X1_change : GoodIn wsX1_addRule wsX1_change := goodIn_g _ [(9, 12)] rfl (by decide +kernel)
set_option maxRecDepth 20000 in
theorem gX1_addRule_X1_change : GoodIn wsX1_addRule (wsV RX1 51 RX1 yX1_change wsX1_change) := goodIn_app (goodIn_of _ (by decide +kernel)) ggX1_addRule_X1_change
theorem dX1_addRule_0 : decode cX1_addRule 0 = .ok (.aload_n 0, 1) := by decide +kernel
theorem dX1_addRule_1 : decode cX1_addRule 1 = .ok (.invokevirtual 51, 3) := by decide +kernel
theorem dX1_addRule_4 : decode cX1_addRule 4 = .ok (.aload_n 0, 1) := by decide +kernel
theorem dX1_addRule_5 : decode cX1_addRule 5 = .ok (.getfield 39, 3) := by decide +kernel
theorem dX1_addRule_8 : decode cX1_addRule 8 = .ok (.aload_n 0, 1) := by decide +kernel
theorem dX1_addRule_9 : decode cX1_addRule 9 = .ok (.getfield 15, 3) := by decide +kernel
theorem dX1_addRule_12 : decode cX1_addRule 12 = .ok (.aaload, 1) := by decide +kernel
theorem dX1_addRule_13 : decode cX1_addRule 13 = .ok (.iload_n 1, 1) := by decide +kernel
theorem dX1_addRule_14 : decode cX1_addRule 14 = .ok (.putfield 54, 3) := by decide +kernel
theorem dX1_addRule_17 : decode cX1_addRule 17 = .ok (.aload_n 0, 1) := by decide +kernel
theorem dX1_addRule_18 : decode cX1_addRule 18 = .ok (.getfield 39, 3) := by decide +kernel
theorem dX1_addRule_21 : decode cX1_addRule 21 = .ok (.aload_n 0, 1) := by decide +kernel
theorem dX1_addRule_22 : decode cX1_addRule 22 = .ok (.getfield 15, 3) := by decide +kernel
theorem dX1_addRule_25 : decode cX1_addRule 25 = .ok (.aaload, 1) := by decide +kernel
theorem dX1_addRule_26 : decode cX1_addRule 26 = .ok (.iload_n 2, 1) := by decide +kernel
theorem dX1_addRule_27 : decode cX1_addRule 27 = .ok (.putfield 57, 3) := by decide +kernel
theorem dX1_addRule_30 : decode cX1_addRule 30 = .ok (.aload_n 0, 1) := by decide +kernel
theorem dX1_addRule_31 : decode cX1_addRule 31 = .ok (.dup, 1) := by decide +kernel
theorem dX1_addRule_32 : decode cX1_addRule 32 = .ok (.getfield 15, 3) := by decide +kernel
theorem dX1_addRule_35 : decode cX1_addRule 35 = .ok (.dup_x1, 1) := by decide +kernel
theorem dX1_addRule_36 : decode cX1_addRule 36 = .ok (.iconst 1, 1) := by decide +kernel
theorem dX1_addRule_37 : decode cX1_addRule 37 = .ok (.iadd, 1) := by decide +kernel
theorem dX1_addRule_38 : decode cX1_addRule 38 = .ok (.putfield 15, 3) := by decide +kernel
theorem dX1_addRule_41 : decode cX1_addRule 41 = .ok (.ireturn, 1) := by decide +kernel
set_option maxRecDepth 20000 in
theorem ggX1_addPart_X1_change : GoodIn wsX1_addPart wsX1_change := goodIn_g _ [(7, 3), (20, 9)] rfl (by decide +kernel)
set_option maxRecDepth 20000 in
theorem gX1_addPart_X1_change : GoodIn wsX1_addPart (wsV RX1 51 RX1 yX1_change wsX1_change) := goodIn_app (goodIn_of _ (by decide +kernel)) ggX1_addPart_X1_change
set_option maxRecDepth 20000 in
theorem ggX1_addPart_X2_add : GoodIn wsX1_addPart wsX2_add := goodIn_g _ [(14, 6), (29, 7)] rfl (by decide +kernel)
set_option maxRecDepth 20000 in
theorem gX1_addPart_X2_add : GoodIn wsX1_addPart (wsV RX1 60 RX2 yX2_add wsX2_add) := goodIn_app (goodIn_of _ (by decide +kernel)) ggX1_addPart_X2_add
theorem dX1_addPart_0 : decode cX1_addPart 0 = .ok (.aload_n 0, 1) := by decide +kernel
theorem dX1_addPart_1 : decode cX1_addPart 1 = .ok (.invokevirtual 51, 3) := by decide +kernel
theorem dX1_addPart_4 : decode cX1_addPart 4 = .ok (.aload_n 0, 1) := by decide +kernel
theorem dX1_addPart_5 : decode cX1_addPart 5 = .ok (.getfield 39, 3) := by decide +kernel
theorem dX1_addPart_8 : decode cX1_addPart 8 = .ok (.iload_n 1, 1) := by decide +kernel
theorem dX1_addPart_9 : decode cX1_addPart 9 = .ok (.aaload, 1) := by decide +kernel
theorem dX1_addPart_10 : decode cX1_addPart 10 = .ok (.iload_n 2, 1) := by decide +kernel
theorem dX1_addPart_11 : decode cX1_addPart 11 = .ok (.iload_n 3, 1) := by decide +kernel
theorem dX1_addPart_12 : decode cX1_addPart 12 = .ok (.invokevirtual 60, 3) := by decide +kernel
theorem dX1_addPart_15 : decode cX1_addPart 15 = .ok (.aload_n 0, 1) := by decide +kernel
theorem dX1_addPart_16 : decode cX1_addPart 16 = .ok (.getfield 39, 3) := by decide +kernel
theorem dX1_addPart_19 : decode cX1_addPart 19 = .ok (.iload_n 1, 1) := by decide +kernel
theorem dX1_addPart_20 : decode cX1_addPart 20 = .ok (.aaload, 1) := by decide +kernel
theorem dX1_addPart_21 : decode cX1_addPart 21 = .ok (.getfield 64, 3) := by decide +kernel
theorem dX1_addPart_24 : decode cX1_addPart 24 = .ok (.ireturn, 1) := by decide +kernel
set_option maxRecDepth 20000 in
theorem ggX1_setNumber_X1_change : GoodIn wsX1_setNumber wsX1_change := goodIn_g _ [(7, 12)] rfl (by decide +kernel)
set_option maxRecDepth 20000 in
theorem gX1_setNumber_X1_change : GoodIn wsX1_setNumber (wsV RX1 51 RX1 yX1_change wsX1_change) := goodIn_app (goodIn_of _ (by decide +kernel)) ggX1_setNumber_X1_change
theorem dX1_setNumber_0 : decode cX1_setNumber 0 = .ok (.aload_n 0, 1) := by decide +kernel
theorem dX1_setNumber_1 : decode cX1_setNumber 1 = .ok (.invokevirtual 51, 3) := by decide +kernel
theorem dX1_setNumber_4 : decode cX1_setNumber 4 = .ok (.aload_n 0, 1) := by decide +kernel
theorem dX1_setNumber_5 : decode cX1_setNumber 5 = .ok (.getfield 39, 3) := by decide +kernel
theorem dX1_setNumber_8 : decode cX1_setNumber 8 = .ok (.iload_n 1, 1) := by decide +kernel
theorem dX1_setNumber_9 : decode cX1_setNumber 9 = .ok (.aaload, 1) := by decide +kernel
theorem dX1_setNumber_10 : decode cX1_setNumber 10 = .ok (.getfield 57, 3) := by decide +kernel
theorem dX1_setNumber_13 : decode cX1_setNumber 13 = .ok (.istore_n 3, 1) := by decide +kernel
theorem dX1_setNumber_14 : decode cX1_setNumber 14 = .ok (.aload_n 0, 1) := by decide +kernel
theorem dX1_setNumber_15 : decode cX1_setNumber 15 = .ok (.getfield 39, 3) := by decide +kernel
theorem dX1_setNumber_18 : decode cX1_setNumber 18 = .ok (.iload_n 1, 1) := by decide +kernel
theorem dX1_setNumber_19 : decode cX1_setNumber 19 = .ok (.aaload, 1) := by decide +kernel
theorem dX1_setNumber_20 : decode cX1_setNumber 20 = .ok (.iload_n 2, 1) := by decide +kernel
theorem dX1_setNumber_21 : decode cX1_setNumber 21 = .ok (.putfield 57, 3) := by decide +kernel
theorem dX1_setNumber_24 : decode cX1_setNumber 24 = .ok (.iload_n 3, 1) := by decide +kernel
theorem dX1_setNumber_25 : decode cX1_setNumber 25 = .ok (.ireturn, 1) := by decide +kernel
set_option maxRecDepth 20000 in
theorem ggX1_firstBroken_X2_isBroken : GoodIn wsX1_firstBroken wsX2_isBroken := goodIn_g _ [(8, 10), (7, 1), (18, 30), (57, 7)] rfl (by decide +kernel)
set_option maxRecDepth 20000 in
theorem gX1_firstBroken_X2_isBroken : GoodIn wsX1_firstBroken (wsV RX1 67 RX2 yX2_isBroken wsX2_isBroken) := goodIn_app (goodIn_of _ (by decide +kernel)) ggX1_firstBroken_X2_isBroken
theorem dX1_firstBroken_0 : decode cX1_firstBroken 0 = .ok (.iconst 0, 1) := by decide +kernel
theorem dX1_firstBroken_1 : decode cX1_firstBroken 1 = .ok (.istore_n 2, 1) := by decide +kernel
theorem dX1_firstBroken_2 : decode cX1_firstBroken 2 = .ok (.iload_n 2, 1) := by decide +kernel
theorem dX1_firstBroken_3 : decode cX1_firstBroken 3 = .ok (.aload_n 0, 1) := by decide +kernel
theorem dX1_firstBroken_4 : decode cX1_firstBroken 4 = .ok (.getfield 15, 3) := by decide +kernel
theorem dX1_firstBroken_7 : decode cX1_firstBroken 7 = .ok (.if_icmp .ge 28, 3) := by decide +kernel
theorem dX1_firstBroken_10 : decode cX1_firstBroken 10 = .ok (.aload_n 0, 1) := by decide +kernel
theorem dX1_firstBroken_11 : decode cX1_firstBroken 11 = .ok (.getfield 39, 3) := by decide +kernel
theorem dX1_firstBroken_14 : decode cX1_firstBroken 14 = .ok (.iload_n 2, 1) := by decide +kernel
theorem dX1_firstBroken_15 : decode cX1_firstBroken 15 = .ok (.aaload, 1) := by decide +kernel
theorem dX1_firstBroken_16 : decode cX1_firstBroken 16 = .ok (.aload_n 1, 1) := by decide +kernel
theorem dX1_firstBroken_17 : decode cX1_firstBroken 17 = .ok (.aload_n 0, 1) := by decide +kernel
theorem dX1_firstBroken_18 : decode cX1_firstBroken 18 = .ok (.getfield 25, 3) := by decide +kernel
theorem dX1_firstBroken_21 : decode cX1_firstBroken 21 = .ok (.invokevirtual 67, 3) := by decide +kernel
theorem dX1_firstBroken_24 : decode cX1_firstBroken 24 = .ok (.ifCond .eq 5, 3) := by decide +kernel
theorem dX1_firstBroken_27 : decode cX1_firstBroken 27 = .ok (.iload_n 2, 1) := by decide +kernel
theorem dX1_firstBroken_28 : decode cX1_firstBroken 28 = .ok (.ireturn, 1) := by decide +kernel
theorem dX1_firstBroken_29 : decode cX1_firstBroken 29 = .ok (.iinc 2 1, 3) := by decide +kernel
theorem dX1_firstBroken_32 : decode cX1_firstBroken 32 = .ok (.goto (-30), 3) := by decide +kernel
theorem dX1_firstBroken_35 : decode cX1_firstBroken 35 = .ok (.bipush (-9), 2) := by decide +kernel
theorem dX1_firstBroken_37 : decode cX1_firstBroken 37 = .ok (.ireturn, 1) := by decide +kernel
set_option maxRecDepth 20000 in
theorem ggX1_isOut_X1_firstBroken : GoodIn wsX1_isOut wsX1_firstBroken := goodIn_g _ [(5, 64)] rfl (by decide +kernel)
set_option maxRecDepth 20000 in
theorem gX1_isOut_X1_firstBroken : GoodIn wsX1_isOut (wsV RX1 71 RX1 yX1_firstBroken wsX1_firstBroken) := goodIn_app (goodIn_of _ (by decide +kernel)) ggX1_isOut_X1_firstBroken
theorem dX1_isOut_0 : decode cX1_isOut 0 = .ok (.aload_n 1, 1) := by decide +kernel
theorem dX1_isOut_1 : decode cX1_isOut 1 = .ok (.iload_n 2, 1) := by decide +kernel
theorem dX1_isOut_2 : decode cX1_isOut 2 = .ok (.iaload, 1) := by decide +kernel
theorem dX1_isOut_3 : decode cX1_isOut 3 = .ok (.iconst (-1), 1) := by decide +kernel
theorem dX1_isOut_4 : decode cX1_isOut 4 = .ok (.if_icmp .eq 5, 3) := by decide +kernel
theorem dX1_isOut_7 : decode cX1_isOut 7 = .ok (.iconst 0, 1) := by decide +kernel
theorem dX1_isOut_8 : decode cX1_isOut 8 = .ok (.ireturn, 1) := by decide +kernel
theorem dX1_isOut_9 : decode cX1_isOut 9 = .ok (.aload_n 1, 1) := by decide +kernel
theorem dX1_isOut_10 : decode cX1_isOut 10 = .ok (.iload_n 2, 1) := by decide +kernel
theorem dX1_isOut_11 : decode cX1_isOut 11 = .ok (.iload_n 3, 1) := by decide +kernel
theorem dX1_isOut_12 : decode cX1_isOut 12 = .ok (.iastore, 1) := by decide +kernel
theorem dX1_isOut_13 : decode cX1_isOut 13 = .ok (.aload_n 0, 1) := by decide +kernel
theorem dX1_isOut_14 : decode cX1_isOut 14 = .ok (.aload_n 1, 1) := by decide +kernel
theorem dX1_isOut_15 : decode cX1_isOut 15 = .ok (.invokevirtual 71, 3) := by decide +kernel
theorem dX1_isOut_18 : decode cX1_isOut 18 = .ok (.bipush (-9), 2) := by decide +kernel
theorem dX1_isOut_20 : decode cX1_isOut 20 = .ok (.if_icmp .eq 7, 3) := by decide +kernel
theorem dX1_isOut_23 : decode cX1_isOut 23 = .ok (.iconst 1, 1) := by decide +kernel
theorem dX1_isOut_24 : decode cX1_isOut 24 = .ok (.goto 4, 3) := by decide +kernel
theorem dX1_isOut_27 : decode cX1_isOut 27 = .ok (.iconst 0, 1) := by decide +kernel
theorem dX1_isOut_28 : decode cX1_isOut 28 = .ok (.istore 4, 2) := by decide +kernel
theorem dX1_isOut_30 : decode cX1_isOut 30 = .ok (.aload_n 1, 1) := by decide +kernel
theorem dX1_isOut_31 : decode cX1_isOut 31 = .ok (.iload_n 2, 1) := by decide +kernel
theorem dX1_isOut_32 : decode cX1_isOut 32 = .ok (.iconst (-1), 1) := by decide +kernel
theorem dX1_isOut_33 : decode cX1_isOut 33 = .ok (.iastore, 1) := by decide +kernel
theorem dX1_isOut_34 : decode cX1_isOut 34 = .ok (.iload 4, 2) := by decide +kernel
theorem dX1_isOut_36 : decode cX1_isOut 36 = .ok (.ireturn, 1) := by decide +kernel
set_option maxRecDepth 20000 in
theorem ggX1_leastCost_X2_isBroken : GoodIn wsX1_leastCost wsX2_isBroken := goodIn_g _ [(11, 10), (10, 1), (21, 30), (60, 7)] rfl (by decide +kernel)
set_option maxRecDepth 20000 in
theorem gX1_leastCost_X2_isBroken : GoodIn wsX1_leastCost (wsV RX1 67 RX2 yX2_isBroken wsX2_isBroken) := goodIn_app (goodIn_of _ (by decide +kernel)) ggX1_leastCost_X2_isBroken
theorem dX1_leastCost_0 : decode cX1_leastCost 0 = .ok (.ldc 75, 2) := by decide +kernel
theorem dX1_leastCost_2 : decode cX1_leastCost 2 = .ok (.istore_n 3, 1) := by decide +kernel
theorem dX1_leastCost_3 : decode cX1_leastCost 3 = .ok (.iconst 0, 1) := by decide +kernel
theorem dX1_leastCost_4 : decode cX1_leastCost 4 = .ok (.istore 4, 2) := by decide +kernel
theorem dX1_leastCost_6 : decode cX1_leastCost 6 = .ok (.iload 4, 2) := by decide +kernel
theorem dX1_leastCost_8 : decode cX1_leastCost 8 = .ok (.aload_n 0, 1) := by decide +kernel
theorem dX1_leastCost_9 : decode cX1_leastCost 9 = .ok (.getfield 25, 3) := by decide +kernel
theorem dX1_leastCost_12 : decode cX1_leastCost 12 = .ok (.iload_n 2, 1) := by decide +kernel
theorem dX1_leastCost_13 : decode cX1_leastCost 13 = .ok (.iaload, 1) := by decide +kernel
theorem dX1_leastCost_14 : decode cX1_leastCost 14 = .ok (.if_icmp .ge 114, 3) := by decide +kernel
theorem dX1_leastCost_17 : decode cX1_leastCost 17 = .ok (.aload_n 1, 1) := by decide +kernel
theorem dX1_leastCost_18 : decode cX1_leastCost 18 = .ok (.iload_n 2, 1) := by decide +kernel
theorem dX1_leastCost_19 : decode cX1_leastCost 19 = .ok (.iload 4, 2) := by decide +kernel
theorem dX1_leastCost_21 : decode cX1_leastCost 21 = .ok (.iastore, 1) := by decide +kernel
theorem dX1_leastCost_22 : decode cX1_leastCost 22 = .ok (.iconst 0, 1) := by decide +kernel
theorem dX1_leastCost_23 : decode cX1_leastCost 23 = .ok (.istore 5, 2) := by decide +kernel
theorem dX1_leastCost_25 : decode cX1_leastCost 25 = .ok (.iconst 0, 1) := by decide +kernel
theorem dX1_leastCost_26 : decode cX1_leastCost 26 = .ok (.istore 6, 2) := by decide +kernel
theorem dX1_leastCost_28 : decode cX1_leastCost 28 = .ok (.iload 6, 2) := by decide +kernel
theorem dX1_leastCost_30 : decode cX1_leastCost 30 = .ok (.aload_n 0, 1) := by decide +kernel
theorem dX1_leastCost_31 : decode cX1_leastCost 31 = .ok (.getfield 15, 3) := by decide +kernel
theorem dX1_leastCost_34 : decode cX1_leastCost 34 = .ok (.if_icmp .ge 54, 3) := by decide +kernel
theorem dX1_leastCost_37 : decode cX1_leastCost 37 = .ok (.iload 5, 2) := by decide +kernel
theorem dX1_leastCost_39 : decode cX1_leastCost 39 = .ok (.ifCond .ne 49, 3) := by decide +kernel
theorem dX1_leastCost_42 : decode cX1_leastCost 42 = .ok (.aload_n 0, 1) := by decide +kernel
theorem dX1_leastCost_43 : decode cX1_leastCost 43 = .ok (.getfield 39, 3) := by decide +kernel
theorem dX1_leastCost_46 : decode cX1_leastCost 46 = .ok (.iload 6, 2) := by decide +kernel
theorem dX1_leastCost_48 : decode cX1_leastCost 48 = .ok (.aaload, 1) := by decide +kernel
theorem dX1_leastCost_49 : decode cX1_leastCost 49 = .ok (.getfield 76, 3) := by decide +kernel
theorem dX1_leastCost_52 : decode cX1_leastCost 52 = .ok (.iload_n 2, 1) := by decide +kernel
theorem dX1_leastCost_53 : decode cX1_leastCost 53 = .ok (.baload, 1) := by decide +kernel
theorem dX1_leastCost_54 : decode cX1_leastCost 54 = .ok (.ifCond .eq 25, 3) := by decide +kernel
theorem dX1_leastCost_57 : decode cX1_leastCost 57 = .ok (.aload_n 0, 1) := by decide +kernel
theorem dX1_leastCost_58 : decode cX1_leastCost 58 = .ok (.getfield 39, 3) := by decide +kernel
theorem dX1_leastCost_61 : decode cX1_leastCost 61 = .ok (.iload 6, 2) := by decide +kernel
theorem dX1_leastCost_63 : decode cX1_leastCost 63 = .ok (.aaload, 1) := by decide +kernel
theorem dX1_leastCost_64 : decode cX1_leastCost 64 = .ok (.aload_n 1, 1) := by decide +kernel
theorem dX1_leastCost_65 : decode cX1_leastCost 65 = .ok (.aload_n 0, 1) := by decide +kernel
theorem dX1_leastCost_66 : decode cX1_leastCost 66 = .ok (.getfield 25, 3) := by decide +kernel
theorem dX1_leastCost_69 : decode cX1_leastCost 69 = .ok (.invokevirtual 67, 3) := by decide +kernel
theorem dX1_leastCost_72 : decode cX1_leastCost 72 = .ok (.ifCond .eq 7, 3) := by decide +kernel
theorem dX1_leastCost_75 : decode cX1_leastCost 75 = .ok (.iconst 1, 1) := by decide +kernel
theorem dX1_leastCost_76 : decode cX1_leastCost 76 = .ok (.goto 4, 3) := by decide +kernel
theorem dX1_leastCost_79 : decode cX1_leastCost 79 = .ok (.iconst 0, 1) := by decide +kernel
theorem dX1_leastCost_80 : decode cX1_leastCost 80 = .ok (.istore 5, 2) := by decide +kernel
theorem dX1_leastCost_82 : decode cX1_leastCost 82 = .ok (.iinc 6 1, 3) := by decide +kernel
theorem dX1_leastCost_85 : decode cX1_leastCost 85 = .ok (.goto (-57), 3) := by decide +kernel
theorem dX1_leastCost_88 : decode cX1_leastCost 88 = .ok (.iload 5, 2) := by decide +kernel
theorem dX1_leastCost_90 : decode cX1_leastCost 90 = .ok (.ifCond .ne 32, 3) := by decide +kernel
theorem dX1_leastCost_93 : decode cX1_leastCost 93 = .ok (.iload_n 3, 1) := by decide +kernel
theorem dX1_leastCost_94 : decode cX1_leastCost 94 = .ok (.ldc 75, 2) := by decide +kernel
theorem dX1_leastCost_96 : decode cX1_leastCost 96 = .ok (.if_icmp .eq 16, 3) := by decide +kernel
theorem dX1_leastCost_99 : decode cX1_leastCost 99 = .ok (.aload_n 0, 1) := by decide +kernel
theorem dX1_leastCost_100 : decode cX1_leastCost 100 = .ok (.getfield 34, 3) := by decide +kernel
theorem dX1_leastCost_103 : decode cX1_leastCost 103 = .ok (.iload_n 2, 1) := by decide +kernel
theorem dX1_leastCost_104 : decode cX1_leastCost 104 = .ok (.aaload, 1) := by decide +kernel
theorem dX1_leastCost_105 : decode cX1_leastCost 105 = .ok (.iload 4, 2) := by decide +kernel
theorem dX1_leastCost_107 : decode cX1_leastCost 107 = .ok (.iaload, 1) := by decide +kernel
theorem dX1_leastCost_108 : decode cX1_leastCost 108 = .ok (.iload_n 3, 1) := by decide +kernel
theorem dX1_leastCost_109 : decode cX1_leastCost 109 = .ok (.if_icmp .ge 13, 3) := by decide +kernel
theorem dX1_leastCost_112 : decode cX1_leastCost 112 = .ok (.aload_n 0, 1) := by decide +kernel
theorem dX1_leastCost_113 : decode cX1_leastCost 113 = .ok (.getfield 34, 3) := by decide +kernel
theorem dX1_leastCost_116 : decode cX1_leastCost 116 = .ok (.iload_n 2, 1) := by decide +kernel
theorem dX1_leastCost_117 : decode cX1_leastCost 117 = .ok (.aaload, 1) := by decide +kernel
theorem dX1_leastCost_118 : decode cX1_leastCost 118 = .ok (.iload 4, 2) := by decide +kernel
theorem dX1_leastCost_120 : decode cX1_leastCost 120 = .ok (.iaload, 1) := by decide +kernel
theorem dX1_leastCost_121 : decode cX1_leastCost 121 = .ok (.istore_n 3, 1) := by decide +kernel
theorem dX1_leastCost_122 : decode cX1_leastCost 122 = .ok (.iinc 4 1, 3) := by decide +kernel
theorem dX1_leastCost_125 : decode cX1_leastCost 125 = .ok (.goto (-119), 3) := by decide +kernel
theorem dX1_leastCost_128 : decode cX1_leastCost 128 = .ok (.aload_n 1, 1) := by decide +kernel
theorem dX1_leastCost_129 : decode cX1_leastCost 129 = .ok (.iload_n 2, 1) := by decide +kernel
theorem dX1_leastCost_130 : decode cX1_leastCost 130 = .ok (.iconst (-1), 1) := by decide +kernel
theorem dX1_leastCost_131 : decode cX1_leastCost 131 = .ok (.iastore, 1) := by decide +kernel
theorem dX1_leastCost_132 : decode cX1_leastCost 132 = .ok (.iload_n 3, 1) := by decide +kernel
theorem dX1_leastCost_133 : decode cX1_leastCost 133 = .ok (.ireturn, 1) := by decide +kernel
set_option maxRecDepth 20000 in
theorem ggX1_firstTwin_X1_areTwins : GoodIn wsX1_firstTwin wsX1_areTwins := goodIn_g _ [(5, 29)] rfl (by decide +kernel)
set_option maxRecDepth 20000 in
theorem gX1_firstTwin_X1_areTwins : GoodIn wsX1_firstTwin (wsV RX1 80 RX1 yX1_areTwins wsX1_areTwins) := goodIn_app (goodIn_of _ (by decide +kernel)) ggX1_firstTwin_X1_areTwins
theorem dX1_firstTwin_0 : decode cX1_firstTwin 0 = .ok (.iconst 0, 1) := by decide +kernel
theorem dX1_firstTwin_1 : decode cX1_firstTwin 1 = .ok (.istore_n 3, 1) := by decide +kernel
theorem dX1_firstTwin_2 : decode cX1_firstTwin 2 = .ok (.iload_n 3, 1) := by decide +kernel
theorem dX1_firstTwin_3 : decode cX1_firstTwin 3 = .ok (.iload_n 2, 1) := by decide +kernel
theorem dX1_firstTwin_4 : decode cX1_firstTwin 4 = .ok (.if_icmp .ge 29, 3) := by decide +kernel
theorem dX1_firstTwin_7 : decode cX1_firstTwin 7 = .ok (.aload_n 1, 1) := by decide +kernel
theorem dX1_firstTwin_8 : decode cX1_firstTwin 8 = .ok (.iload_n 3, 1) := by decide +kernel
theorem dX1_firstTwin_9 : decode cX1_firstTwin 9 = .ok (.iaload, 1) := by decide +kernel
theorem dX1_firstTwin_10 : decode cX1_firstTwin 10 = .ok (.aload_n 1, 1) := by decide +kernel
theorem dX1_firstTwin_11 : decode cX1_firstTwin 11 = .ok (.iload_n 2, 1) := by decide +kernel
theorem dX1_firstTwin_12 : decode cX1_firstTwin 12 = .ok (.iaload, 1) := by decide +kernel
theorem dX1_firstTwin_13 : decode cX1_firstTwin 13 = .ok (.if_icmp .le 14, 3) := by decide +kernel
theorem dX1_firstTwin_16 : decode cX1_firstTwin 16 = .ok (.aload_n 0, 1) := by decide +kernel
theorem dX1_firstTwin_17 : decode cX1_firstTwin 17 = .ok (.iload_n 3, 1) := by decide +kernel
theorem dX1_firstTwin_18 : decode cX1_firstTwin 18 = .ok (.iload_n 2, 1) := by decide +kernel
theorem dX1_firstTwin_19 : decode cX1_firstTwin 19 = .ok (.invokevirtual 80, 3) := by decide +kernel
theorem dX1_firstTwin_22 : decode cX1_firstTwin 22 = .ok (.ifCond .eq 5, 3) := by decide +kernel
theorem dX1_firstTwin_25 : decode cX1_firstTwin 25 = .ok (.iload_n 3, 1) := by decide +kernel
theorem dX1_firstTwin_26 : decode cX1_firstTwin 26 = .ok (.ireturn, 1) := by decide +kernel
theorem dX1_firstTwin_27 : decode cX1_firstTwin 27 = .ok (.iinc 3 1, 3) := by decide +kernel
theorem dX1_firstTwin_30 : decode cX1_firstTwin 30 = .ok (.goto (-28), 3) := by decide +kernel
theorem dX1_firstTwin_33 : decode cX1_firstTwin 33 = .ok (.bipush (-9), 2) := by decide +kernel
theorem dX1_firstTwin_35 : decode cX1_firstTwin 35 = .ok (.ireturn, 1) := by decide +kernel
set_option maxRecDepth 20000 in
theorem ggX1_areTwins_X2_treatsAlike : GoodIn wsX1_areTwins wsX2_treatsAlike := goodIn_g _ [(9, 4), (22, 7)] rfl (by decide +kernel)
set_option maxRecDepth 20000 in
theorem gX1_areTwins_X2_treatsAlike : GoodIn wsX1_areTwins (wsV RX1 84 RX2 yX2_treatsAlike wsX2_treatsAlike) := goodIn_app (goodIn_of _ (by decide +kernel)) ggX1_areTwins_X2_treatsAlike
theorem dX1_areTwins_0 : decode cX1_areTwins 0 = .ok (.aload_n 0, 1) := by decide +kernel
theorem dX1_areTwins_1 : decode cX1_areTwins 1 = .ok (.getfield 25, 3) := by decide +kernel
theorem dX1_areTwins_4 : decode cX1_areTwins 4 = .ok (.iload_n 1, 1) := by decide +kernel
theorem dX1_areTwins_5 : decode cX1_areTwins 5 = .ok (.iaload, 1) := by decide +kernel
theorem dX1_areTwins_6 : decode cX1_areTwins 6 = .ok (.aload_n 0, 1) := by decide +kernel
theorem dX1_areTwins_7 : decode cX1_areTwins 7 = .ok (.getfield 25, 3) := by decide +kernel
theorem dX1_areTwins_10 : decode cX1_areTwins 10 = .ok (.iload_n 2, 1) := by decide +kernel
theorem dX1_areTwins_11 : decode cX1_areTwins 11 = .ok (.iaload, 1) := by decide +kernel
theorem dX1_areTwins_12 : decode cX1_areTwins 12 = .ok (.if_icmp .ne 7, 3) := by decide +kernel
theorem dX1_areTwins_15 : decode cX1_areTwins 15 = .ok (.iconst 1, 1) := by decide +kernel
theorem dX1_areTwins_16 : decode cX1_areTwins 16 = .ok (.goto 4, 3) := by decide +kernel
theorem dX1_areTwins_19 : decode cX1_areTwins 19 = .ok (.iconst 0, 1) := by decide +kernel
theorem dX1_areTwins_20 : decode cX1_areTwins 20 = .ok (.istore_n 3, 1) := by decide +kernel
theorem dX1_areTwins_21 : decode cX1_areTwins 21 = .ok (.iconst 0, 1) := by decide +kernel
theorem dX1_areTwins_22 : decode cX1_areTwins 22 = .ok (.istore 4, 2) := by decide +kernel
theorem dX1_areTwins_24 : decode cX1_areTwins 24 = .ok (.iload 4, 2) := by decide +kernel
theorem dX1_areTwins_26 : decode cX1_areTwins 26 = .ok (.aload_n 0, 1) := by decide +kernel
theorem dX1_areTwins_27 : decode cX1_areTwins 27 = .ok (.getfield 25, 3) := by decide +kernel
theorem dX1_areTwins_30 : decode cX1_areTwins 30 = .ok (.iload_n 1, 1) := by decide +kernel
theorem dX1_areTwins_31 : decode cX1_areTwins 31 = .ok (.iaload, 1) := by decide +kernel
theorem dX1_areTwins_32 : decode cX1_areTwins 32 = .ok (.if_icmp .ge 40, 3) := by decide +kernel
theorem dX1_areTwins_35 : decode cX1_areTwins 35 = .ok (.iload_n 3, 1) := by decide +kernel
theorem dX1_areTwins_36 : decode cX1_areTwins 36 = .ok (.ifCond .eq 36, 3) := by decide +kernel
theorem dX1_areTwins_39 : decode cX1_areTwins 39 = .ok (.aload_n 0, 1) := by decide +kernel
theorem dX1_areTwins_40 : decode cX1_areTwins 40 = .ok (.getfield 34, 3) := by decide +kernel
theorem dX1_areTwins_43 : decode cX1_areTwins 43 = .ok (.iload_n 1, 1) := by decide +kernel
theorem dX1_areTwins_44 : decode cX1_areTwins 44 = .ok (.aaload, 1) := by decide +kernel
theorem dX1_areTwins_45 : decode cX1_areTwins 45 = .ok (.iload 4, 2) := by decide +kernel
theorem dX1_areTwins_47 : decode cX1_areTwins 47 = .ok (.iaload, 1) := by decide +kernel
theorem dX1_areTwins_48 : decode cX1_areTwins 48 = .ok (.aload_n 0, 1) := by decide +kernel
theorem dX1_areTwins_49 : decode cX1_areTwins 49 = .ok (.getfield 34, 3) := by decide +kernel
theorem dX1_areTwins_52 : decode cX1_areTwins 52 = .ok (.iload_n 2, 1) := by decide +kernel
theorem dX1_areTwins_53 : decode cX1_areTwins 53 = .ok (.aaload, 1) := by decide +kernel
theorem dX1_areTwins_54 : decode cX1_areTwins 54 = .ok (.iload 4, 2) := by decide +kernel
theorem dX1_areTwins_56 : decode cX1_areTwins 56 = .ok (.iaload, 1) := by decide +kernel
theorem dX1_areTwins_57 : decode cX1_areTwins 57 = .ok (.if_icmp .ne 7, 3) := by decide +kernel
theorem dX1_areTwins_60 : decode cX1_areTwins 60 = .ok (.iconst 1, 1) := by decide +kernel
theorem dX1_areTwins_61 : decode cX1_areTwins 61 = .ok (.goto 4, 3) := by decide +kernel
theorem dX1_areTwins_64 : decode cX1_areTwins 64 = .ok (.iconst 0, 1) := by decide +kernel
theorem dX1_areTwins_65 : decode cX1_areTwins 65 = .ok (.istore_n 3, 1) := by decide +kernel
theorem dX1_areTwins_66 : decode cX1_areTwins 66 = .ok (.iinc 4 1, 3) := by decide +kernel
theorem dX1_areTwins_69 : decode cX1_areTwins 69 = .ok (.goto (-45), 3) := by decide +kernel
theorem dX1_areTwins_72 : decode cX1_areTwins 72 = .ok (.iconst 0, 1) := by decide +kernel
theorem dX1_areTwins_73 : decode cX1_areTwins 73 = .ok (.istore 4, 2) := by decide +kernel
theorem dX1_areTwins_75 : decode cX1_areTwins 75 = .ok (.iload 4, 2) := by decide +kernel
theorem dX1_areTwins_77 : decode cX1_areTwins 77 = .ok (.aload_n 0, 1) := by decide +kernel
theorem dX1_areTwins_78 : decode cX1_areTwins 78 = .ok (.getfield 15, 3) := by decide +kernel
theorem dX1_areTwins_81 : decode cX1_areTwins 81 = .ok (.if_icmp .ge 26, 3) := by decide +kernel
theorem dX1_areTwins_84 : decode cX1_areTwins 84 = .ok (.iload_n 3, 1) := by decide +kernel
theorem dX1_areTwins_85 : decode cX1_areTwins 85 = .ok (.ifCond .eq 22, 3) := by decide +kernel
theorem dX1_areTwins_88 : decode cX1_areTwins 88 = .ok (.aload_n 0, 1) := by decide +kernel
theorem dX1_areTwins_89 : decode cX1_areTwins 89 = .ok (.getfield 39, 3) := by decide +kernel
theorem dX1_areTwins_92 : decode cX1_areTwins 92 = .ok (.iload 4, 2) := by decide +kernel
theorem dX1_areTwins_94 : decode cX1_areTwins 94 = .ok (.aaload, 1) := by decide +kernel
theorem dX1_areTwins_95 : decode cX1_areTwins 95 = .ok (.iload_n 1, 1) := by decide +kernel
theorem dX1_areTwins_96 : decode cX1_areTwins 96 = .ok (.iload_n 2, 1) := by decide +kernel
theorem dX1_areTwins_97 : decode cX1_areTwins 97 = .ok (.invokevirtual 84, 3) := by decide +kernel
theorem dX1_areTwins_100 : decode cX1_areTwins 100 = .ok (.istore_n 3, 1) := by decide +kernel
theorem dX1_areTwins_101 : decode cX1_areTwins 101 = .ok (.iinc 4 1, 3) := by decide +kernel
theorem dX1_areTwins_104 : decode cX1_areTwins 104 = .ok (.goto (-29), 3) := by decide +kernel
theorem dX1_areTwins_107 : decode cX1_areTwins 107 = .ok (.iload_n 3, 1) := by decide +kernel
theorem dX1_areTwins_108 : decode cX1_areTwins 108 = .ok (.ireturn, 1) := by decide +kernel

/-! part 24.prob -/
/-! PROBLEMS. A problem lies in 52 slots from B on -/
def PrAt (B : Nat) : Prop := ∃ p, p < 5 ∧ B = 58 + 52 * p
theorem pr_all : ∀ p, p < 5 → (58 + 52 * p + 51 < NS ∧ kd (58 + 52 * p) = 1 ∧ kd (58 + 52 * p + 1) = 8 ∧ kd (58 + 52 * p + 2) = 8 ∧ kd (58 + 52 * p + 3) = 15 ∧ kd (58 + 52 * p + 10) = 14 ∧ kd (58 + 52 * p + 11) = 8 ∧ ln (58 + 52 * p + 1) = 6 ∧ ln (58 + 52 * p + 2) = 6 ∧ ln (58 + 52 * p + 3) = 6 ∧ ln (58 + 52 * p + 10) = 8 ∧ ln (58 + 52 * p + 11) = 12) := by decide +kernel
theorem pr_o {B : Nat} (h : PrAt B) : B + 51 < NS ∧ kd B = 1 ∧ kd (B + 1) = 8 ∧ kd (B + 2) = 8 ∧ kd (B + 3) = 15 ∧ kd (B + 10) = 14 ∧ kd (B + 11) = 8 ∧ ln (B + 1) = 6 ∧ ln (B + 2) = 6 ∧ ln (B + 3) = 6 ∧ ln (B + 10) = 8 ∧ ln (B + 11) = 12 := by
  obtain ⟨p, hp, rfl⟩ := h
  exact pr_all p hp
theorem pr_rows : ∀ p, p < 5 → ∀ x, x < 6 → (kd (58 + 52 * p + 4 + x) = 8 ∧ ln (58 + 52 * p + 4 + x) = 6) := by decide +kernel
theorem pr_row {B x : Nat} (h : PrAt B) (hx : x < 6) : kd (B + 4 + x) = 8 ∧ ln (B + 4 + x) = 6 := by
  obtain ⟨p, hp, rfl⟩ := h
  exact pr_rows p hp x hx
theorem pr_rus : ∀ p, p < 5 → ∀ r, r < 8 → (58 + 52 * p + 12 + 5 * r + 4 < NS ∧ kd (58 + 52 * p + 12 + 5 * r) = 2 ∧ kd (58 + 52 * p + 12 + 5 * r + 1) = 8 ∧ kd (58 + 52 * p + 12 + 5 * r + 2) = 8 ∧ kd (58 + 52 * p + 12 + 5 * r + 3) = 11 ∧ kd (58 + 52 * p + 12 + 5 * r + 4) = 8 ∧ ln (58 + 52 * p + 12 + 5 * r + 1) = 6 ∧ ln (58 + 52 * p + 12 + 5 * r + 2) = 6 ∧ ln (58 + 52 * p + 12 + 5 * r + 3) = 6 ∧ ln (58 + 52 * p + 12 + 5 * r + 4) = 6) := by decide +kernel
theorem pr_ru {B r : Nat} (h : PrAt B) (hr : r < 8) : RuAt (B + 12 + 5 * r) := by
  obtain ⟨p, hp, rfl⟩ := h
  exact pr_rus p hp r hr
theorem pr_ge {B : Nat} (h : PrAt B) : 58 ≤ B := by obtain ⟨p, hp, rfl⟩ := h; omega
theorem ia_sz {B : Nat} (h : PrAt B) : IA (B + 1) 6 := ⟨by have := (pr_o h).1; omega, (pr_o h).2.2.1, (pr_o h).2.2.2.2.2.2.2.1⟩
def nP (I : Nat → Nat → Int32) (q : Nat) : Nat := (I q 2).toNatClampNeg
/-- a problem in order: nv variables with 1 to 6 values, nr rules -/
def PrW (I A : Nat → Nat → Int32) (B nv nr : Nat) : Prop := nv ≤ 6 ∧ nr ≤ 8 ∧ I B 0 = nI nv ∧ I B 1 = nI nr ∧ (∀ x, x < nv → ∃ s, 1 ≤ s ∧ s ≤ 6 ∧ A (B + 1) x = nI s) ∧ ∀ r, r < 8 → RuW I A (B + 12 + 5 * r) (nP I (B + 12 + 5 * r))
/-- the first from i on, within k steps (-9: none) -/
def fst1 (p : Nat → Bool) : Nat → Nat → Int32
  | 0, _ => -9
  | k + 1, i => if p i = true then nI i else fst1 p k (i + 1)
def pbr (I A : Nat → Nat → Int32) (B v i : Nat) : Bool := decide (¬ brk I A (B + 12 + 5 * i) v (B + 1) (nP I (B + 12 + 5 * i)) = 0)
/-- the first rule that the row at v breaks -/
def fbk (I A : Nat → Nat → Int32) (B v nr : Nat) : Int32 := fst1 (pbr I A B v) nr 0
theorem up2_back {α : Type} (F : Nat → Nat → α) (j k : Nat) (x : α) : up2 (up2 F j k x) j k (F j k) = F := by
  funext a b
  by_cases h : a = j ∧ b = k
  · obtain ⟨rfl, rfl⟩ := h; rw [up2_s]
  · unfold up2; rw [if_neg h, if_neg h]
theorem up2_up2 {α : Type} (F : Nat → Nat → α) (j k : Nat) (x y : α) : up2 (up2 F j k x) j k y = up2 F j k y := by
  funext a b
  by_cases h : a = j ∧ b = k
  · obtain ⟨rfl, rfl⟩ := h; rw [up2_s, up2_s]
  · unfold up2; rw [if_neg h, if_neg h, if_neg h]
theorem up2_bk {α : Type} {F : Nat → Nat → α} {j k : Nat} {x y : α} (h : F j k = y) : up2 (up2 F j k x) j k y = F := by subst h; exact up2_back F j k x
theorem RuW_A {I A : Nat → Nat → Int32} {q n v x : Nat} {t : Int32} (h : RuW I A q n) (hv : v ≠ q + 1) : RuW I (up2 A v x t) q n := ⟨h.1, h.2.1, fun i hi => by rw [up2_j (Ne.symm hv)]; exact h.2.2 i hi⟩
theorem PrW_A {I A : Nat → Nat → Int32} {B nv nr v x : Nat} {t : Int32} (h : PrW I A B nv nr) (hv : v < B) : PrW I (up2 A v x t) B nv nr := ⟨h.1, h.2.1, h.2.2.1, h.2.2.2.1, fun y hy => by rw [up2_j (by omega)]; exact h.2.2.2.2.1 y hy, fun r hr => RuW_A (h.2.2.2.2.2 r hr) (by omega)⟩
theorem in_le {x : Int32} {a b : Nat} (h : vp_in x a) (hab : a ≤ b) : vp_in x b := fun q => h (q.imp id (fun r => Nat.le_trans hab r))
theorem in_lt {x : Int32} {n N : Nat} (h0 : ¬ x < 0) (h1 : x < nI n) (hn : n ≤ N) (hN : N < 2 ^ 31) : vp_in x N := vp_in_iff.mpr ⟨by have h := Int32.not_lt.mp h0; exact Int32.le_iff_toInt_le.mp h, by have h := Int32.lt_iff_toInt_lt.mp h1; rw [nI_toInt (by omega)] at h; omega⟩

set_option maxHeartbeats 4000000 in
set_option maxRecDepth 100000 in
theorem c_X1_hasVariable (l : Launch) (D : va_G) (K : Nat → ClassId) (ad : Nat → Nat) (hap0 : apart ad (fun _ => True)) (B nv nr : Nat) (hB : PrAt B) (x : Int32) (I : Nat → Nat → Int32) (G : Nat → Nat → Nat) (A : Nat → Nat → Int32) (L : Nat → Nat → Int64) (hw : PrW I A B nv nr) : Ci l D K ad yX1_hasVariable wsX1_hasVariable 0 0 [.ref (ad B), .int x] (I, G, A, L) (fun (r : Int32) (u : Mem) => r = (if ¬ x < 0 ∧ x < nI nv then 1 else 0) ∧ u = (I, G, A, L)) := by
  intro sz
  refine Met.ofW (cc := cX1_hasVariable) (maxL := 2) (ret := (some .boolean)) (by decide) rfl ?_
  intro p e s m args below meth c s₁ Bd hml hv0
  obtain ⟨rfl, hsz, hP, hK⟩ := hv0
  have hx := Bd.exec
  have hb := Bd.bytes
  have hr := Bd.returns
  have hts := atoms_spec (ws := wsX1_hasVariable) Bd.pre
  have hown : s.vm.findClass RX1 = some m.cls := findClass_of_methodNamed Bd.named
  have hlocks := Bd.notSynchronized
  have hi1 : ∀ w ∈ u_ws RX1 TX1 9, w ∈ wsX1_hasVariable := fun w h => List.mem_cons_of_mem _ (List.mem_append_right _ h)
  subst hsz
  have hap := vF_ap hap0 s.heap.size
  have hS : va_S (vF ad s.heap.size) s.heap s.heap [] := va_S.rf
  have hP : va_P D vwCl (VW K ad I G A L) s.heap := hP
  have hl := lv_entry ([.ref (ad B), .int x]) (n := 2) (Nat.le_of_ble_eq_true rfl)
  rw [lg_entry_eq]
  generalize (lg_sl ([.ref (ad B), .int x]) ++ List.replicate (2 - (lg_sl ([.ref (ad B), .int x])).length) Slot.unset).toArray = ls at hl ⊢
  have hl : lv_has ls 2 [(0, .ref (ad B)), (1, .int x)] := hl
  have hnv : nv ≤ 6 := hw.1
  have hnr : nr ≤ 8 := hw.2.1
  have hBv : I B 0 = nI nv := hw.2.2.1
  have hBr : I B 1 = nI nr := hw.2.2.2.1
  refine lv_iload_n hx hb dX1_hasVariable_0 rfl (lv_at hl 1 rfl) ?_
  refine lv_if_lt (tgt := 16) hx hb dX1_hasVariable_1 (by decide) (fun c_1 => ?_) (fun c_1 => ?_)
  · refine lv_iconst (v := 0) hx hb dX1_hasVariable_16 (by decide) ?_
    exact W.zret (v := 0) hx hb hr (by decide) (fun t ht hW => ⟨⟨0, (I, G, A, L), rfl, ⟨by first | (simp [c_1]; done), rfl⟩, by rw [ht]; exact hP, va_K.moved hW.alike hK⟩, hS.F ht⟩) hS.2.2 dX1_hasVariable_17
  · refine lv_iload_n hx hb dX1_hasVariable_4 rfl (lv_at hl 1 rfl) ?_
    refine lv_aload_n hx hb dX1_hasVariable_5 rfl (lv_at hl 0 rfl) ?_
    refine vgI hx hb hts hi1 hown hK hP (B) (by have := (pr_o hB).1; omega) (pr_o hB).2.1 (C := RX1) (T := TX1) (N := 9) rfl 0 (by decide) (by decide) (by decide) (by decide) (hts (.fieldLink RX1 9 "CrateHelpers$Problem" "variables" "I") (by decide +kernel)) (fun _ h9 => h9) dX1_hasVariable_6 ?_
    rw [hBv]
    refine lv_icmp_ge (tgt := 16) hx hb dX1_hasVariable_9 (by decide) (fun c_2 => ?_) (fun c_2 => ?_)
    · refine lv_iconst (v := 0) hx hb dX1_hasVariable_16 (by decide) ?_
      exact W.zret (v := 0) hx hb hr (by decide) (fun t ht hW => ⟨⟨0, (I, G, A, L), rfl, ⟨by first | (simp [c_1, (Int32.not_lt.mpr c_2)]; done) | exact absurd c_1 c_2 | exact absurd c_2 c_1, rfl⟩, by rw [ht]; exact hP, va_K.moved hW.alike hK⟩, hS.F ht⟩) hS.2.2 dX1_hasVariable_17
    · refine lv_iconst (v := 1) hx hb dX1_hasVariable_12 (by decide) ?_
      refine lv_goto (tgt := 17) hx hb dX1_hasVariable_13 (by decide) ?_
      exact W.zret (v := 1) hx hb hr (by decide) (fun t ht hW => ⟨⟨1, (I, G, A, L), rfl, ⟨by first | (simp [c_1, (Int32.not_le.mp c_2)]; done) | exact absurd c_1 c_2 | exact absurd c_2 c_1, rfl⟩, by rw [ht]; exact hP, va_K.moved hW.alike hK⟩, hS.F ht⟩) hS.2.2 dX1_hasVariable_17

set_option maxHeartbeats 4000000 in
set_option maxRecDepth 100000 in
theorem c_X1_hasRule (l : Launch) (D : va_G) (K : Nat → ClassId) (ad : Nat → Nat) (hap0 : apart ad (fun _ => True)) (B nv nr : Nat) (hB : PrAt B) (x : Int32) (I : Nat → Nat → Int32) (G : Nat → Nat → Nat) (A : Nat → Nat → Int32) (L : Nat → Nat → Int64) (hw : PrW I A B nv nr) : Ci l D K ad yX1_hasRule wsX1_hasRule 0 0 [.ref (ad B), .int x] (I, G, A, L) (fun (r : Int32) (u : Mem) => r = (if ¬ x < 0 ∧ x < nI nr then 1 else 0) ∧ u = (I, G, A, L)) := by
  intro sz
  refine Met.ofW (cc := cX1_hasRule) (maxL := 2) (ret := (some .boolean)) (by decide) rfl ?_
  intro p e s m args below meth c s₁ Bd hml hv0
  obtain ⟨rfl, hsz, hP, hK⟩ := hv0
  have hx := Bd.exec
  have hb := Bd.bytes
  have hr := Bd.returns
  have hts := atoms_spec (ws := wsX1_hasRule) Bd.pre
  have hown : s.vm.findClass RX1 = some m.cls := findClass_of_methodNamed Bd.named
  have hlocks := Bd.notSynchronized
  have hi1 : ∀ w ∈ u_ws RX1 TX1 9, w ∈ wsX1_hasRule := fun w h => List.mem_cons_of_mem _ (List.mem_append_right _ h)
  subst hsz
  have hap := vF_ap hap0 s.heap.size
  have hS : va_S (vF ad s.heap.size) s.heap s.heap [] := va_S.rf
  have hP : va_P D vwCl (VW K ad I G A L) s.heap := hP
  have hl := lv_entry ([.ref (ad B), .int x]) (n := 2) (Nat.le_of_ble_eq_true rfl)
  rw [lg_entry_eq]
  generalize (lg_sl ([.ref (ad B), .int x]) ++ List.replicate (2 - (lg_sl ([.ref (ad B), .int x])).length) Slot.unset).toArray = ls at hl ⊢
  have hl : lv_has ls 2 [(0, .ref (ad B)), (1, .int x)] := hl
  have hnv : nv ≤ 6 := hw.1
  have hnr : nr ≤ 8 := hw.2.1
  have hBv : I B 0 = nI nv := hw.2.2.1
  have hBr : I B 1 = nI nr := hw.2.2.2.1
  refine lv_iload_n hx hb dX1_hasRule_0 rfl (lv_at hl 1 rfl) ?_
  refine lv_if_lt (tgt := 16) hx hb dX1_hasRule_1 (by decide) (fun c_1 => ?_) (fun c_1 => ?_)
  · refine lv_iconst (v := 0) hx hb dX1_hasRule_16 (by decide) ?_
    exact W.zret (v := 0) hx hb hr (by decide) (fun t ht hW => ⟨⟨0, (I, G, A, L), rfl, ⟨by first | (simp [c_1]; done), rfl⟩, by rw [ht]; exact hP, va_K.moved hW.alike hK⟩, hS.F ht⟩) hS.2.2 dX1_hasRule_17
  · refine lv_iload_n hx hb dX1_hasRule_4 rfl (lv_at hl 1 rfl) ?_
    refine lv_aload_n hx hb dX1_hasRule_5 rfl (lv_at hl 0 rfl) ?_
    refine vgI hx hb hts hi1 hown hK hP (B) (by have := (pr_o hB).1; omega) (pr_o hB).2.1 (C := RX1) (T := TX1) (N := 9) rfl 1 (by decide) (by decide) (by decide) (by decide) (hts (.fieldLink RX1 15 "CrateHelpers$Problem" "ruleCount" "I") (by decide +kernel)) (fun _ h9 => h9) dX1_hasRule_6 ?_
    rw [hBr]
    refine lv_icmp_ge (tgt := 16) hx hb dX1_hasRule_9 (by decide) (fun c_2 => ?_) (fun c_2 => ?_)
    · refine lv_iconst (v := 0) hx hb dX1_hasRule_16 (by decide) ?_
      exact W.zret (v := 0) hx hb hr (by decide) (fun t ht hW => ⟨⟨0, (I, G, A, L), rfl, ⟨by first | (simp [c_1, (Int32.not_lt.mpr c_2)]; done) | exact absurd c_1 c_2 | exact absurd c_2 c_1, rfl⟩, by rw [ht]; exact hP, va_K.moved hW.alike hK⟩, hS.F ht⟩) hS.2.2 dX1_hasRule_17
    · refine lv_iconst (v := 1) hx hb dX1_hasRule_12 (by decide) ?_
      refine lv_goto (tgt := 17) hx hb dX1_hasRule_13 (by decide) ?_
      exact W.zret (v := 1) hx hb hr (by decide) (fun t ht hW => ⟨⟨1, (I, G, A, L), rfl, ⟨by first | (simp [c_1, (Int32.not_le.mp c_2)]; done) | exact absurd c_1 c_2 | exact absurd c_2 c_1, rfl⟩, by rw [ht]; exact hP, va_K.moved hW.alike hK⟩, hS.F ht⟩) hS.2.2 dX1_hasRule_17

set_option maxHeartbeats 4000000 in
set_option maxRecDepth 100000 in
theorem c_X1_hasValue (l : Launch) (D : va_G) (K : Nat → ClassId) (ad : Nat → Nat) (hap0 : apart ad (fun _ => True)) (B nv nr : Nat) (hB : PrAt B) (x y : Int32) (I : Nat → Nat → Int32) (G : Nat → Nat → Nat) (A : Nat → Nat → Int32) (L : Nat → Nat → Int64) (hw : PrW I A B nv nr) : Ci l D K ad yX1_hasValue wsX1_hasValue 1 40 [.ref (ad B), .int x, .int y] (I, G, A, L) (fun (r : Int32) (u : Mem) => r = (if (¬ x < 0 ∧ x < nI nv) ∧ ¬ y < 0 ∧ y < A (B + 1) x.toNatClampNeg then 1 else 0) ∧ u = (I, G, A, L)) := by
  intro sz
  refine Met.ofW (cc := cX1_hasValue) (maxL := 3) (ret := (some .boolean)) (by decide) rfl ?_
  intro p e s m args below meth c s₁ Bd hml hv0
  obtain ⟨rfl, hsz, hP, hK⟩ := hv0
  have hx := Bd.exec
  have hb := Bd.bytes
  have hr := Bd.returns
  have hts := atoms_spec (ws := wsX1_hasValue) Bd.pre
  have hown : s.vm.findClass RX1 = some m.cls := findClass_of_methodNamed Bd.named
  have hlocks := Bd.notSynchronized
  have hi1 : ∀ w ∈ u_ws RX1 TX1 9, w ∈ wsX1_hasValue := fun w h => List.mem_cons_of_mem _ (List.mem_append_right _ h)
  subst hsz
  have hap := vF_ap hap0 s.heap.size
  have hS : va_S (vF ad s.heap.size) s.heap s.heap [] := va_S.rf
  have hP : va_P D vwCl (VW K ad I G A L) s.heap := hP
  have hl := lv_entry ([.ref (ad B), .int x, .int y]) (n := 3) (Nat.le_of_ble_eq_true rfl)
  rw [lg_entry_eq]
  generalize (lg_sl ([.ref (ad B), .int x, .int y]) ++ List.replicate (3 - (lg_sl ([.ref (ad B), .int x, .int y])).length) Slot.unset).toArray = ls at hl ⊢
  have hl : lv_has ls 3 [(0, .ref (ad B)), (1, .int x), (2, .int y)] := hl
  have hnv : nv ≤ 6 := hw.1
  have hnr : nr ≤ 8 := hw.2.1
  have hBv : I B 0 = nI nv := hw.2.2.1
  have hBr : I B 1 = nI nr := hw.2.2.2.1
  refine lv_aload_n hx hb dX1_hasValue_0 rfl (lv_at hl 0 rfl) ?_
  refine lv_iload_n hx hb dX1_hasValue_1 rfl (lv_at hl 1 rfl) ?_
  refine vcV (As := [.int x]) (rest := []) ⟨hx, hb, hml, hown, hts⟩ (c_X1_hasVariable l D K ad hap0 B nv nr hB x I G A L hw) (cwV 1 hts gX1_hasValue_X1_hasVariable rfl rfl rfl (by decide +kernel) ⟨Nat.le_of_ble_eq_true rfl, Nat.le_of_ble_eq_true rfl⟩) hK hP hS (by have := (pr_o hB).1; omega) (pr_o hB).2.1 (by decide) rfl rfl rfl hl.1 (Nat.le_of_ble_eq_true rfl) (Nat.le_of_ble_eq_true rfl) (Nat.le_of_ble_eq_true rfl) dX1_hasValue_2 (fun r1 u2 H locs hw hP hS => ?_) rfl
  obtain ⟨hr1, rfl⟩ := hw
  have hP : va_P D vwCl (VW K ad I G A L) H := hP
  subst hr1
  by_cases hxv : ¬ x < 0 ∧ x < nI nv
  · rw [if_pos hxv]
    have hx1 : vp_in x (ln (B + 1)) := by rw [(pr_o hB).2.2.2.2.2.2.2.1]; exact in_lt hxv.1 hxv.2 hnv (by decide)
    refine lv_if_eq (tgt := 26) hx hb dX1_hasValue_5 (by decide) (fun c_3 => absurd c_3 (by decide)) (fun _ => ?_)
    refine lv_iload_n hx hb dX1_hasValue_8 rfl (lv_at hl 2 rfl) ?_
    refine lv_if_lt (tgt := 26) hx hb dX1_hasValue_9 (by decide) (fun c_4 => ?_) (fun c_4 => ?_)
    · refine lv_iconst (v := 0) hx hb dX1_hasValue_26 (by decide) ?_
      exact W.zret (v := 0) hx hb hr (by decide) (fun t ht hW => ⟨⟨0, (I, G, A, L), rfl, ⟨by first | (simp [hxv, c_4]; done), rfl⟩, by rw [ht]; exact hP, va_K.moved hW.alike hK⟩, hS.F ht⟩) hS.2.2 dX1_hasValue_27
    · refine lv_iload_n hx hb dX1_hasValue_12 rfl (lv_at hl 2 rfl) ?_
      refine lv_aload_n hx hb dX1_hasValue_13 rfl (lv_at hl 0 rfl) ?_
      refine vgS hx hb hts hi1 hown hK hP (B) (by have := (pr_o hB).1; omega) (pr_o hB).2.1 (C := RX1) (T := TX1) (N := 9) rfl 4 (by decide) (by decide) (by decide) (by decide) (B + 1) rfl (hts (.fieldLink RX1 25 "CrateHelpers$Problem" "sizes" "[I") (by decide +kernel)) (fun _ h9 => h9) dX1_hasValue_14 ?_
      refine lv_iload_n hx hb dX1_hasValue_17 rfl (lv_at hl 1 rfl) ?_
      refine xiald hx hb hK hP (B + 1) (by have := (pr_o hB).1; omega) (pr_o hB).2.2.1 hx1 dX1_hasValue_18 ?_
      refine lv_icmp_ge (tgt := 26) hx hb dX1_hasValue_19 (by decide) (fun c_5 => ?_) (fun c_5 => ?_)
      · refine lv_iconst (v := 0) hx hb dX1_hasValue_26 (by decide) ?_
        exact W.zret (v := 0) hx hb hr (by decide) (fun t ht hW => ⟨⟨0, (I, G, A, L), rfl, ⟨by first | (simp [hxv, c_4, (Int32.not_lt.mpr c_5)]; done) | exact absurd c_4 c_5 | exact absurd c_5 c_4, rfl⟩, by rw [ht]; exact hP, va_K.moved hW.alike hK⟩, hS.F ht⟩) hS.2.2 dX1_hasValue_27
      · refine lv_iconst (v := 1) hx hb dX1_hasValue_22 (by decide) ?_
        refine lv_goto (tgt := 27) hx hb dX1_hasValue_23 (by decide) ?_
        exact W.zret (v := 1) hx hb hr (by decide) (fun t ht hW => ⟨⟨1, (I, G, A, L), rfl, ⟨by first | (simp [hxv, c_4, (Int32.not_le.mp c_5)]; done) | exact absurd c_4 c_5 | exact absurd c_5 c_4, rfl⟩, by rw [ht]; exact hP, va_K.moved hW.alike hK⟩, hS.F ht⟩) hS.2.2 dX1_hasValue_27
  · rw [if_neg hxv]
    refine lv_if_eq (tgt := 26) hx hb dX1_hasValue_5 (by decide) (fun _ => ?_) (fun c_6 => absurd c_6 (by decide))
    refine lv_iconst (v := 0) hx hb dX1_hasValue_26 (by decide) ?_
    exact W.zret (v := 0) hx hb hr (by decide) (fun t ht hW => ⟨⟨0, (I, G, A, L), rfl, ⟨(if_neg (fun h => hxv h.1)).symm, rfl⟩, by rw [ht]; exact hP, va_K.moved hW.alike hK⟩, hS.F ht⟩) hS.2.2 dX1_hasValue_27

set_option maxHeartbeats 4000000 in
set_option maxRecDepth 100000 in
theorem c_X1_change (l : Launch) (D : va_G) (K : Nat → ClassId) (ad : Nat → Nat) (hap0 : apart ad (fun _ => True)) (B : Nat) (hB : PrAt B) (I : Nat → Nat → Int32) (G : Nat → Nat → Nat) (A : Nat → Nat → Int32) (L : Nat → Nat → Int64)  : Cv l D K ad yX1_change wsX1_change 0 0 [.ref (ad B)] (I, G, A, L) (fun (u : Mem) => u = (up2 (up2 I B 2 (I B 2 + 1)) B 3 0, G, A, L)) := by
  intro sz
  refine Met.ofW (cc := cX1_change) (maxL := 1) (ret := none) (by decide) rfl ?_
  intro p e s m args below meth c s₁ Bd hml hv0
  obtain ⟨rfl, hsz, hP, hK⟩ := hv0
  have hx := Bd.exec
  have hb := Bd.bytes
  have hr := Bd.returns
  have hts := atoms_spec (ws := wsX1_change) Bd.pre
  have hown : s.vm.findClass RX1 = some m.cls := findClass_of_methodNamed Bd.named
  have hlocks := Bd.notSynchronized
  have hi1 : ∀ w ∈ u_ws RX1 TX1 9, w ∈ wsX1_change := fun w h => List.mem_cons_of_mem _ (List.mem_append_right _ h)
  subst hsz
  have hap := vF_ap hap0 s.heap.size
  have hS : va_S (vF ad s.heap.size) s.heap s.heap [] := va_S.rf
  have hP : va_P D vwCl (VW K ad I G A L) s.heap := hP
  have hl := lv_entry ([.ref (ad B)]) (n := 1) (Nat.le_of_ble_eq_true rfl)
  rw [lg_entry_eq]
  generalize (lg_sl ([.ref (ad B)]) ++ List.replicate (1 - (lg_sl ([.ref (ad B)])).length) Slot.unset).toArray = ls at hl ⊢
  have hl : lv_has ls 1 [(0, .ref (ad B))] := hl
  refine lv_aload_n hx hb dX1_change_0 rfl (lv_at hl 0 rfl) ?_
  refine lv_dup hx hb dX1_change_1 rfl ?_
  refine vgI hx hb hts hi1 hown hK hP (B) (by have := (pr_o hB).1; omega) (pr_o hB).2.1 (C := RX1) (T := TX1) (N := 9) rfl 2 (by decide) (by decide) (by decide) (by decide) (hts (.fieldLink RX1 18 "CrateHelpers$Problem" "changes" "I") (by decide +kernel)) (fun _ h9 => h9) dX1_change_2 ?_
  refine lv_iconst (v := 1) hx hb dX1_change_5 (by decide) ?_
  refine lv_iadd hx hb dX1_change_6 ?_
  refine vpI (v := ((I B 2) + 1)) (ty := .int) hx hb hts hi1 tyX1 tyX1_ok nmX1 hown hK hP hap hS (B) (by have := (pr_o hB).1; omega) (pr_o hB).2.1 (C := RX1) (T := TX1) (N := 9) rfl 2 (by decide) (by decide) (by decide) (by decide) (hts (.fieldLink RX1 18 "CrateHelpers$Problem" "changes" "I") (by decide +kernel)) (fun _ h9 => h9) rfl (by decide +kernel) rfl rfl dX1_change_7 (fun H locs hP hS => ?_)
  obtain ⟨I1, eI1⟩ : ∃ z, z = up2 I B 2 ((I B 2) + 1) := ⟨_, rfl⟩
  rw [← eI1] at hP
  have hP : va_P D vwCl (VW K ad I1 G A L) H := hP
  refine lv_aload_n hx hb dX1_change_10 rfl (lv_at hl 0 rfl) ?_
  refine lv_iconst (v := 0) hx hb dX1_change_11 (by decide) ?_
  refine vpI (v := 0) (ty := .boolean) hx hb hts hi1 tyX1 tyX1_ok nmX1 hown hK hP hap hS (B) (by have := (pr_o hB).1; omega) (pr_o hB).2.1 (C := RX1) (T := TX1) (N := 9) rfl 3 (by decide) (by decide) (by decide) (by decide) (hts (.fieldLink RX1 21 "CrateHelpers$Problem" "hasEnded" "Z") (by decide +kernel)) (fun _ h9 => h9) rfl (by decide +kernel) rfl rfl dX1_change_12 (fun H locs hP hS => ?_)
  obtain ⟨I2, eI2⟩ : ∃ z, z = up2 I1 B 3 0 := ⟨_, rfl⟩
  rw [← eI2] at hP
  have hP : va_P D vwCl (VW K ad I2 G A L) H := hP
  exact W.vret hx hb hr (fun t ht hW => ⟨⟨(I2, G, A, L), rfl, by rw [eI2, eI1], by rw [ht]; exact hP, va_K.moved hW.alike hK⟩, hS.F ht⟩) hS.2.2 dX1_change_15

set_option maxHeartbeats 4000000 in
set_option maxRecDepth 100000 in
theorem c_X1_addVariable (l : Launch) (D : va_G) (K : Nat → ClassId) (ad : Nat → Nat) (hap0 : apart ad (fun _ => True)) (B nv nr : Nat) (hB : PrAt B) (n k : Int32) (h6 : nv < 6) (I : Nat → Nat → Int32) (G : Nat → Nat → Nat) (A : Nat → Nat → Int32) (L : Nat → Nat → Int64) (hw : PrW I A B nv nr) : Ci l D K ad yX1_addVariable wsX1_addVariable 1 40 [.ref (ad B), .int n, .int k] (I, G, A, L) (fun (r : Int32) (u : Mem) => r = nI nv ∧ u = (up2 (up2 (up2 I B 2 (I B 2 + 1)) B 3 0) B 0 (nI nv + 1), G, up2 (up2 A (B + 1) nv n) (B + 2) nv k, L)) := by
  intro sz
  refine Met.ofW (cc := cX1_addVariable) (maxL := 3) (ret := (some .int)) (by decide) rfl ?_
  intro p e s m args below meth c s₁ Bd hml hv0
  obtain ⟨rfl, hsz, hP, hK⟩ := hv0
  have hx := Bd.exec
  have hb := Bd.bytes
  have hr := Bd.returns
  have hts := atoms_spec (ws := wsX1_addVariable) Bd.pre
  have hown : s.vm.findClass RX1 = some m.cls := findClass_of_methodNamed Bd.named
  have hlocks := Bd.notSynchronized
  have hi1 : ∀ w ∈ u_ws RX1 TX1 9, w ∈ wsX1_addVariable := fun w h => List.mem_cons_of_mem _ (List.mem_append_right _ h)
  subst hsz
  have hap := vF_ap hap0 s.heap.size
  have hS : va_S (vF ad s.heap.size) s.heap s.heap [] := va_S.rf
  have hP : va_P D vwCl (VW K ad I G A L) s.heap := hP
  have hl := lv_entry ([.ref (ad B), .int n, .int k]) (n := 3) (Nat.le_of_ble_eq_true rfl)
  rw [lg_entry_eq]
  generalize (lg_sl ([.ref (ad B), .int n, .int k]) ++ List.replicate (3 - (lg_sl ([.ref (ad B), .int n, .int k])).length) Slot.unset).toArray = ls at hl ⊢
  have hl : lv_has ls 3 [(0, .ref (ad B)), (1, .int n), (2, .int k)] := hl
  have hnv : nv ≤ 6 := hw.1
  have hnr : nr ≤ 8 := hw.2.1
  have hBv : I B 0 = nI nv := hw.2.2.1
  have hBr : I B 1 = nI nr := hw.2.2.2.1
  have hin1 : vp_in (nI nv) (ln (B + 1)) := by rw [(pr_o hB).2.2.2.2.2.2.2.1]; exact vp_in_nI h6 (by omega)
  have hi2n : vp_in (nI nv) (ln (B + 2)) := by rw [(pr_o hB).2.2.2.2.2.2.2.2.1]; exact vp_in_nI h6 (by omega)
  refine lv_aload_n hx hb dX1_addVariable_0 rfl (lv_at hl 0 rfl) ?_
  refine vcVv (As := []) (rest := []) ⟨hx, hb, hml, hown, hts⟩ (c_X1_change l D K ad hap0 B hB I G A L) (cwV 0 hts gX1_addVariable_X1_change rfl rfl rfl (by decide +kernel) ⟨Nat.le_of_ble_eq_true rfl, Nat.le_of_ble_eq_true rfl⟩) hK hP hS (by have := (pr_o hB).1; omega) (pr_o hB).2.1 (by decide) rfl rfl rfl hl.1 (Nat.le_of_ble_eq_true rfl) (Nat.le_of_ble_eq_true rfl) (Nat.le_of_ble_eq_true rfl) dX1_addVariable_1 (fun u2 H locs hw hP hS => ?_) rfl
  obtain ⟨I3, G4, A5, L6⟩ := u2
  have hP : va_P D vwCl (VW K ad I3 G4 A5 L6) H := hP
  injection hw with h1 h2
  injection h2 with h2 h3
  injection h3 with h3 h4
  rw [h2, h3, h4] at hP
  have eI3 : I3 = up2 (up2 I B 2 (I B 2 + 1)) B 3 0 := h1
  have hP : va_P D vwCl (VW K ad I3 G A L) H := hP
  have hBv9 : I3 B 0 = nI nv := by rw [eI3, up2_k (by decide), up2_k (by decide)]; exact hBv
  have hBr9 : I3 B 1 = nI nr := by rw [eI3, up2_k (by decide), up2_k (by decide)]; exact hBr
  refine lv_aload_n hx hb dX1_addVariable_4 rfl (lv_at hl 0 rfl) ?_
  refine vgS hx hb hts hi1 hown hK hP (B) (by have := (pr_o hB).1; omega) (pr_o hB).2.1 (C := RX1) (T := TX1) (N := 9) rfl 4 (by decide) (by decide) (by decide) (by decide) (B + 1) rfl (hts (.fieldLink RX1 25 "CrateHelpers$Problem" "sizes" "[I") (by decide +kernel)) (fun _ h9 => h9) dX1_addVariable_5 ?_
  refine lv_aload_n hx hb dX1_addVariable_8 rfl (lv_at hl 0 rfl) ?_
  refine vgI hx hb hts hi1 hown hK hP (B) (by have := (pr_o hB).1; omega) (pr_o hB).2.1 (C := RX1) (T := TX1) (N := 9) rfl 0 (by decide) (by decide) (by decide) (by decide) (hts (.fieldLink RX1 9 "CrateHelpers$Problem" "variables" "I") (by decide +kernel)) (fun _ h9 => h9) dX1_addVariable_9 ?_
  rw [hBv9]
  refine lv_iload_n hx hb dX1_addVariable_12 rfl (lv_at hl 1 rfl) ?_
  refine xiast hx hb hK hP hap hS (B + 1) (by have := (pr_o hB).1; omega) (pr_o hB).2.2.1 hin1 dX1_addVariable_13 (fun H locs hP hS => ?_)
  rw [nI_clamp (n := nv) (by omega)] at hP
  obtain ⟨A7, eA7⟩ : ∃ z, z = up2 A (B + 1) nv n := ⟨_, rfl⟩
  rw [← eA7] at hP
  have hP : va_P D vwCl (VW K ad I3 G A7 L) H := hP
  refine lv_aload_n hx hb dX1_addVariable_14 rfl (lv_at hl 0 rfl) ?_
  refine vgS hx hb hts hi1 hown hK hP (B) (by have := (pr_o hB).1; omega) (pr_o hB).2.1 (C := RX1) (T := TX1) (N := 9) rfl 5 (by decide) (by decide) (by decide) (by decide) (B + 2) rfl (hts (.fieldLink RX1 29 "CrateHelpers$Problem" "kinds" "[I") (by decide +kernel)) (fun _ h9 => h9) dX1_addVariable_15 ?_
  refine lv_aload_n hx hb dX1_addVariable_18 rfl (lv_at hl 0 rfl) ?_
  refine vgI hx hb hts hi1 hown hK hP (B) (by have := (pr_o hB).1; omega) (pr_o hB).2.1 (C := RX1) (T := TX1) (N := 9) rfl 0 (by decide) (by decide) (by decide) (by decide) (hts (.fieldLink RX1 9 "CrateHelpers$Problem" "variables" "I") (by decide +kernel)) (fun _ h9 => h9) dX1_addVariable_19 ?_
  rw [hBv9]
  refine lv_iload_n hx hb dX1_addVariable_22 rfl (lv_at hl 2 rfl) ?_
  refine xiast hx hb hK hP hap hS (B + 2) (by have := (pr_o hB).1; omega) (pr_o hB).2.2.2.1 hi2n dX1_addVariable_23 (fun H locs hP hS => ?_)
  rw [nI_clamp (n := nv) (by omega)] at hP
  obtain ⟨A8, eA8⟩ : ∃ z, z = up2 A7 (B + 2) nv k := ⟨_, rfl⟩
  rw [← eA8] at hP
  have hP : va_P D vwCl (VW K ad I3 G A8 L) H := hP
  refine lv_aload_n hx hb dX1_addVariable_24 rfl (lv_at hl 0 rfl) ?_
  refine lv_dup hx hb dX1_addVariable_25 rfl ?_
  refine vgI hx hb hts hi1 hown hK hP (B) (by have := (pr_o hB).1; omega) (pr_o hB).2.1 (C := RX1) (T := TX1) (N := 9) rfl 0 (by decide) (by decide) (by decide) (by decide) (hts (.fieldLink RX1 9 "CrateHelpers$Problem" "variables" "I") (by decide +kernel)) (fun _ h9 => h9) dX1_addVariable_26 ?_
  rw [hBv9]
  refine lv_dup_x1 hx hb dX1_addVariable_29 rfl rfl ?_
  refine lv_iconst (v := 1) hx hb dX1_addVariable_30 (by decide) ?_
  refine lv_iadd hx hb dX1_addVariable_31 ?_
  refine vpI (v := ((nI nv) + 1)) (ty := .int) hx hb hts hi1 tyX1 tyX1_ok nmX1 hown hK hP hap hS (B) (by have := (pr_o hB).1; omega) (pr_o hB).2.1 (C := RX1) (T := TX1) (N := 9) rfl 0 (by decide) (by decide) (by decide) (by decide) (hts (.fieldLink RX1 9 "CrateHelpers$Problem" "variables" "I") (by decide +kernel)) (fun _ h9 => h9) rfl (by decide +kernel) rfl rfl dX1_addVariable_32 (fun H locs hP hS => ?_)
  obtain ⟨I9, eI9⟩ : ∃ z, z = up2 I3 B 0 ((nI nv) + 1) := ⟨_, rfl⟩
  rw [← eI9] at hP
  have hP : va_P D vwCl (VW K ad I9 G A8 L) H := hP
  exact W.iret (v := (nI nv)) hx hb hr (fun t ht hW => ⟨⟨(nI nv), (I9, G, A8, L), rfl, ⟨rfl, by rw [eI9, eA8, eA7, eI3]⟩, by rw [ht]; exact hP, va_K.moved hW.alike hK⟩, hS.F ht⟩) hS.2.2 dX1_addVariable_35

theorem sw_ne2 {x : Int32} (h : x.toInt < 0 ∨ 2 < x.toInt) : ¬ x = 0 ∧ ¬ x = 1 ∧ ¬ x = 2 := by
  refine ⟨?_, ?_, ?_⟩ <;> (rintro rfl; revert h; decide)

set_option maxHeartbeats 4000000 in
set_option maxRecDepth 100000 in
theorem c_X1_setCost (l : Launch) (D : va_G) (K : Nat → ClassId) (ad : Nat → Nat) (hap0 : apart ad (fun _ => True)) (B nv nr : Nat) (hB : PrAt B) (x y : Nat) (w : Int32) (hx6 : x < 6) (hy6 : y < 6) (I : Nat → Nat → Int32) (G : Nat → Nat → Nat) (A : Nat → Nat → Int32) (L : Nat → Nat → Int64) (hw : PrW I A B nv nr) : Ci l D K ad yX1_setCost wsX1_setCost 1 40 [.ref (ad B), .int (nI x), .int (nI y), .int w] (I, G, A, L) (fun (r : Int32) (u : Mem) => r = (if A (B + 2) x = 0 then w.toInt8.toInt32 else if A (B + 2) x = 1 then w.toInt16.toInt32 else if A (B + 2) x = 2 then (w.toUInt32 % 65536).toInt32 else w) ∧ u = (up2 (up2 I B 2 (I B 2 + 1)) B 3 0, G, up2 A (B + 4 + x) y (if A (B + 2) x = 0 then w.toInt8.toInt32 else if A (B + 2) x = 1 then w.toInt16.toInt32 else if A (B + 2) x = 2 then (w.toUInt32 % 65536).toInt32 else w), L)) := by
  intro sz
  refine Met.ofW (cc := cX1_setCost) (maxL := 5) (ret := (some .int)) (by decide) rfl ?_
  intro p e s m args below meth c s₁ Bd hml hv0
  obtain ⟨rfl, hsz, hP, hK⟩ := hv0
  have hx := Bd.exec
  have hb := Bd.bytes
  have hr := Bd.returns
  have hts := atoms_spec (ws := wsX1_setCost) Bd.pre
  have hown : s.vm.findClass RX1 = some m.cls := findClass_of_methodNamed Bd.named
  have hlocks := Bd.notSynchronized
  have hi1 : ∀ w ∈ u_ws RX1 TX1 9, w ∈ wsX1_setCost := fun w h => List.mem_cons_of_mem _ (List.mem_append_right _ h)
  subst hsz
  have hap := vF_ap hap0 s.heap.size
  have hS : va_S (vF ad s.heap.size) s.heap s.heap [] := va_S.rf
  have hP : va_P D vwCl (VW K ad I G A L) s.heap := hP
  have hl := lv_entry ([.ref (ad B), .int (nI x), .int (nI y), .int w]) (n := 5) (Nat.le_of_ble_eq_true rfl)
  rw [lg_entry_eq]
  generalize (lg_sl ([.ref (ad B), .int (nI x), .int (nI y), .int w]) ++ List.replicate (5 - (lg_sl ([.ref (ad B), .int (nI x), .int (nI y), .int w])).length) Slot.unset).toArray = ls at hl ⊢
  have hl : lv_has ls 5 [(0, .ref (ad B)), (1, .int (nI x)), (2, .int (nI y)), (3, .int w)] := hl
  have hnv : nv ≤ 6 := hw.1
  have hnr : nr ≤ 8 := hw.2.1
  have hBv : I B 0 = nI nv := hw.2.2.1
  have hBr : I B 1 = nI nr := hw.2.2.2.1
  have hin2 : vp_in (nI x) (ln (B + 2)) := by rw [(pr_o hB).2.2.2.2.2.2.2.2.1]; exact vp_in_nI hx6 (by omega)
  have hin3 : vp_in (nI x) (ln (B + 3)) := by rw [(pr_o hB).2.2.2.2.2.2.2.2.2.1]; exact vp_in_nI hx6 (by omega)
  have hin4 : vp_in (nI y) (ln (B + 4 + x)) := by rw [(pr_row hB hx6).2]; exact vp_in_nI hy6 (by omega)
  refine lv_aload_n hx hb dX1_setCost_0 rfl (lv_at hl 0 rfl) ?_
  refine vcVv (As := []) (rest := []) ⟨hx, hb, hml, hown, hts⟩ (c_X1_change l D K ad hap0 B hB I G A L) (cwV 0 hts gX1_setCost_X1_change rfl rfl rfl (by decide +kernel) ⟨Nat.le_of_ble_eq_true rfl, Nat.le_of_ble_eq_true rfl⟩) hK hP hS (by have := (pr_o hB).1; omega) (pr_o hB).2.1 (by decide) rfl rfl rfl hl.1 (Nat.le_of_ble_eq_true rfl) (Nat.le_of_ble_eq_true rfl) (Nat.le_of_ble_eq_true rfl) dX1_setCost_1 (fun u2 H locs hw hP hS => ?_) rfl
  obtain ⟨I3, G4, A5, L6⟩ := u2
  have hP : va_P D vwCl (VW K ad I3 G4 A5 L6) H := hP
  injection hw with h1 h2
  injection h2 with h2 h3
  injection h3 with h3 h4
  rw [h2, h3, h4] at hP
  have eI3 : I3 = up2 (up2 I B 2 (I B 2 + 1)) B 3 0 := h1
  have hP : va_P D vwCl (VW K ad I3 G A L) H := hP
  have hBv9 : I3 B 0 = nI nv := by rw [eI3, up2_k (by decide), up2_k (by decide)]; exact hBv
  have hBr9 : I3 B 1 = nI nr := by rw [eI3, up2_k (by decide), up2_k (by decide)]; exact hBr
  refine lv_iload_n hx hb dX1_setCost_4 rfl (lv_at hl 3 rfl) ?_
  refine lv_istore (lv' := [(4, .int w), (0, .ref (ad B)), (1, .int (nI x)), (2, .int (nI y)), (3, .int w)]) hx hb dX1_setCost_5 hl (by decide) rfl (fun ls hl => ?_)
  refine lv_aload_n hx hb dX1_setCost_7 rfl (lv_at hl 1 rfl) ?_
  refine vgS hx hb hts hi1 hown hK hP (B) (by have := (pr_o hB).1; omega) (pr_o hB).2.1 (C := RX1) (T := TX1) (N := 9) rfl 5 (by decide) (by decide) (by decide) (by decide) (B + 2) rfl (hts (.fieldLink RX1 29 "CrateHelpers$Problem" "kinds" "[I") (by decide +kernel)) (fun _ h9 => h9) dX1_setCost_8 ?_
  refine lv_iload_n hx hb dX1_setCost_11 rfl (lv_at hl 2 rfl) ?_
  refine xiald hx hb hK hP (B + 2) (by have := (pr_o hB).1; omega) (pr_o hB).2.2.2.1 hin2 dX1_setCost_12 ?_
  rw [nI_clamp (n := x) (by omega)]
  rcases sw_2 (A (B + 2) x) with hs7 | hs7 | hs7 | hs7
  · rw [hs7]
    refine lv_tableIn (off := 27) (tgt := 40) hx hb dX1_setCost_13 (by decide) (by decide) (by decide) (by decide) ?_
    refine lv_iload_n hx hb dX1_setCost_40 rfl (lv_at hl 4 rfl) ?_
    refine lv_i2b hx hb dX1_setCost_41 rfl ?_
    refine lv_istore (lv' := [(4, .int w.toInt8.toInt32), (0, .ref (ad B)), (1, .int (nI x)), (2, .int (nI y)), (3, .int w)]) hx hb dX1_setCost_42 hl (by decide) rfl (fun ls hl => ?_)
    refine lv_goto (tgt := 61) hx hb dX1_setCost_44 (by decide) ?_
    refine lv_aload_n hx hb dX1_setCost_61 rfl (lv_at hl 1 rfl) ?_
    refine vgS hx hb hts hi1 hown hK hP (B) (by have := (pr_o hB).1; omega) (pr_o hB).2.1 (C := RX1) (T := TX1) (N := 9) rfl 6 (by decide) (by decide) (by decide) (by decide) (B + 3) rfl (hts (.fieldLink RX1 34 "CrateHelpers$Problem" "prices" "[[I") (by decide +kernel)) (fun _ h9 => h9) dX1_setCost_62 ?_
    refine lv_iload_n hx hb dX1_setCost_65 rfl (lv_at hl 2 rfl) ?_
    refine xgald hx hb hK hP (B + 3) (by have := (pr_o hB).1; omega) (pr_o hB).2.2.2.2.1 hin3 (B + 4 + x) (by rw [rf15 (pr_o hB).2.2.2.2.1]; rw [nI_clamp (by omega)]) dX1_setCost_66 ?_
    refine lv_iload_n hx hb dX1_setCost_67 rfl (lv_at hl 3 rfl) ?_
    refine lv_iload hx hb dX1_setCost_68 (lv_at hl 0 rfl) ?_
    refine xiast hx hb hK hP hap hS (B + 4 + x) (by have := (pr_o hB).1; omega) (pr_row hB hx6).1 hin4 dX1_setCost_70 (fun H locs hP hS => ?_)
    rw [nI_clamp (n := y) (by omega)] at hP
    obtain ⟨A8, eA8⟩ : ∃ z, z = up2 A (B + 4 + x) y w.toInt8.toInt32 := ⟨_, rfl⟩
    rw [← eA8] at hP
    have hP : va_P D vwCl (VW K ad I3 G A8 L) H := hP
    refine lv_iload hx hb dX1_setCost_71 (lv_at hl 0 rfl) ?_
    exact W.iret (v := w.toInt8.toInt32) hx hb hr (fun t ht hW => ⟨⟨w.toInt8.toInt32, (I3, G, A8, L), rfl, ⟨by simp [hs7], by rw [eA8, eI3]; simp [hs7]⟩, by rw [ht]; exact hP, va_K.moved hW.alike hK⟩, hS.F ht⟩) hS.2.2 dX1_setCost_73
  · rw [hs7]
    refine lv_tableIn (off := 34) (tgt := 47) hx hb dX1_setCost_13 (by decide) (by decide) (by decide) (by decide) ?_
    refine lv_iload_n hx hb dX1_setCost_47 rfl (lv_at hl 4 rfl) ?_
    refine lv_i2s hx hb dX1_setCost_48 rfl ?_
    refine lv_istore (lv' := [(4, .int w.toInt16.toInt32), (0, .ref (ad B)), (1, .int (nI x)), (2, .int (nI y)), (3, .int w)]) hx hb dX1_setCost_49 hl (by decide) rfl (fun ls hl => ?_)
    refine lv_goto (tgt := 61) hx hb dX1_setCost_51 (by decide) ?_
    refine lv_aload_n hx hb dX1_setCost_61 rfl (lv_at hl 1 rfl) ?_
    refine vgS hx hb hts hi1 hown hK hP (B) (by have := (pr_o hB).1; omega) (pr_o hB).2.1 (C := RX1) (T := TX1) (N := 9) rfl 6 (by decide) (by decide) (by decide) (by decide) (B + 3) rfl (hts (.fieldLink RX1 34 "CrateHelpers$Problem" "prices" "[[I") (by decide +kernel)) (fun _ h9 => h9) dX1_setCost_62 ?_
    refine lv_iload_n hx hb dX1_setCost_65 rfl (lv_at hl 2 rfl) ?_
    refine xgald hx hb hK hP (B + 3) (by have := (pr_o hB).1; omega) (pr_o hB).2.2.2.2.1 hin3 (B + 4 + x) (by rw [rf15 (pr_o hB).2.2.2.2.1]; rw [nI_clamp (by omega)]) dX1_setCost_66 ?_
    refine lv_iload_n hx hb dX1_setCost_67 rfl (lv_at hl 3 rfl) ?_
    refine lv_iload hx hb dX1_setCost_68 (lv_at hl 0 rfl) ?_
    refine xiast hx hb hK hP hap hS (B + 4 + x) (by have := (pr_o hB).1; omega) (pr_row hB hx6).1 hin4 dX1_setCost_70 (fun H locs hP hS => ?_)
    rw [nI_clamp (n := y) (by omega)] at hP
    obtain ⟨A9, eA9⟩ : ∃ z, z = up2 A (B + 4 + x) y w.toInt16.toInt32 := ⟨_, rfl⟩
    rw [← eA9] at hP
    have hP : va_P D vwCl (VW K ad I3 G A9 L) H := hP
    refine lv_iload hx hb dX1_setCost_71 (lv_at hl 0 rfl) ?_
    exact W.iret (v := w.toInt16.toInt32) hx hb hr (fun t ht hW => ⟨⟨w.toInt16.toInt32, (I3, G, A9, L), rfl, ⟨by simp [hs7], by rw [eA9, eI3]; simp [hs7]⟩, by rw [ht]; exact hP, va_K.moved hW.alike hK⟩, hS.F ht⟩) hS.2.2 dX1_setCost_73
  · rw [hs7]
    refine lv_tableIn (off := 41) (tgt := 54) hx hb dX1_setCost_13 (by decide) (by decide) (by decide) (by decide) ?_
    refine lv_iload_n hx hb dX1_setCost_54 rfl (lv_at hl 4 rfl) ?_
    refine lv_i2c hx hb dX1_setCost_55 rfl ?_
    refine lv_istore (lv' := [(4, .int ((w.toUInt32 % 65536).toInt32)), (0, .ref (ad B)), (1, .int (nI x)), (2, .int (nI y)), (3, .int w)]) hx hb dX1_setCost_56 hl (by decide) rfl (fun ls hl => ?_)
    refine lv_goto (tgt := 61) hx hb dX1_setCost_58 (by decide) ?_
    refine lv_aload_n hx hb dX1_setCost_61 rfl (lv_at hl 1 rfl) ?_
    refine vgS hx hb hts hi1 hown hK hP (B) (by have := (pr_o hB).1; omega) (pr_o hB).2.1 (C := RX1) (T := TX1) (N := 9) rfl 6 (by decide) (by decide) (by decide) (by decide) (B + 3) rfl (hts (.fieldLink RX1 34 "CrateHelpers$Problem" "prices" "[[I") (by decide +kernel)) (fun _ h9 => h9) dX1_setCost_62 ?_
    refine lv_iload_n hx hb dX1_setCost_65 rfl (lv_at hl 2 rfl) ?_
    refine xgald hx hb hK hP (B + 3) (by have := (pr_o hB).1; omega) (pr_o hB).2.2.2.2.1 hin3 (B + 4 + x) (by rw [rf15 (pr_o hB).2.2.2.2.1]; rw [nI_clamp (by omega)]) dX1_setCost_66 ?_
    refine lv_iload_n hx hb dX1_setCost_67 rfl (lv_at hl 3 rfl) ?_
    refine lv_iload hx hb dX1_setCost_68 (lv_at hl 0 rfl) ?_
    refine xiast hx hb hK hP hap hS (B + 4 + x) (by have := (pr_o hB).1; omega) (pr_row hB hx6).1 hin4 dX1_setCost_70 (fun H locs hP hS => ?_)
    rw [nI_clamp (n := y) (by omega)] at hP
    obtain ⟨A10, eA10⟩ : ∃ z, z = up2 A (B + 4 + x) y (((w.toUInt32 % 65536).toInt32)) := ⟨_, rfl⟩
    rw [← eA10] at hP
    have hP : va_P D vwCl (VW K ad I3 G A10 L) H := hP
    refine lv_iload hx hb dX1_setCost_71 (lv_at hl 0 rfl) ?_
    exact W.iret (v := ((w.toUInt32 % 65536).toInt32)) hx hb hr (fun t ht hW => ⟨⟨((w.toUInt32 % 65536).toInt32), (I3, G, A10, L), rfl, ⟨by simp [hs7], by rw [eA10, eI3]; simp [hs7]⟩, by rw [ht]; exact hP, va_K.moved hW.alike hK⟩, hS.F ht⟩) hS.2.2 dX1_setCost_73
  · refine lv_tableOut (tgt := 61) hx hb dX1_setCost_13 hs7 (by decide) ?_
    refine lv_aload_n hx hb dX1_setCost_61 rfl (lv_at hl 1 rfl) ?_
    refine vgS hx hb hts hi1 hown hK hP (B) (by have := (pr_o hB).1; omega) (pr_o hB).2.1 (C := RX1) (T := TX1) (N := 9) rfl 6 (by decide) (by decide) (by decide) (by decide) (B + 3) rfl (hts (.fieldLink RX1 34 "CrateHelpers$Problem" "prices" "[[I") (by decide +kernel)) (fun _ h9 => h9) dX1_setCost_62 ?_
    refine lv_iload_n hx hb dX1_setCost_65 rfl (lv_at hl 2 rfl) ?_
    refine xgald hx hb hK hP (B + 3) (by have := (pr_o hB).1; omega) (pr_o hB).2.2.2.2.1 hin3 (B + 4 + x) (by rw [rf15 (pr_o hB).2.2.2.2.1]; rw [nI_clamp (by omega)]) dX1_setCost_66 ?_
    refine lv_iload_n hx hb dX1_setCost_67 rfl (lv_at hl 3 rfl) ?_
    refine lv_iload hx hb dX1_setCost_68 (lv_at hl 0 rfl) ?_
    refine xiast hx hb hK hP hap hS (B + 4 + x) (by have := (pr_o hB).1; omega) (pr_row hB hx6).1 hin4 dX1_setCost_70 (fun H locs hP hS => ?_)
    rw [nI_clamp (n := y) (by omega)] at hP
    obtain ⟨A11, eA11⟩ : ∃ z, z = up2 A (B + 4 + x) y w := ⟨_, rfl⟩
    rw [← eA11] at hP
    have hP : va_P D vwCl (VW K ad I3 G A11 L) H := hP
    refine lv_iload hx hb dX1_setCost_71 (lv_at hl 0 rfl) ?_
    exact W.iret (v := w) hx hb hr (fun t ht hW => ⟨⟨w, (I3, G, A11, L), rfl, ⟨by simp [sw_ne2 hs7], by rw [eA11, eI3]; simp [sw_ne2 hs7]⟩, by rw [ht]; exact hP, va_K.moved hW.alike hK⟩, hS.F ht⟩) hS.2.2 dX1_setCost_73

set_option maxHeartbeats 4000000 in
set_option maxRecDepth 100000 in
theorem c_X1_addRule (l : Launch) (D : va_G) (K : Nat → ClassId) (ad : Nat → Nat) (hap0 : apart ad (fun _ => True)) (B nv nr : Nat) (hB : PrAt B) (k w : Int32) (h8 : nr < 8) (I : Nat → Nat → Int32) (G : Nat → Nat → Nat) (A : Nat → Nat → Int32) (L : Nat → Nat → Int64) (hw : PrW I A B nv nr) : Ci l D K ad yX1_addRule wsX1_addRule 1 40 [.ref (ad B), .int k, .int w] (I, G, A, L) (fun (r : Int32) (u : Mem) => r = nI nr ∧ u = (up2 (up2 (up2 (up2 (up2 I B 2 (I B 2 + 1)) B 3 0) (B + 12 + 5 * nr) 0 k) (B + 12 + 5 * nr) 1 w) B 1 (nI nr + 1), G, A, L)) := by
  intro sz
  refine Met.ofW (cc := cX1_addRule) (maxL := 3) (ret := (some .int)) (by decide) rfl ?_
  intro p e s m args below meth c s₁ Bd hml hv0
  obtain ⟨rfl, hsz, hP, hK⟩ := hv0
  have hx := Bd.exec
  have hb := Bd.bytes
  have hr := Bd.returns
  have hts := atoms_spec (ws := wsX1_addRule) Bd.pre
  have hown : s.vm.findClass RX1 = some m.cls := findClass_of_methodNamed Bd.named
  have hlocks := Bd.notSynchronized
  have hi1 : ∀ w ∈ u_ws RX1 TX1 9, w ∈ wsX1_addRule := fun w h => List.mem_cons_of_mem _ (List.mem_append_left _ (List.mem_append_right _ h))
  have hi2 : ∀ w ∈ u_ws RX2 TX2 7, w ∈ wsX1_addRule := fun w h => List.mem_cons_of_mem _ (List.mem_append_right _ h)
  subst hsz
  have hap := vF_ap hap0 s.heap.size
  have hS : va_S (vF ad s.heap.size) s.heap s.heap [] := va_S.rf
  have hP : va_P D vwCl (VW K ad I G A L) s.heap := hP
  have hl := lv_entry ([.ref (ad B), .int k, .int w]) (n := 3) (Nat.le_of_ble_eq_true rfl)
  rw [lg_entry_eq]
  generalize (lg_sl ([.ref (ad B), .int k, .int w]) ++ List.replicate (3 - (lg_sl ([.ref (ad B), .int k, .int w])).length) Slot.unset).toArray = ls at hl ⊢
  have hl : lv_has ls 3 [(0, .ref (ad B)), (1, .int k), (2, .int w)] := hl
  have hnv : nv ≤ 6 := hw.1
  have hnr : nr ≤ 8 := hw.2.1
  have hBv : I B 0 = nI nv := hw.2.2.1
  have hBr : I B 1 = nI nr := hw.2.2.2.1
  have hin : vp_in (nI nr) (ln (B + 10)) := by rw [(pr_o hB).2.2.2.2.2.2.2.2.2.2.1]; exact vp_in_nI h8 (by omega)
  refine lv_aload_n hx hb dX1_addRule_0 rfl (lv_at hl 0 rfl) ?_
  refine vcVv (As := []) (rest := []) ⟨hx, hb, hml, hown, hts⟩ (c_X1_change l D K ad hap0 B hB I G A L) (cwV 0 hts gX1_addRule_X1_change rfl rfl rfl (by decide +kernel) ⟨Nat.le_of_ble_eq_true rfl, Nat.le_of_ble_eq_true rfl⟩) hK hP hS (by have := (pr_o hB).1; omega) (pr_o hB).2.1 (by decide) rfl rfl rfl hl.1 (Nat.le_of_ble_eq_true rfl) (Nat.le_of_ble_eq_true rfl) (Nat.le_of_ble_eq_true rfl) dX1_addRule_1 (fun u2 H locs hw hP hS => ?_) rfl
  obtain ⟨I3, G4, A5, L6⟩ := u2
  have hP : va_P D vwCl (VW K ad I3 G4 A5 L6) H := hP
  injection hw with h1 h2
  injection h2 with h2 h3
  injection h3 with h3 h4
  rw [h2, h3, h4] at hP
  have eI3 : I3 = up2 (up2 I B 2 (I B 2 + 1)) B 3 0 := h1
  have hP : va_P D vwCl (VW K ad I3 G A L) H := hP
  refine lv_aload_n hx hb dX1_addRule_4 rfl (lv_at hl 0 rfl) ?_
  refine vgS hx hb hts hi1 hown hK hP (B) (by have := (pr_o hB).1; omega) (pr_o hB).2.1 (C := RX1) (T := TX1) (N := 9) rfl 7 (by decide) (by decide) (by decide) (by decide) (B + 10) rfl (hts (.fieldLink RX1 39 "CrateHelpers$Problem" "rules" "[LCrateHelpers$Rule;") (by decide +kernel)) (fun _ h9 => h9) dX1_addRule_5 ?_
  refine lv_aload_n hx hb dX1_addRule_8 rfl (lv_at hl 0 rfl) ?_
  refine vgI hx hb hts hi1 hown hK hP (B) (by have := (pr_o hB).1; omega) (pr_o hB).2.1 (C := RX1) (T := TX1) (N := 9) rfl 1 (by decide) (by decide) (by decide) (by decide) (hts (.fieldLink RX1 15 "CrateHelpers$Problem" "ruleCount" "I") (by decide +kernel)) (fun _ h9 => h9) dX1_addRule_9 ?_
  rw [show I3 B 1 = nI nr from by { rw [eI3]; simp only [up2]; rw [if_neg (by omega), if_neg (by omega)]; exact hBr }]
  refine xaald hx hb hK hP (B + 10) (by have := (pr_o hB).1; omega) 6 14 (pr_o hB).2.2.2.2.2.1 (by decide) rfl hin (B + 12 + 5 * nr) (by rw [rf14 (pr_o hB).2.2.2.2.2.1]; rw [nI_clamp (by omega)]) dX1_addRule_12 ?_
  refine lv_iload_n hx hb dX1_addRule_13 rfl (lv_at hl 1 rfl) ?_
  refine vpI (v := k) (ty := .int) hx hb hts hi2 tyX2 tyX2_ok nmX2 hown hK hP hap hS (B + 12 + 5 * nr) (by have := (pr_ru (r := nr) hB h8).1; omega) (pr_ru (r := nr) hB h8).2.1 (C := RX2) (T := TX2) (N := 7) rfl 0 (by decide) (by decide) (by decide) (by decide) (hts (.fieldLink RX1 54 "CrateHelpers$Rule" "kind" "I") (by decide +kernel)) (fun _ h9 => h9) rfl (by decide +kernel) rfl rfl dX1_addRule_14 (fun H locs hP hS => ?_)
  obtain ⟨I7, eI7⟩ : ∃ z, z = up2 I3 (B + 12 + 5 * nr) 0 k := ⟨_, rfl⟩
  rw [← eI7] at hP
  have hP : va_P D vwCl (VW K ad I7 G A L) H := hP
  refine lv_aload_n hx hb dX1_addRule_17 rfl (lv_at hl 0 rfl) ?_
  refine vgS hx hb hts hi1 hown hK hP (B) (by have := (pr_o hB).1; omega) (pr_o hB).2.1 (C := RX1) (T := TX1) (N := 9) rfl 7 (by decide) (by decide) (by decide) (by decide) (B + 10) rfl (hts (.fieldLink RX1 39 "CrateHelpers$Problem" "rules" "[LCrateHelpers$Rule;") (by decide +kernel)) (fun _ h9 => h9) dX1_addRule_18 ?_
  refine lv_aload_n hx hb dX1_addRule_21 rfl (lv_at hl 0 rfl) ?_
  refine vgI hx hb hts hi1 hown hK hP (B) (by have := (pr_o hB).1; omega) (pr_o hB).2.1 (C := RX1) (T := TX1) (N := 9) rfl 1 (by decide) (by decide) (by decide) (by decide) (hts (.fieldLink RX1 15 "CrateHelpers$Problem" "ruleCount" "I") (by decide +kernel)) (fun _ h9 => h9) dX1_addRule_22 ?_
  rw [show I7 B 1 = nI nr from by { rw [eI7, eI3]; simp only [up2]; rw [if_neg (by omega), if_neg (by omega), if_neg (by omega)]; exact hBr }]
  refine xaald hx hb hK hP (B + 10) (by have := (pr_o hB).1; omega) 6 14 (pr_o hB).2.2.2.2.2.1 (by decide) rfl hin (B + 12 + 5 * nr) (by rw [rf14 (pr_o hB).2.2.2.2.2.1]; rw [nI_clamp (by omega)]) dX1_addRule_25 ?_
  refine lv_iload_n hx hb dX1_addRule_26 rfl (lv_at hl 2 rfl) ?_
  refine vpI (v := w) (ty := .int) hx hb hts hi2 tyX2 tyX2_ok nmX2 hown hK hP hap hS (B + 12 + 5 * nr) (by have := (pr_ru (r := nr) hB h8).1; omega) (pr_ru (r := nr) hB h8).2.1 (C := RX2) (T := TX2) (N := 7) rfl 1 (by decide) (by decide) (by decide) (by decide) (hts (.fieldLink RX1 57 "CrateHelpers$Rule" "c" "I") (by decide +kernel)) (fun _ h9 => h9) rfl (by decide +kernel) rfl rfl dX1_addRule_27 (fun H locs hP hS => ?_)
  obtain ⟨I8, eI8⟩ : ∃ z, z = up2 I7 (B + 12 + 5 * nr) 1 w := ⟨_, rfl⟩
  rw [← eI8] at hP
  have hP : va_P D vwCl (VW K ad I8 G A L) H := hP
  refine lv_aload_n hx hb dX1_addRule_30 rfl (lv_at hl 0 rfl) ?_
  refine lv_dup hx hb dX1_addRule_31 rfl ?_
  refine vgI hx hb hts hi1 hown hK hP (B) (by have := (pr_o hB).1; omega) (pr_o hB).2.1 (C := RX1) (T := TX1) (N := 9) rfl 1 (by decide) (by decide) (by decide) (by decide) (hts (.fieldLink RX1 15 "CrateHelpers$Problem" "ruleCount" "I") (by decide +kernel)) (fun _ h9 => h9) dX1_addRule_32 ?_
  rw [show I8 B 1 = nI nr from by { rw [eI8, eI7, eI3]; simp only [up2]; rw [if_neg (by omega), if_neg (by omega), if_neg (by omega), if_neg (by omega)]; exact hBr }]
  refine lv_dup_x1 hx hb dX1_addRule_35 rfl rfl ?_
  refine lv_iconst (v := 1) hx hb dX1_addRule_36 (by decide) ?_
  refine lv_iadd hx hb dX1_addRule_37 ?_
  refine vpI (v := ((nI nr) + 1)) (ty := .int) hx hb hts hi1 tyX1 tyX1_ok nmX1 hown hK hP hap hS (B) (by have := (pr_o hB).1; omega) (pr_o hB).2.1 (C := RX1) (T := TX1) (N := 9) rfl 1 (by decide) (by decide) (by decide) (by decide) (hts (.fieldLink RX1 15 "CrateHelpers$Problem" "ruleCount" "I") (by decide +kernel)) (fun _ h9 => h9) rfl (by decide +kernel) rfl rfl dX1_addRule_38 (fun H locs hP hS => ?_)
  obtain ⟨I9, eI9⟩ : ∃ z, z = up2 I8 B 1 ((nI nr) + 1) := ⟨_, rfl⟩
  rw [← eI9] at hP
  have hP : va_P D vwCl (VW K ad I9 G A L) H := hP
  exact W.iret (v := (nI nr)) hx hb hr (fun t ht hW => ⟨⟨(nI nr), (I9, G, A, L), rfl, ⟨rfl, by rw [eI9, eI8, eI7, eI3]⟩, by rw [ht]; exact hP, va_K.moved hW.alike hK⟩, hS.F ht⟩) hS.2.2 dX1_addRule_41

set_option maxHeartbeats 4000000 in
set_option maxRecDepth 100000 in
theorem c_X1_setNumber (l : Launch) (D : va_G) (K : Nat → ClassId) (ad : Nat → Nat) (hap0 : apart ad (fun _ => True)) (B nv nr : Nat) (hB : PrAt B) (i : Nat) (w : Int32) (h8 : i < 8) (I : Nat → Nat → Int32) (G : Nat → Nat → Nat) (A : Nat → Nat → Int32) (L : Nat → Nat → Int64) (hw : PrW I A B nv nr) : Ci l D K ad yX1_setNumber wsX1_setNumber 1 40 [.ref (ad B), .int (nI i), .int w] (I, G, A, L) (fun (r : Int32) (u : Mem) => r = I (B + 12 + 5 * i) 1 ∧ u = (up2 (up2 (up2 I B 2 (I B 2 + 1)) B 3 0) (B + 12 + 5 * i) 1 w, G, A, L)) := by
  intro sz
  refine Met.ofW (cc := cX1_setNumber) (maxL := 4) (ret := (some .int)) (by decide) rfl ?_
  intro p e s m args below meth c s₁ Bd hml hv0
  obtain ⟨rfl, hsz, hP, hK⟩ := hv0
  have hx := Bd.exec
  have hb := Bd.bytes
  have hr := Bd.returns
  have hts := atoms_spec (ws := wsX1_setNumber) Bd.pre
  have hown : s.vm.findClass RX1 = some m.cls := findClass_of_methodNamed Bd.named
  have hlocks := Bd.notSynchronized
  have hi1 : ∀ w ∈ u_ws RX1 TX1 9, w ∈ wsX1_setNumber := fun w h => List.mem_cons_of_mem _ (List.mem_append_left _ (List.mem_append_right _ h))
  have hi2 : ∀ w ∈ u_ws RX2 TX2 7, w ∈ wsX1_setNumber := fun w h => List.mem_cons_of_mem _ (List.mem_append_right _ h)
  subst hsz
  have hap := vF_ap hap0 s.heap.size
  have hS : va_S (vF ad s.heap.size) s.heap s.heap [] := va_S.rf
  have hP : va_P D vwCl (VW K ad I G A L) s.heap := hP
  have hl := lv_entry ([.ref (ad B), .int (nI i), .int w]) (n := 4) (Nat.le_of_ble_eq_true rfl)
  rw [lg_entry_eq]
  generalize (lg_sl ([.ref (ad B), .int (nI i), .int w]) ++ List.replicate (4 - (lg_sl ([.ref (ad B), .int (nI i), .int w])).length) Slot.unset).toArray = ls at hl ⊢
  have hl : lv_has ls 4 [(0, .ref (ad B)), (1, .int (nI i)), (2, .int w)] := hl
  have hnv : nv ≤ 6 := hw.1
  have hnr : nr ≤ 8 := hw.2.1
  have hBv : I B 0 = nI nv := hw.2.2.1
  have hBr : I B 1 = nI nr := hw.2.2.2.1
  have hin : vp_in (nI i) (ln (B + 10)) := by rw [(pr_o hB).2.2.2.2.2.2.2.2.2.2.1]; exact vp_in_nI h8 (by omega)
  refine lv_aload_n hx hb dX1_setNumber_0 rfl (lv_at hl 0 rfl) ?_
  refine vcVv (As := []) (rest := []) ⟨hx, hb, hml, hown, hts⟩ (c_X1_change l D K ad hap0 B hB I G A L) (cwV 0 hts gX1_setNumber_X1_change rfl rfl rfl (by decide +kernel) ⟨Nat.le_of_ble_eq_true rfl, Nat.le_of_ble_eq_true rfl⟩) hK hP hS (by have := (pr_o hB).1; omega) (pr_o hB).2.1 (by decide) rfl rfl rfl hl.1 (Nat.le_of_ble_eq_true rfl) (Nat.le_of_ble_eq_true rfl) (Nat.le_of_ble_eq_true rfl) dX1_setNumber_1 (fun u2 H locs hw hP hS => ?_) rfl
  obtain ⟨I3, G4, A5, L6⟩ := u2
  have hP : va_P D vwCl (VW K ad I3 G4 A5 L6) H := hP
  injection hw with h1 h2
  injection h2 with h2 h3
  injection h3 with h3 h4
  rw [h2, h3, h4] at hP
  have eI3 : I3 = up2 (up2 I B 2 (I B 2 + 1)) B 3 0 := h1
  have hP : va_P D vwCl (VW K ad I3 G A L) H := hP
  refine lv_aload_n hx hb dX1_setNumber_4 rfl (lv_at hl 0 rfl) ?_
  refine vgS hx hb hts hi1 hown hK hP (B) (by have := (pr_o hB).1; omega) (pr_o hB).2.1 (C := RX1) (T := TX1) (N := 9) rfl 7 (by decide) (by decide) (by decide) (by decide) (B + 10) rfl (hts (.fieldLink RX1 39 "CrateHelpers$Problem" "rules" "[LCrateHelpers$Rule;") (by decide +kernel)) (fun _ h9 => h9) dX1_setNumber_5 ?_
  refine lv_iload_n hx hb dX1_setNumber_8 rfl (lv_at hl 1 rfl) ?_
  refine xaald hx hb hK hP (B + 10) (by have := (pr_o hB).1; omega) 6 14 (pr_o hB).2.2.2.2.2.1 (by decide) rfl hin (B + 12 + 5 * i) (by rw [rf14 (pr_o hB).2.2.2.2.2.1]; rw [nI_clamp (by omega)]) dX1_setNumber_9 ?_
  refine vgI hx hb hts hi2 hown hK hP (B + 12 + 5 * i) (by have := (pr_ru (r := i) hB h8).1; omega) (pr_ru (r := i) hB h8).2.1 (C := RX2) (T := TX2) (N := 7) rfl 1 (by decide) (by decide) (by decide) (by decide) (hts (.fieldLink RX1 57 "CrateHelpers$Rule" "c" "I") (by decide +kernel)) (fun _ h9 => h9) dX1_setNumber_10 ?_
  refine lv_istore_n (lv' := [(3, .int (I3 (B + 12 + 5 * i) 1)), (0, .ref (ad B)), (1, .int (nI i)), (2, .int w)]) hx hb dX1_setNumber_13 rfl hl (by decide) rfl (fun ls hl => ?_)
  refine lv_aload_n hx hb dX1_setNumber_14 rfl (lv_at hl 1 rfl) ?_
  refine vgS hx hb hts hi1 hown hK hP (B) (by have := (pr_o hB).1; omega) (pr_o hB).2.1 (C := RX1) (T := TX1) (N := 9) rfl 7 (by decide) (by decide) (by decide) (by decide) (B + 10) rfl (hts (.fieldLink RX1 39 "CrateHelpers$Problem" "rules" "[LCrateHelpers$Rule;") (by decide +kernel)) (fun _ h9 => h9) dX1_setNumber_15 ?_
  refine lv_iload_n hx hb dX1_setNumber_18 rfl (lv_at hl 2 rfl) ?_
  refine xaald hx hb hK hP (B + 10) (by have := (pr_o hB).1; omega) 6 14 (pr_o hB).2.2.2.2.2.1 (by decide) rfl hin (B + 12 + 5 * i) (by rw [rf14 (pr_o hB).2.2.2.2.2.1]; rw [nI_clamp (by omega)]) dX1_setNumber_19 ?_
  refine lv_iload_n hx hb dX1_setNumber_20 rfl (lv_at hl 3 rfl) ?_
  refine vpI (v := w) (ty := .int) hx hb hts hi2 tyX2 tyX2_ok nmX2 hown hK hP hap hS (B + 12 + 5 * i) (by have := (pr_ru (r := i) hB h8).1; omega) (pr_ru (r := i) hB h8).2.1 (C := RX2) (T := TX2) (N := 7) rfl 1 (by decide) (by decide) (by decide) (by decide) (hts (.fieldLink RX1 57 "CrateHelpers$Rule" "c" "I") (by decide +kernel)) (fun _ h9 => h9) rfl (by decide +kernel) rfl rfl dX1_setNumber_21 (fun H locs hP hS => ?_)
  obtain ⟨I7, eI7⟩ : ∃ z, z = up2 I3 (B + 12 + 5 * i) 1 w := ⟨_, rfl⟩
  rw [← eI7] at hP
  have hP : va_P D vwCl (VW K ad I7 G A L) H := hP
  refine lv_iload_n hx hb dX1_setNumber_24 rfl (lv_at hl 0 rfl) ?_
  exact W.iret (v := (I3 (B + 12 + 5 * i) 1)) hx hb hr (fun t ht hW => ⟨⟨(I3 (B + 12 + 5 * i) 1), (I7, G, A, L), rfl, ⟨by rw [eI3]; simp only [up2]; rw [if_neg (by omega), if_neg (by omega)], by rw [eI7, eI3]⟩, by rw [ht]; exact hP, va_K.moved hW.alike hK⟩, hS.F ht⟩) hS.2.2 dX1_setNumber_25

/-! part 24.prob2 -/
set_option maxHeartbeats 4000000 in
set_option maxRecDepth 100000 in
theorem c_X1_firstBroken (l : Launch) (D : va_G) (K : Nat → ClassId) (ad : Nat → Nat) (hap0 : apart ad (fun _ => True)) (B v nv nr : Nat) (hB : PrAt B) (hv : IA v 6) (I : Nat → Nat → Int32) (G : Nat → Nat → Nat) (A : Nat → Nat → Int32) (L : Nat → Nat → Int64) (hw : PrW I A B nv nr) : Ci l D K ad yX1_firstBroken wsX1_firstBroken 3 110 [.ref (ad B), .ref (ad v)] (I, G, A, L) (fun (r : Int32) (u : Mem) => r = fbk I A B v nr ∧ u = (I, G, A, L)) := by
  intro sz
  refine Met.ofW (cc := cX1_firstBroken) (maxL := 3) (ret := (some .int)) (by decide) rfl ?_
  intro p e s m args below meth c s₁ Bd hml hv0
  obtain ⟨rfl, hsz, hP, hK⟩ := hv0
  have hx := Bd.exec
  have hb := Bd.bytes
  have hr := Bd.returns
  have hts := atoms_spec (ws := wsX1_firstBroken) Bd.pre
  have hown : s.vm.findClass RX1 = some m.cls := findClass_of_methodNamed Bd.named
  have hlocks := Bd.notSynchronized
  have hi1 : ∀ w ∈ u_ws RX1 TX1 9, w ∈ wsX1_firstBroken := fun w h => List.mem_cons_of_mem _ (List.mem_append_left _ (List.mem_append_right _ h))
  have hi2 : ∀ w ∈ u_ws RX2 TX2 7, w ∈ wsX1_firstBroken := fun w h => List.mem_cons_of_mem _ (List.mem_append_right _ h)
  subst hsz
  have hap := vF_ap hap0 s.heap.size
  have hS : va_S (vF ad s.heap.size) s.heap s.heap [] := va_S.rf
  have hP : va_P D vwCl (VW K ad I G A L) s.heap := hP
  have hl := lv_entry ([.ref (ad B), .ref (ad v)]) (n := 3) (Nat.le_of_ble_eq_true rfl)
  rw [lg_entry_eq]
  generalize (lg_sl ([.ref (ad B), .ref (ad v)]) ++ List.replicate (3 - (lg_sl ([.ref (ad B), .ref (ad v)])).length) Slot.unset).toArray = ls at hl ⊢
  have hl : lv_has ls 3 [(0, .ref (ad B)), (1, .ref (ad v))] := hl
  have hnv : nv ≤ 6 := hw.1
  have hnr : nr ≤ 8 := hw.2.1
  have hBv : I B 0 = nI nv := hw.2.2.1
  have hBr : I B 1 = nI nr := hw.2.2.2.1
  refine lv_iconst (v := 0) hx hb dX1_firstBroken_0 (by decide) ?_
  refine lv_istore_n (lv' := [(2, .int 0), (0, .ref (ad B)), (1, .ref (ad v))]) hx hb dX1_firstBroken_1 rfl hl (by decide) rfl (fun ls hl => ?_)
  have kx1 : ∀ (_ : Unit), fst1 (pbr I A B v) 0 nr = fbk I A B v nr → ∀ (H : Heap) (locs : List Loc), va_P D vwCl (VW K ad I G A L) H → va_S (vF ad s.heap.size) s.heap H locs → ∀ (ls : Array Slot), lv_has ls 3 [(2, .int (nI nr)), (0, .ref (ad B)), (1, .ref (ad v))] → W p l e ({ frames := 3, cells := 0, slots := 0, locals := 110 }) s m ([.ref (ad B), .ref (ad v)] : List Value).toArray below meth c H locs 0 0 (MQ below (va_Qi (fun (r : Int32) (u : Mem) => r = fbk I A B v nr ∧ u = (I, G, A, L)) (vB D K ad) (vF ad s.heap.size)) ([.ref (ad B), .ref (ad v)] : List Value).toArray s 0 0 (vF ad s.heap.size)) (F0 m 35 ls []) := by
    intro _ hinv1 H locs hP hS ls hl
    refine lv_bipush (v := (-9)) hx hb dX1_firstBroken_35 (by decide) ?_
    exact W.iret (v := (-9)) hx hb hr (fun t ht hW => ⟨⟨(-9), (I, G, A, L), rfl, ⟨hinv1, rfl⟩, by rw [ht]; exact hP, va_K.moved hW.alike hK⟩, hS.F ht⟩) hS.2.2 dX1_firstBroken_37
  have lp1 : ∀ (k1 i : Nat), i + k1 = nr → fst1 (pbr I A B v) k1 i = fbk I A B v nr → ∀ (H : Heap) (locs : List Loc), va_P D vwCl (VW K ad I G A L) H → va_S (vF ad s.heap.size) s.heap H locs → ∀ (ls : Array Slot), lv_has ls 3 [(2, .int (nI i)), (0, .ref (ad B)), (1, .ref (ad v))] → W p l e ({ frames := 3, cells := 0, slots := 0, locals := 110 }) s m ([.ref (ad B), .ref (ad v)] : List Value).toArray below meth c H locs 0 0 (MQ below (va_Qi (fun (r : Int32) (u : Mem) => r = fbk I A B v nr ∧ u = (I, G, A, L)) (vB D K ad) (vF ad s.heap.size)) ([.ref (ad B), .ref (ad v)] : List Value).toArray s 0 0 (vF ad s.heap.size)) (F0 m 2 ls []) := by
    intro k1
    induction k1 with
    | zero =>
      intro i  hk1 hinv1 H locs hP hS ls hl
      obtain rfl : nr = i := by omega
      refine lv_iload_n hx hb dX1_firstBroken_2 rfl (lv_at hl 0 rfl) ?_
      refine lv_aload_n hx hb dX1_firstBroken_3 rfl (lv_at hl 1 rfl) ?_
      refine vgI hx hb hts hi1 hown hK hP (B) (by have := (pr_o hB).1; omega) (pr_o hB).2.1 (C := RX1) (T := TX1) (N := 9) rfl 1 (by decide) (by decide) (by decide) (by decide) (hts (.fieldLink RX1 15 "CrateHelpers$Problem" "ruleCount" "I") (by decide +kernel)) (fun _ h9 => h9) dX1_firstBroken_4 ?_
      rw [hBr]
      refine lv_icmp_ge (tgt := 35) hx hb dX1_firstBroken_7 (by decide) (fun _ => ?_) (fun c_2 => absurd (nI_le (Nat.le_refl _) (by omega)) c_2)
      exact kx1 () (hinv1) H locs hP hS ls (lv_sub hl [0, 1, 2] rfl)
    | succ k1 ih1 =>
      intro i  hk1 hinv1 H locs hP hS ls hl
      have hlt1 : i < nr := by omega
      have hin1 : vp_in (nI i) (ln (B + 10)) := by rw [(pr_o hB).2.2.2.2.2.2.2.2.2.2.1]; exact vp_in_nI (by omega) (by omega)
      refine lv_iload_n hx hb dX1_firstBroken_2 rfl (lv_at hl 0 rfl) ?_
      refine lv_aload_n hx hb dX1_firstBroken_3 rfl (lv_at hl 1 rfl) ?_
      refine vgI hx hb hts hi1 hown hK hP (B) (by have := (pr_o hB).1; omega) (pr_o hB).2.1 (C := RX1) (T := TX1) (N := 9) rfl 1 (by decide) (by decide) (by decide) (by decide) (hts (.fieldLink RX1 15 "CrateHelpers$Problem" "ruleCount" "I") (by decide +kernel)) (fun _ h9 => h9) dX1_firstBroken_4 ?_
      rw [hBr]
      refine lv_icmp_ge (tgt := 35) hx hb dX1_firstBroken_7 (by decide) (fun c_3 => absurd c_3 (nI_ge (by omega) (by omega))) (fun _ => ?_)
      refine lv_aload_n hx hb dX1_firstBroken_10 rfl (lv_at hl 1 rfl) ?_
      refine vgS hx hb hts hi1 hown hK hP (B) (by have := (pr_o hB).1; omega) (pr_o hB).2.1 (C := RX1) (T := TX1) (N := 9) rfl 7 (by decide) (by decide) (by decide) (by decide) (B + 10) rfl (hts (.fieldLink RX1 39 "CrateHelpers$Problem" "rules" "[LCrateHelpers$Rule;") (by decide +kernel)) (fun _ h9 => h9) dX1_firstBroken_11 ?_
      refine lv_iload_n hx hb dX1_firstBroken_14 rfl (lv_at hl 0 rfl) ?_
      refine xaald hx hb hK hP (B + 10) (by have := (pr_o hB).1; omega) 6 14 (pr_o hB).2.2.2.2.2.1 (by decide) rfl hin1 (B + 12 + 5 * i) (by rw [rf14 (pr_o hB).2.2.2.2.2.1]; rw [nI_clamp (by omega)]) dX1_firstBroken_15 ?_
      refine lv_aload_n hx hb dX1_firstBroken_16 rfl (lv_at hl 2 rfl) ?_
      refine lv_aload_n hx hb dX1_firstBroken_17 rfl (lv_at hl 1 rfl) ?_
      refine vgS hx hb hts hi1 hown hK hP (B) (by have := (pr_o hB).1; omega) (pr_o hB).2.1 (C := RX1) (T := TX1) (N := 9) rfl 4 (by decide) (by decide) (by decide) (by decide) (B + 1) rfl (hts (.fieldLink RX1 25 "CrateHelpers$Problem" "sizes" "[I") (by decide +kernel)) (fun _ h9 => h9) dX1_firstBroken_18 ?_
      refine vcV (As := [.ref (ad v), .ref (ad (B + 1))]) (rest := []) ⟨hx, hb, hml, hown, hts⟩ (c_X2_isBroken l D K ad hap0 (B + 12 + 5 * i) v (B + 1) (nP I (B + 12 + 5 * i)) (pr_ru hB (by omega)) hv (ia_sz hB) I G A L (hw.2.2.2.2.2 i (by omega))) (cwV 2 hts gX1_firstBroken_X2_isBroken rfl rfl rfl (by decide +kernel) ⟨Nat.le_of_ble_eq_true rfl, Nat.le_of_ble_eq_true rfl⟩) hK hP hS (by have := (pr_ru (r := i) hB (by omega)).1; omega) (pr_ru (r := i) hB (by omega)).2.1 (by decide) rfl rfl rfl hl.1 (Nat.le_of_ble_eq_true rfl) (Nat.le_of_ble_eq_true rfl) (Nat.le_of_ble_eq_true rfl) dX1_firstBroken_21 (fun r4 u5 H locs hw hP hS => ?_) rfl
      obtain ⟨hr4, rfl⟩ := hw
      have hP : va_P D vwCl (VW K ad I G A L) H := hP
      subst hr4
      refine lv_if_eq (tgt := 29) hx hb dX1_firstBroken_24 (by decide) (fun c_6 => ?_) (fun c_6 => ?_)
      · refine lv_iinc (v := (nI (i + 1))) (lv' := [(2, .int (nI (i + 1))), (0, .ref (ad B)), (1, .ref (ad v))]) hx hb dX1_firstBroken_29 hl (k := 0) rfl (nI_1 i) (by decide) rfl (fun ls hl => ?_)
        refine lv_goto (tgt := 2) hx hb dX1_firstBroken_32 (by decide) ?_
        exact ih1 (i + 1)  (by omega) (by rw [← hinv1]; simp [fst1, pbr, c_6]) H locs hP hS ls (lv_sub hl [0, 1, 2] rfl)
      · refine lv_iload_n hx hb dX1_firstBroken_27 rfl (lv_at hl 0 rfl) ?_
        exact W.iret (v := (nI i)) hx hb hr (fun t ht hW => ⟨⟨(nI i), (I, G, A, L), rfl, ⟨by rw [← hinv1]; simp [fst1, pbr, c_6], rfl⟩, by rw [ht]; exact hP, va_K.moved hW.alike hK⟩, hS.F ht⟩) hS.2.2 dX1_firstBroken_28
  exact lp1 (nr) 0  (by omega) (rfl) _ _ hP hS ls (lv_sub hl [0, 1, 2] rfl)

set_option maxHeartbeats 4000000 in
set_option maxRecDepth 100000 in
theorem c_X1_isOut (l : Launch) (D : va_G) (K : Nat → ClassId) (ad : Nat → Nat) (hap0 : apart ad (fun _ => True)) (B v nv nr x : Nat) (w : Int32) (hB : PrAt B) (hv : IA v 6) (hvB : v < 58) (hx6 : x < 6) (I : Nat → Nat → Int32) (G : Nat → Nat → Nat) (A : Nat → Nat → Int32) (L : Nat → Nat → Int64) (hw : PrW I A B nv nr) : Ci l D K ad yX1_isOut wsX1_isOut 4 150 [.ref (ad B), .ref (ad v), .int (nI x), .int w] (I, G, A, L) (fun (r : Int32) (u : Mem) => r = (if A v x = -1 then (if fbk I (up2 A v x w) B v nr = -9 then 0 else 1) else 0) ∧ u = (I, G, A, L)) := by
  intro sz
  refine Met.ofW (cc := cX1_isOut) (maxL := 5) (ret := (some .boolean)) (by decide) rfl ?_
  intro p e s m args below meth c s₁ Bd hml hv0
  obtain ⟨rfl, hsz, hP, hK⟩ := hv0
  have hx := Bd.exec
  have hb := Bd.bytes
  have hr := Bd.returns
  have hts := atoms_spec (ws := wsX1_isOut) Bd.pre
  have hown : s.vm.findClass RX1 = some m.cls := findClass_of_methodNamed Bd.named
  have hlocks := Bd.notSynchronized
  have hi1 : ∀ w ∈ u_ws RX1 TX1 9, w ∈ wsX1_isOut := fun w h => List.mem_cons_of_mem _ (List.mem_append_left _ (List.mem_append_right _ h))
  have hi2 : ∀ w ∈ u_ws RX2 TX2 7, w ∈ wsX1_isOut := fun w h => List.mem_cons_of_mem _ (List.mem_append_right _ h)
  subst hsz
  have hap := vF_ap hap0 s.heap.size
  have hS : va_S (vF ad s.heap.size) s.heap s.heap [] := va_S.rf
  have hP : va_P D vwCl (VW K ad I G A L) s.heap := hP
  have hl := lv_entry ([.ref (ad B), .ref (ad v), .int (nI x), .int w]) (n := 5) (Nat.le_of_ble_eq_true rfl)
  rw [lg_entry_eq]
  generalize (lg_sl ([.ref (ad B), .ref (ad v), .int (nI x), .int w]) ++ List.replicate (5 - (lg_sl ([.ref (ad B), .ref (ad v), .int (nI x), .int w])).length) Slot.unset).toArray = ls at hl ⊢
  have hl : lv_has ls 5 [(0, .ref (ad B)), (1, .ref (ad v)), (2, .int (nI x)), (3, .int w)] := hl
  have hnv : nv ≤ 6 := hw.1
  have hnr : nr ≤ 8 := hw.2.1
  have hBv : I B 0 = nI nv := hw.2.2.1
  have hBr : I B 1 = nI nr := hw.2.2.2.1
  have hinv0 : vp_in (nI x) (ln v) := by rw [hv.2.2]; exact vp_in_nI hx6 (by omega)
  refine lv_aload_n hx hb dX1_isOut_0 rfl (lv_at hl 1 rfl) ?_
  refine lv_iload_n hx hb dX1_isOut_1 rfl (lv_at hl 2 rfl) ?_
  refine xiald hx hb hK hP (v) hv.1 hv.2.1 hinv0 dX1_isOut_2 ?_
  rw [nI_clamp (n := x) (by omega)]
  refine lv_iconst (v := (-1)) hx hb dX1_isOut_3 (by decide) ?_
  refine lv_icmp_eq (tgt := 9) hx hb dX1_isOut_4 (by decide) (fun c_1 => ?_) (fun c_1 => ?_)
  · refine lv_aload_n hx hb dX1_isOut_9 rfl (lv_at hl 1 rfl) ?_
    refine lv_iload_n hx hb dX1_isOut_10 rfl (lv_at hl 2 rfl) ?_
    refine lv_iload_n hx hb dX1_isOut_11 rfl (lv_at hl 3 rfl) ?_
    refine xiast hx hb hK hP hap hS (v) hv.1 hv.2.1 hinv0 dX1_isOut_12 (fun H locs hP hS => ?_)
    rw [nI_clamp (n := x) (by omega)] at hP
    obtain ⟨A2, eA2⟩ : ∃ z, z = up2 A v x w := ⟨_, rfl⟩
    rw [← eA2] at hP
    have hP : va_P D vwCl (VW K ad I G A2 L) H := hP
    refine lv_aload_n hx hb dX1_isOut_13 rfl (lv_at hl 0 rfl) ?_
    refine lv_aload_n hx hb dX1_isOut_14 rfl (lv_at hl 1 rfl) ?_
    refine vcV (As := [.ref (ad v)]) (rest := []) ⟨hx, hb, hml, hown, hts⟩ (c_X1_firstBroken l D K ad hap0 B v nv nr hB hv I G A2 L (by rw [eA2]; exact PrW_A hw (by have := pr_ge hB; omega))) (cwV 1 hts gX1_isOut_X1_firstBroken rfl rfl rfl (by decide +kernel) ⟨Nat.le_of_ble_eq_true rfl, Nat.le_of_ble_eq_true rfl⟩) hK hP hS (by have := (pr_o hB).1; omega) (pr_o hB).2.1 (by decide) rfl rfl rfl hl.1 (Nat.le_of_ble_eq_true rfl) (Nat.le_of_ble_eq_true rfl) (Nat.le_of_ble_eq_true rfl) dX1_isOut_15 (fun r3 u4 H locs hw hP hS => ?_) rfl
    obtain ⟨hr3, rfl⟩ := hw
    have hP : va_P D vwCl (VW K ad I G A2 L) H := hP
    subst hr3
    refine lv_bipush (v := (-9)) hx hb dX1_isOut_18 (by decide) ?_
    refine lv_icmp_eq (tgt := 27) hx hb dX1_isOut_20 (by decide) (fun c_5 => ?_) (fun c_5 => ?_)
    · refine lv_iconst (v := 0) hx hb dX1_isOut_27 (by decide) ?_
      refine lv_istore (lv' := [(4, .int 0), (0, .ref (ad B)), (1, .ref (ad v)), (2, .int (nI x)), (3, .int w)]) hx hb dX1_isOut_28 hl (by decide) rfl (fun ls hl => ?_)
      refine lv_aload_n hx hb dX1_isOut_30 rfl (lv_at hl 2 rfl) ?_
      refine lv_iload_n hx hb dX1_isOut_31 rfl (lv_at hl 3 rfl) ?_
      refine lv_iconst (v := (-1)) hx hb dX1_isOut_32 (by decide) ?_
      refine xiast hx hb hK hP hap hS (v) hv.1 hv.2.1 hinv0 dX1_isOut_33 (fun H locs hP hS => ?_)
      rw [nI_clamp (n := x) (by omega)] at hP
      obtain ⟨A6, eA6⟩ : ∃ z, z = up2 A2 v x ((-1)) := ⟨_, rfl⟩
      rw [← eA6] at hP
      have hP : va_P D vwCl (VW K ad I G A6 L) H := hP
      refine lv_iload hx hb dX1_isOut_34 (lv_at hl 0 rfl) ?_
      exact W.zret (v := 0) hx hb hr (by decide) (fun t ht hW => ⟨⟨0, (I, G, A6, L), rfl, ⟨by rw [if_pos c_1, ← eA2, if_pos c_5], by rw [eA6, eA2, up2_bk c_1]⟩, by rw [ht]; exact hP, va_K.moved hW.alike hK⟩, hS.F ht⟩) hS.2.2 dX1_isOut_36
    · refine lv_iconst (v := 1) hx hb dX1_isOut_23 (by decide) ?_
      refine lv_goto (tgt := 28) hx hb dX1_isOut_24 (by decide) ?_
      refine lv_istore (lv' := [(4, .int 1), (0, .ref (ad B)), (1, .ref (ad v)), (2, .int (nI x)), (3, .int w)]) hx hb dX1_isOut_28 hl (by decide) rfl (fun ls hl => ?_)
      refine lv_aload_n hx hb dX1_isOut_30 rfl (lv_at hl 2 rfl) ?_
      refine lv_iload_n hx hb dX1_isOut_31 rfl (lv_at hl 3 rfl) ?_
      refine lv_iconst (v := (-1)) hx hb dX1_isOut_32 (by decide) ?_
      refine xiast hx hb hK hP hap hS (v) hv.1 hv.2.1 hinv0 dX1_isOut_33 (fun H locs hP hS => ?_)
      rw [nI_clamp (n := x) (by omega)] at hP
      obtain ⟨A7, eA7⟩ : ∃ z, z = up2 A2 v x ((-1)) := ⟨_, rfl⟩
      rw [← eA7] at hP
      have hP : va_P D vwCl (VW K ad I G A7 L) H := hP
      refine lv_iload hx hb dX1_isOut_34 (lv_at hl 0 rfl) ?_
      exact W.zret (v := 1) hx hb hr (by decide) (fun t ht hW => ⟨⟨1, (I, G, A7, L), rfl, ⟨by rw [if_pos c_1, ← eA2, if_neg c_5], by rw [eA7, eA2, up2_bk c_1]⟩, by rw [ht]; exact hP, va_K.moved hW.alike hK⟩, hS.F ht⟩) hS.2.2 dX1_isOut_36
  · refine lv_iconst (v := 0) hx hb dX1_isOut_7 (by decide) ?_
    exact W.zret (v := 0) hx hb hr (by decide) (fun t ht hW => ⟨⟨0, (I, G, A, L), rfl, ⟨by rw [if_neg c_1], rfl⟩, by rw [ht]; exact hP, va_K.moved hW.alike hK⟩, hS.F ht⟩) hS.2.2 dX1_isOut_8

set_option maxHeartbeats 4000000 in
set_option maxRecDepth 100000 in
theorem c_X1_addPart (l : Launch) (D : va_G) (K : Nat → ClassId) (ad : Nat → Nat) (hap0 : apart ad (fun _ => True)) (B i n x : Nat) (w : Int32) (hB : PrAt B) (h8 : i < 8) (hn6 : n < 6) (hx6 : x < 6) (I : Nat → Nat → Int32) (G : Nat → Nat → Nat) (A : Nat → Nat → Int32) (L : Nat → Nat → Int64) (hpn : I (B + 12 + 5 * i) 2 = nI n) : Ci l D K ad yX1_addPart wsX1_addPart 1 40 [.ref (ad B), .int (nI i), .int (nI x), .int w] (I, G, A, L) (fun (r : Int32) (u : Mem) => r = nI n + 1 ∧ u = (up2 (up2 (up2 I B 2 (I B 2 + 1)) B 3 0) (B + 12 + 5 * i) 2 (nI n + 1), G, up2 (up2 (up2 (up2 A (B + 12 + 5 * i + 1) n (nI x)) (B + 12 + 5 * i + 2) n w) (B + 12 + 5 * i + 3) x (vp_nar .boolean 1)) (B + 12 + 5 * i + 4) x w, L)) := by
  intro sz
  refine Met.ofW (cc := cX1_addPart) (maxL := 4) (ret := (some .int)) (by decide) rfl ?_
  intro p e s m args below meth c s₁ Bd hml hv0
  obtain ⟨rfl, hsz, hP, hK⟩ := hv0
  have hx := Bd.exec
  have hb := Bd.bytes
  have hr := Bd.returns
  have hts := atoms_spec (ws := wsX1_addPart) Bd.pre
  have hown : s.vm.findClass RX1 = some m.cls := findClass_of_methodNamed Bd.named
  have hlocks := Bd.notSynchronized
  have hi1 : ∀ w ∈ u_ws RX1 TX1 9, w ∈ wsX1_addPart := fun w h => List.mem_cons_of_mem _ (List.mem_append_left _ (List.mem_append_right _ h))
  have hi2 : ∀ w ∈ u_ws RX2 TX2 7, w ∈ wsX1_addPart := fun w h => List.mem_cons_of_mem _ (List.mem_append_right _ h)
  subst hsz
  have hap := vF_ap hap0 s.heap.size
  have hS : va_S (vF ad s.heap.size) s.heap s.heap [] := va_S.rf
  have hP : va_P D vwCl (VW K ad I G A L) s.heap := hP
  have hl := lv_entry ([.ref (ad B), .int (nI i), .int (nI x), .int w]) (n := 4) (Nat.le_of_ble_eq_true rfl)
  rw [lg_entry_eq]
  generalize (lg_sl ([.ref (ad B), .int (nI i), .int (nI x), .int w]) ++ List.replicate (4 - (lg_sl ([.ref (ad B), .int (nI i), .int (nI x), .int w])).length) Slot.unset).toArray = ls at hl ⊢
  have hl : lv_has ls 4 [(0, .ref (ad B)), (1, .int (nI i)), (2, .int (nI x)), (3, .int w)] := hl
  have hin : vp_in (nI i) (ln (B + 10)) := by rw [(pr_o hB).2.2.2.2.2.2.2.2.2.2.1]; exact vp_in_nI h8 (by omega)
  refine lv_aload_n hx hb dX1_addPart_0 rfl (lv_at hl 0 rfl) ?_
  refine vcVv (As := []) (rest := []) ⟨hx, hb, hml, hown, hts⟩ (c_X1_change l D K ad hap0 B hB I G A L) (cwV 0 hts gX1_addPart_X1_change rfl rfl rfl (by decide +kernel) ⟨Nat.le_of_ble_eq_true rfl, Nat.le_of_ble_eq_true rfl⟩) hK hP hS (by have := (pr_o hB).1; omega) (pr_o hB).2.1 (by decide) rfl rfl rfl hl.1 (Nat.le_of_ble_eq_true rfl) (Nat.le_of_ble_eq_true rfl) (Nat.le_of_ble_eq_true rfl) dX1_addPart_1 (fun u2 H locs hw hP hS => ?_) rfl
  obtain ⟨I3, G4, A5, L6⟩ := u2
  have hP : va_P D vwCl (VW K ad I3 G4 A5 L6) H := hP
  injection hw with h1 h2
  injection h2 with h2 h3
  injection h3 with h3 h4
  rw [h2, h3, h4] at hP
  have eI3 : I3 = up2 (up2 I B 2 (I B 2 + 1)) B 3 0 := h1
  have hP : va_P D vwCl (VW K ad I3 G A L) H := hP
  refine lv_aload_n hx hb dX1_addPart_4 rfl (lv_at hl 0 rfl) ?_
  refine vgS hx hb hts hi1 hown hK hP (B) (by have := (pr_o hB).1; omega) (pr_o hB).2.1 (C := RX1) (T := TX1) (N := 9) rfl 7 (by decide) (by decide) (by decide) (by decide) (B + 10) rfl (hts (.fieldLink RX1 39 "CrateHelpers$Problem" "rules" "[LCrateHelpers$Rule;") (by decide +kernel)) (fun _ h9 => h9) dX1_addPart_5 ?_
  refine lv_iload_n hx hb dX1_addPart_8 rfl (lv_at hl 1 rfl) ?_
  refine xaald hx hb hK hP (B + 10) (by have := (pr_o hB).1; omega) 6 14 (pr_o hB).2.2.2.2.2.1 (by decide) rfl hin (B + 12 + 5 * i) (by rw [rf14 (pr_o hB).2.2.2.2.2.1]; rw [nI_clamp (by omega)]) dX1_addPart_9 ?_
  refine lv_iload_n hx hb dX1_addPart_10 rfl (lv_at hl 2 rfl) ?_
  refine lv_iload_n hx hb dX1_addPart_11 rfl (lv_at hl 3 rfl) ?_
  refine vcVv (As := [.int (nI x), .int w]) (rest := []) ⟨hx, hb, hml, hown, hts⟩ (c_X2_add l D K ad hap0 (B + 12 + 5 * i) n x (pr_ru hB h8) hn6 hx6 w I3 G A L (by rw [eI3]; simp only [up2]; rw [if_neg (by omega), if_neg (by omega)]; exact hpn)) (cwV 2 hts gX1_addPart_X2_add rfl rfl rfl (by decide +kernel) ⟨Nat.le_of_ble_eq_true rfl, Nat.le_of_ble_eq_true rfl⟩) hK hP hS (by have := (pr_ru (r := i) hB h8).1; omega) (pr_ru (r := i) hB h8).2.1 (by decide) rfl rfl rfl hl.1 (Nat.le_of_ble_eq_true rfl) (Nat.le_of_ble_eq_true rfl) (Nat.le_of_ble_eq_true rfl) dX1_addPart_12 (fun u8 H locs hw hP hS => ?_) rfl
  obtain ⟨I9, G10, A11, L12⟩ := u8
  have hP : va_P D vwCl (VW K ad I9 G10 A11 L12) H := hP
  injection hw with h1 h2
  injection h2 with h2 h3
  injection h3 with h3 h4
  rw [h2, h4] at hP
  rw [eI3] at h1
  have hP : va_P D vwCl (VW K ad I9 G A11 L) H := hP
  refine lv_aload_n hx hb dX1_addPart_15 rfl (lv_at hl 0 rfl) ?_
  refine vgS hx hb hts hi1 hown hK hP (B) (by have := (pr_o hB).1; omega) (pr_o hB).2.1 (C := RX1) (T := TX1) (N := 9) rfl 7 (by decide) (by decide) (by decide) (by decide) (B + 10) rfl (hts (.fieldLink RX1 39 "CrateHelpers$Problem" "rules" "[LCrateHelpers$Rule;") (by decide +kernel)) (fun _ h9 => h9) dX1_addPart_16 ?_
  refine lv_iload_n hx hb dX1_addPart_19 rfl (lv_at hl 1 rfl) ?_
  refine xaald hx hb hK hP (B + 10) (by have := (pr_o hB).1; omega) 6 14 (pr_o hB).2.2.2.2.2.1 (by decide) rfl hin (B + 12 + 5 * i) (by rw [rf14 (pr_o hB).2.2.2.2.2.1]; rw [nI_clamp (by omega)]) dX1_addPart_20 ?_
  refine vgI hx hb hts hi2 hown hK hP (B + 12 + 5 * i) (by have := (pr_ru (r := i) hB h8).1; omega) (pr_ru (r := i) hB h8).2.1 (C := RX2) (T := TX2) (N := 7) rfl 2 (by decide) (by decide) (by decide) (by decide) (hts (.fieldLink RX1 64 "CrateHelpers$Rule" "parts" "I") (by decide +kernel)) (fun _ h9 => h9) dX1_addPart_21 ?_
  exact W.iret (v := (I9 (B + 12 + 5 * i) 2)) hx hb hr (fun t ht hW => ⟨⟨(I9 (B + 12 + 5 * i) 2), (I9, G, A11, L), rfl, ⟨by rw [h1, up2_s], by rw [h1, h3]⟩, by rw [ht]; exact hP, va_K.moved hW.alike hK⟩, hS.F ht⟩) hS.2.2 dX1_addPart_24

/-! part 24.prob3 -/
/-- do all hold from i on, within k steps? (1: they do) -/
def all1 (p : Nat → Bool) : Nat → Nat → Int32
  | 0, _ => 1
  | k + 1, i => if p i = true then all1 p k (i + 1) else 0
theorem all1_01 (p : Nat → Bool) : ∀ k i, all1 p k i = 0 ∨ all1 p k i = 1
  | 0, _ => Or.inr rfl
  | k + 1, i => by
    unfold all1
    by_cases h : p i = true
    · rw [if_pos h]; exact all1_01 p k (i + 1)
    · rw [if_neg h]; exact Or.inl rfl
/-- a rule treats two variables alike -/
def tal (I A : Nat → Nat → Int32) (q x y : Nat) : Int32 := if (A (q + 3) x = 0 ∧ A (q + 3) y = 0) ∨ (I q 0 ≠ 6 ∧ A (q + 3) x ≠ 0 ∧ A (q + 3) y ≠ 0 ∧ A (q + 4) x = A (q + 4) y) then 1 else 0
theorem tal_01 (I A : Nat → Nat → Int32) (q x y : Nat) : tal I A q x y = 0 ∨ tal I A q x y = 1 := by unfold tal; split; exact Or.inr rfl; exact Or.inl rfl
def peq (A : Nat → Nat → Int32) (B x y i : Nat) : Bool := decide (A (B + 4 + x) i = A (B + 4 + y) i)
def pta (I A : Nat → Nat → Int32) (B x y i : Nat) : Bool := decide (¬ tal I A (B + 12 + 5 * i) x y = 0)
/-- twins (1: they are); sx: how many values x has -/
def twn (I A : Nat → Nat → Int32) (B nr sx x y : Nat) : Int32 := if A (B + 1) x = A (B + 1) y ∧ all1 (peq A B x y) sx 0 = 1 then all1 (pta I A B x y) nr 0 else 0
theorem fl_z {f r : Int32} {p : Nat → Bool} {i : Nat} (h : (if f = 0 then 0 else all1 p 0 i) = r) (hf : f = 0 ∨ f = 1) : f = r := by rcases hf with rfl | rfl <;> exact h

set_option maxHeartbeats 4000000 in
set_option maxRecDepth 100000 in
theorem c_X1_areTwins (l : Launch) (D : va_G) (K : Nat → ClassId) (ad : Nat → Nat) (hap0 : apart ad (fun _ => True)) (B nv nr : Nat) (hB : PrAt B) (x y sx : Nat) (hxv : x < nv) (hyv : y < nv) (hs6 : sx ≤ 6) (I : Nat → Nat → Int32) (G : Nat → Nat → Nat) (A : Nat → Nat → Int32) (L : Nat → Nat → Int64) (hw : PrW I A B nv nr) (hsx : A (B + 1) x = nI sx) : Ci l D K ad yX1_areTwins wsX1_areTwins 2 80 [.ref (ad B), .int (nI x), .int (nI y)] (I, G, A, L) (fun (r : Int32) (u : Mem) => r = twn I A B nr sx x y ∧ u = (I, G, A, L)) := by
  intro sz
  refine Met.ofW (cc := cX1_areTwins) (maxL := 5) (ret := (some .boolean)) (by decide) rfl ?_
  intro p e s m args below meth c s₁ Bd hml hv0
  obtain ⟨rfl, hsz, hP, hK⟩ := hv0
  have hx := Bd.exec
  have hb := Bd.bytes
  have hr := Bd.returns
  have hts := atoms_spec (ws := wsX1_areTwins) Bd.pre
  have hown : s.vm.findClass RX1 = some m.cls := findClass_of_methodNamed Bd.named
  have hlocks := Bd.notSynchronized
  have hi1 : ∀ w ∈ u_ws RX1 TX1 9, w ∈ wsX1_areTwins := fun w h => List.mem_cons_of_mem _ (List.mem_append_left _ (List.mem_append_right _ h))
  have hi2 : ∀ w ∈ u_ws RX2 TX2 7, w ∈ wsX1_areTwins := fun w h => List.mem_cons_of_mem _ (List.mem_append_right _ h)
  subst hsz
  have hap := vF_ap hap0 s.heap.size
  have hS : va_S (vF ad s.heap.size) s.heap s.heap [] := va_S.rf
  have hP : va_P D vwCl (VW K ad I G A L) s.heap := hP
  have hl := lv_entry ([.ref (ad B), .int (nI x), .int (nI y)]) (n := 5) (Nat.le_of_ble_eq_true rfl)
  rw [lg_entry_eq]
  generalize (lg_sl ([.ref (ad B), .int (nI x), .int (nI y)]) ++ List.replicate (5 - (lg_sl ([.ref (ad B), .int (nI x), .int (nI y)])).length) Slot.unset).toArray = ls at hl ⊢
  have hl : lv_has ls 5 [(0, .ref (ad B)), (1, .int (nI x)), (2, .int (nI y))] := hl
  have hnv : nv ≤ 6 := hw.1
  have hnr : nr ≤ 8 := hw.2.1
  have hBv : I B 0 = nI nv := hw.2.2.1
  have hBr : I B 1 = nI nr := hw.2.2.2.1
  have hx1 : vp_in (nI x) (ln (B + 1)) := by rw [(pr_o hB).2.2.2.2.2.2.2.1]; exact vp_in_nI (by omega) (by omega)
  have hy1 : vp_in (nI y) (ln (B + 1)) := by rw [(pr_o hB).2.2.2.2.2.2.2.1]; exact vp_in_nI (by omega) (by omega)
  have hx3 : vp_in (nI x) (ln (B + 3)) := by rw [(pr_o hB).2.2.2.2.2.2.2.2.2.1]; exact vp_in_nI (by omega) (by omega)
  have hy3 : vp_in (nI y) (ln (B + 3)) := by rw [(pr_o hB).2.2.2.2.2.2.2.2.2.1]; exact vp_in_nI (by omega) (by omega)
  refine lv_aload_n hx hb dX1_areTwins_0 rfl (lv_at hl 0 rfl) ?_
  refine vgS hx hb hts hi1 hown hK hP (B) (by have := (pr_o hB).1; omega) (pr_o hB).2.1 (C := RX1) (T := TX1) (N := 9) rfl 4 (by decide) (by decide) (by decide) (by decide) (B + 1) rfl (hts (.fieldLink RX1 25 "CrateHelpers$Problem" "sizes" "[I") (by decide +kernel)) (fun _ h9 => h9) dX1_areTwins_1 ?_
  refine lv_iload_n hx hb dX1_areTwins_4 rfl (lv_at hl 1 rfl) ?_
  refine xiald hx hb hK hP (B + 1) (by have := (pr_o hB).1; omega) (pr_o hB).2.2.1 hx1 dX1_areTwins_5 ?_
  rw [nI_clamp (n := x) (by omega)]
  refine lv_aload_n hx hb dX1_areTwins_6 rfl (lv_at hl 0 rfl) ?_
  refine vgS hx hb hts hi1 hown hK hP (B) (by have := (pr_o hB).1; omega) (pr_o hB).2.1 (C := RX1) (T := TX1) (N := 9) rfl 4 (by decide) (by decide) (by decide) (by decide) (B + 1) rfl (hts (.fieldLink RX1 25 "CrateHelpers$Problem" "sizes" "[I") (by decide +kernel)) (fun _ h9 => h9) dX1_areTwins_7 ?_
  refine lv_iload_n hx hb dX1_areTwins_10 rfl (lv_at hl 2 rfl) ?_
  refine xiald hx hb hK hP (B + 1) (by have := (pr_o hB).1; omega) (pr_o hB).2.2.1 hy1 dX1_areTwins_11 ?_
  rw [nI_clamp (n := y) (by omega)]
  refine lv_icmp_ne (tgt := 19) hx hb dX1_areTwins_12 (by decide) (fun c_1 => ?_) (fun c_1 => ?_)
  · refine lv_iconst (v := 0) hx hb dX1_areTwins_19 (by decide) ?_
    refine lv_istore_n (lv' := [(3, .int 0), (0, .ref (ad B)), (1, .int (nI x)), (2, .int (nI y))]) hx hb dX1_areTwins_20 rfl hl (by decide) rfl (fun ls hl => ?_)
    refine lv_iconst (v := 0) hx hb dX1_areTwins_21 (by decide) ?_
    refine lv_istore (lv' := [(4, .int 0), (3, .int 0), (0, .ref (ad B)), (1, .int (nI x)), (2, .int (nI y))]) hx hb dX1_areTwins_22 hl (by decide) rfl (fun ls hl => ?_)
    have kx2 : ∀ (f : Int32), f = (if A (B + 1) x = A (B + 1) y then all1 (peq A B x y) sx 0 else 0) ∧ (f = 0 ∨ f = 1) → ∀ (H : Heap) (locs : List Loc), va_P D vwCl (VW K ad I G A L) H → va_S (vF ad s.heap.size) s.heap H locs → ∀ (ls : Array Slot), lv_has ls 5 [(3, .int f), (0, .ref (ad B)), (1, .int (nI x)), (2, .int (nI y))] → W p l e ({ frames := 2, cells := 0, slots := 0, locals := 80 }) s m ([.ref (ad B), .int (nI x), .int (nI y)] : List Value).toArray below meth c H locs 0 0 (MQ below (va_Qi (fun (r : Int32) (u : Mem) => r = twn I A B nr sx x y ∧ u = (I, G, A, L)) (vB D K ad) (vF ad s.heap.size)) ([.ref (ad B), .int (nI x), .int (nI y)] : List Value).toArray s 0 0 (vF ad s.heap.size)) (F0 m 72 ls []) := by
      intro f hinv2 H locs hP hS ls hl
      refine lv_iconst (v := 0) hx hb dX1_areTwins_72 (by decide) ?_
      refine lv_istore (lv' := [(4, .int 0), (3, .int f), (0, .ref (ad B)), (1, .int (nI x)), (2, .int (nI y))]) hx hb dX1_areTwins_73 hl (by decide) rfl (fun ls hl => ?_)
      have kx3 : ∀ (f : Int32), f = twn I A B nr sx x y ∧ (f = 0 ∨ f = 1) → ∀ (H : Heap) (locs : List Loc), va_P D vwCl (VW K ad I G A L) H → va_S (vF ad s.heap.size) s.heap H locs → ∀ (ls : Array Slot), lv_has ls 5 [(3, .int f), (0, .ref (ad B)), (1, .int (nI x)), (2, .int (nI y))] → W p l e ({ frames := 2, cells := 0, slots := 0, locals := 80 }) s m ([.ref (ad B), .int (nI x), .int (nI y)] : List Value).toArray below meth c H locs 0 0 (MQ below (va_Qi (fun (r : Int32) (u : Mem) => r = twn I A B nr sx x y ∧ u = (I, G, A, L)) (vB D K ad) (vF ad s.heap.size)) ([.ref (ad B), .int (nI x), .int (nI y)] : List Value).toArray s 0 0 (vF ad s.heap.size)) (F0 m 107 ls []) := by
        intro f hinv3 H locs hP hS ls hl
        refine lv_iload_n hx hb dX1_areTwins_107 rfl (lv_at hl 0 rfl) ?_
        exact W.zret (v := f) hx hb hr (nar01 hinv3.2) (fun t ht hW => ⟨⟨f, (I, G, A, L), rfl, ⟨hinv3.1, rfl⟩, by rw [ht]; exact hP, va_K.moved hW.alike hK⟩, hS.F ht⟩) hS.2.2 dX1_areTwins_108
      have lp3 : ∀ (k3 i : Nat) (f : Int32), i + k3 = nr → (if f = 0 then 0 else all1 (pta I A B x y) k3 i) = twn I A B nr sx x y ∧ (f = 0 ∨ f = 1) → ∀ (H : Heap) (locs : List Loc), va_P D vwCl (VW K ad I G A L) H → va_S (vF ad s.heap.size) s.heap H locs → ∀ (ls : Array Slot), lv_has ls 5 [(4, .int (nI i)), (3, .int f), (0, .ref (ad B)), (1, .int (nI x)), (2, .int (nI y))] → W p l e ({ frames := 2, cells := 0, slots := 0, locals := 80 }) s m ([.ref (ad B), .int (nI x), .int (nI y)] : List Value).toArray below meth c H locs 0 0 (MQ below (va_Qi (fun (r : Int32) (u : Mem) => r = twn I A B nr sx x y ∧ u = (I, G, A, L)) (vB D K ad) (vF ad s.heap.size)) ([.ref (ad B), .int (nI x), .int (nI y)] : List Value).toArray s 0 0 (vF ad s.heap.size)) (F0 m 75 ls []) := by
        intro k3
        induction k3 with
        | zero =>
          intro i f hk3 hinv3 H locs hP hS ls hl
          obtain rfl : nr = i := by omega
          refine lv_iload hx hb dX1_areTwins_75 (lv_at hl 0 rfl) ?_
          refine lv_aload_n hx hb dX1_areTwins_77 rfl (lv_at hl 2 rfl) ?_
          refine vgI hx hb hts hi1 hown hK hP (B) (by have := (pr_o hB).1; omega) (pr_o hB).2.1 (C := RX1) (T := TX1) (N := 9) rfl 1 (by decide) (by decide) (by decide) (by decide) (hts (.fieldLink RX1 15 "CrateHelpers$Problem" "ruleCount" "I") (by decide +kernel)) (fun _ h9 => h9) dX1_areTwins_78 ?_
          rw [hBr]
          refine lv_icmp_ge (tgt := 107) hx hb dX1_areTwins_81 (by decide) (fun _ => ?_) (fun c_4 => absurd (nI_le (Nat.le_refl _) (by omega)) c_4)
          exact kx3 f (⟨fl_z hinv3.1 hinv3.2, hinv3.2⟩) H locs hP hS ls (lv_sub hl [1, 2, 3, 4] rfl)
        | succ k3 ih3 =>
          intro i f hk3 hinv3 H locs hP hS ls hl
          have hlt3 : i < nr := by omega
          have hin3 : vp_in (nI i) (ln (B + 10)) := by rw [(pr_o hB).2.2.2.2.2.2.2.2.2.2.1]; exact vp_in_nI (by omega) (by omega)
          refine lv_iload hx hb dX1_areTwins_75 (lv_at hl 0 rfl) ?_
          refine lv_aload_n hx hb dX1_areTwins_77 rfl (lv_at hl 2 rfl) ?_
          refine vgI hx hb hts hi1 hown hK hP (B) (by have := (pr_o hB).1; omega) (pr_o hB).2.1 (C := RX1) (T := TX1) (N := 9) rfl 1 (by decide) (by decide) (by decide) (by decide) (hts (.fieldLink RX1 15 "CrateHelpers$Problem" "ruleCount" "I") (by decide +kernel)) (fun _ h9 => h9) dX1_areTwins_78 ?_
          rw [hBr]
          refine lv_icmp_ge (tgt := 107) hx hb dX1_areTwins_81 (by decide) (fun c_5 => absurd c_5 (nI_ge (by omega) (by omega))) (fun _ => ?_)
          refine lv_iload_n hx hb dX1_areTwins_84 rfl (lv_at hl 1 rfl) ?_
          refine lv_if_eq (tgt := 107) hx hb dX1_areTwins_85 (by decide) (fun c_6 => ?_) (fun c_6 => ?_)
          · exact kx3 f (⟨by rw [← hinv3.1, if_pos c_6]; exact c_6, hinv3.2⟩) H locs hP hS ls (lv_sub hl [1, 2, 3, 4] rfl)
          · refine lv_aload_n hx hb dX1_areTwins_88 rfl (lv_at hl 2 rfl) ?_
            refine vgS hx hb hts hi1 hown hK hP (B) (by have := (pr_o hB).1; omega) (pr_o hB).2.1 (C := RX1) (T := TX1) (N := 9) rfl 7 (by decide) (by decide) (by decide) (by decide) (B + 10) rfl (hts (.fieldLink RX1 39 "CrateHelpers$Problem" "rules" "[LCrateHelpers$Rule;") (by decide +kernel)) (fun _ h9 => h9) dX1_areTwins_89 ?_
            refine lv_iload hx hb dX1_areTwins_92 (lv_at hl 0 rfl) ?_
            refine xaald hx hb hK hP (B + 10) (by have := (pr_o hB).1; omega) 6 14 (pr_o hB).2.2.2.2.2.1 (by decide) rfl hin3 (B + 12 + 5 * i) (by rw [rf14 (pr_o hB).2.2.2.2.2.1]; rw [nI_clamp (by omega)]) dX1_areTwins_94 ?_
            refine lv_iload_n hx hb dX1_areTwins_95 rfl (lv_at hl 3 rfl) ?_
            refine lv_iload_n hx hb dX1_areTwins_96 rfl (lv_at hl 4 rfl) ?_
            refine vcV (As := [.int (nI x), .int (nI y)]) (rest := []) ⟨hx, hb, hml, hown, hts⟩ (c_X2_treatsAlike l D K ad hap0 (B + 12 + 5 * i) x y (pr_ru hB (by omega)) (by omega) (by omega) I G A L) (cwV 2 hts gX1_areTwins_X2_treatsAlike rfl rfl rfl (by decide +kernel) ⟨Nat.le_of_ble_eq_true rfl, Nat.le_of_ble_eq_true rfl⟩) hK hP hS (by have := (pr_ru (r := i) hB (by omega)).1; omega) (pr_ru (r := i) hB (by omega)).2.1 (by decide) rfl rfl rfl hl.1 (Nat.le_of_ble_eq_true rfl) (Nat.le_of_ble_eq_true rfl) (Nat.le_of_ble_eq_true rfl) dX1_areTwins_97 (fun r7 u8 H locs hw hP hS => ?_) rfl
            obtain ⟨hr7, rfl⟩ := hw
            have hP : va_P D vwCl (VW K ad I G A L) H := hP
            subst hr7
            refine lv_istore_n (lv' := [(3, .int (tal I A (B + 12 + 5 * i) x y)), (4, .int (nI i)), (0, .ref (ad B)), (1, .int (nI x)), (2, .int (nI y))]) hx hb dX1_areTwins_100 rfl hl (by decide) rfl (fun ls hl => ?_)
            refine lv_iinc (v := (nI (i + 1))) (lv' := [(4, .int (nI (i + 1))), (3, .int (tal I A (B + 12 + 5 * i) x y)), (0, .ref (ad B)), (1, .int (nI x)), (2, .int (nI y))]) hx hb dX1_areTwins_101 hl (k := 1) rfl (nI_1 i) (by decide) rfl (fun ls hl => ?_)
            refine lv_goto (tgt := 75) hx hb dX1_areTwins_104 (by decide) ?_
            exact ih3 (i + 1) (tal I A (B + 12 + 5 * i) x y) (by omega) (⟨by rw [← hinv3.1, if_neg c_6]; by_cases h9 : (tal I A (B + 12 + 5 * i) x y) = 0 <;> simp [all1, pta, h9], tal_01 _ _ _ _ _⟩) H locs hP hS ls (lv_sub hl [0, 1, 2, 3, 4] rfl)
      exact lp3 (nr) 0 f (by omega) (⟨by rw [hinv2.1]; unfold twn; by_cases h1 : A (B + 1) x = A (B + 1) y <;> rcases all1_01 (peq A B x y) sx 0 with h2 | h2 <;> simp [h1, h2], hinv2.2⟩) _ _ hP hS ls (lv_sub hl [0, 1, 2, 3, 4] rfl)
    have lp2 : ∀ (k2 i : Nat) (f : Int32), i + k2 = sx → (if f = 0 then 0 else all1 (peq A B x y) k2 i) = (if A (B + 1) x = A (B + 1) y then all1 (peq A B x y) sx 0 else 0) ∧ (f = 0 ∨ f = 1) → ∀ (H : Heap) (locs : List Loc), va_P D vwCl (VW K ad I G A L) H → va_S (vF ad s.heap.size) s.heap H locs → ∀ (ls : Array Slot), lv_has ls 5 [(4, .int (nI i)), (3, .int f), (0, .ref (ad B)), (1, .int (nI x)), (2, .int (nI y))] → W p l e ({ frames := 2, cells := 0, slots := 0, locals := 80 }) s m ([.ref (ad B), .int (nI x), .int (nI y)] : List Value).toArray below meth c H locs 0 0 (MQ below (va_Qi (fun (r : Int32) (u : Mem) => r = twn I A B nr sx x y ∧ u = (I, G, A, L)) (vB D K ad) (vF ad s.heap.size)) ([.ref (ad B), .int (nI x), .int (nI y)] : List Value).toArray s 0 0 (vF ad s.heap.size)) (F0 m 24 ls []) := by
      intro k2
      induction k2 with
      | zero =>
        intro i f hk2 hinv2 H locs hP hS ls hl
        obtain rfl : sx = i := by omega
        refine lv_iload hx hb dX1_areTwins_24 (lv_at hl 0 rfl) ?_
        refine lv_aload_n hx hb dX1_areTwins_26 rfl (lv_at hl 2 rfl) ?_
        refine vgS hx hb hts hi1 hown hK hP (B) (by have := (pr_o hB).1; omega) (pr_o hB).2.1 (C := RX1) (T := TX1) (N := 9) rfl 4 (by decide) (by decide) (by decide) (by decide) (B + 1) rfl (hts (.fieldLink RX1 25 "CrateHelpers$Problem" "sizes" "[I") (by decide +kernel)) (fun _ h9 => h9) dX1_areTwins_27 ?_
        refine lv_iload_n hx hb dX1_areTwins_30 rfl (lv_at hl 3 rfl) ?_
        refine xiald hx hb hK hP (B + 1) (by have := (pr_o hB).1; omega) (pr_o hB).2.2.1 hx1 dX1_areTwins_31 ?_
        rw [nI_clamp (n := x) (by omega)]
        rw [hsx]
        refine lv_icmp_ge (tgt := 72) hx hb dX1_areTwins_32 (by decide) (fun _ => ?_) (fun c_9 => absurd (nI_le (Nat.le_refl _) (by omega)) c_9)
        exact kx2 f (⟨fl_z hinv2.1 hinv2.2, hinv2.2⟩) H locs hP hS ls (lv_sub hl [1, 2, 3, 4] rfl)
      | succ k2 ih2 =>
        intro i f hk2 hinv2 H locs hP hS ls hl
        have hlt2 : i < sx := by omega
        have hi42 : vp_in (nI i) (ln (B + 4 + x)) := by rw [(pr_row hB (by omega)).2]; exact vp_in_nI (by omega) (by omega)
        have hj42 : vp_in (nI i) (ln (B + 4 + y)) := by rw [(pr_row hB (by omega)).2]; exact vp_in_nI (by omega) (by omega)
        refine lv_iload hx hb dX1_areTwins_24 (lv_at hl 0 rfl) ?_
        refine lv_aload_n hx hb dX1_areTwins_26 rfl (lv_at hl 2 rfl) ?_
        refine vgS hx hb hts hi1 hown hK hP (B) (by have := (pr_o hB).1; omega) (pr_o hB).2.1 (C := RX1) (T := TX1) (N := 9) rfl 4 (by decide) (by decide) (by decide) (by decide) (B + 1) rfl (hts (.fieldLink RX1 25 "CrateHelpers$Problem" "sizes" "[I") (by decide +kernel)) (fun _ h9 => h9) dX1_areTwins_27 ?_
        refine lv_iload_n hx hb dX1_areTwins_30 rfl (lv_at hl 3 rfl) ?_
        refine xiald hx hb hK hP (B + 1) (by have := (pr_o hB).1; omega) (pr_o hB).2.2.1 hx1 dX1_areTwins_31 ?_
        rw [nI_clamp (n := x) (by omega)]
        rw [hsx]
        refine lv_icmp_ge (tgt := 72) hx hb dX1_areTwins_32 (by decide) (fun c_10 => absurd c_10 (nI_ge (by omega) (by omega))) (fun _ => ?_)
        refine lv_iload_n hx hb dX1_areTwins_35 rfl (lv_at hl 1 rfl) ?_
        refine lv_if_eq (tgt := 72) hx hb dX1_areTwins_36 (by decide) (fun c_11 => ?_) (fun c_11 => ?_)
        · exact kx2 f (⟨by rw [← hinv2.1, if_pos c_11]; exact c_11, hinv2.2⟩) H locs hP hS ls (lv_sub hl [1, 2, 3, 4] rfl)
        · refine lv_aload_n hx hb dX1_areTwins_39 rfl (lv_at hl 2 rfl) ?_
          refine vgS hx hb hts hi1 hown hK hP (B) (by have := (pr_o hB).1; omega) (pr_o hB).2.1 (C := RX1) (T := TX1) (N := 9) rfl 6 (by decide) (by decide) (by decide) (by decide) (B + 3) rfl (hts (.fieldLink RX1 34 "CrateHelpers$Problem" "prices" "[[I") (by decide +kernel)) (fun _ h9 => h9) dX1_areTwins_40 ?_
          refine lv_iload_n hx hb dX1_areTwins_43 rfl (lv_at hl 3 rfl) ?_
          refine xgald hx hb hK hP (B + 3) (by have := (pr_o hB).1; omega) (pr_o hB).2.2.2.2.1 hx3 (B + 4 + x) (by rw [rf15 (pr_o hB).2.2.2.2.1]; rw [nI_clamp (by omega)]) dX1_areTwins_44 ?_
          refine lv_iload hx hb dX1_areTwins_45 (lv_at hl 0 rfl) ?_
          refine xiald hx hb hK hP (B + 4 + x) (by have := (pr_o hB).1; omega) (pr_row (x := x) hB (by omega)).1 hi42 dX1_areTwins_47 ?_
          rw [nI_clamp (n := i) (by omega)]
          refine lv_aload_n hx hb dX1_areTwins_48 rfl (lv_at hl 2 rfl) ?_
          refine vgS hx hb hts hi1 hown hK hP (B) (by have := (pr_o hB).1; omega) (pr_o hB).2.1 (C := RX1) (T := TX1) (N := 9) rfl 6 (by decide) (by decide) (by decide) (by decide) (B + 3) rfl (hts (.fieldLink RX1 34 "CrateHelpers$Problem" "prices" "[[I") (by decide +kernel)) (fun _ h9 => h9) dX1_areTwins_49 ?_
          refine lv_iload_n hx hb dX1_areTwins_52 rfl (lv_at hl 4 rfl) ?_
          refine xgald hx hb hK hP (B + 3) (by have := (pr_o hB).1; omega) (pr_o hB).2.2.2.2.1 hy3 (B + 4 + y) (by rw [rf15 (pr_o hB).2.2.2.2.1]; rw [nI_clamp (by omega)]) dX1_areTwins_53 ?_
          refine lv_iload hx hb dX1_areTwins_54 (lv_at hl 0 rfl) ?_
          refine xiald hx hb hK hP (B + 4 + y) (by have := (pr_o hB).1; omega) (pr_row (x := y) hB (by omega)).1 hj42 dX1_areTwins_56 ?_
          rw [nI_clamp (n := i) (by omega)]
          refine lv_icmp_ne (tgt := 64) hx hb dX1_areTwins_57 (by decide) (fun c_12 => ?_) (fun c_12 => ?_)
          · refine lv_iconst (v := 0) hx hb dX1_areTwins_64 (by decide) ?_
            refine lv_istore_n (lv' := [(3, .int 0), (4, .int (nI i)), (0, .ref (ad B)), (1, .int (nI x)), (2, .int (nI y))]) hx hb dX1_areTwins_65 rfl hl (by decide) rfl (fun ls hl => ?_)
            refine lv_iinc (v := (nI (i + 1))) (lv' := [(4, .int (nI (i + 1))), (3, .int 0), (0, .ref (ad B)), (1, .int (nI x)), (2, .int (nI y))]) hx hb dX1_areTwins_66 hl (k := 1) rfl (nI_1 i) (by decide) rfl (fun ls hl => ?_)
            refine lv_goto (tgt := 24) hx hb dX1_areTwins_69 (by decide) ?_
            exact ih2 (i + 1) 0 (by omega) (⟨by rw [← hinv2.1, if_neg c_11]; simp [all1, peq, c_12], by decide⟩) H locs hP hS ls (lv_sub hl [0, 1, 2, 3, 4] rfl)
          · refine lv_iconst (v := 1) hx hb dX1_areTwins_60 (by decide) ?_
            refine lv_goto (tgt := 65) hx hb dX1_areTwins_61 (by decide) ?_
            refine lv_istore_n (lv' := [(3, .int 1), (4, .int (nI i)), (0, .ref (ad B)), (1, .int (nI x)), (2, .int (nI y))]) hx hb dX1_areTwins_65 rfl hl (by decide) rfl (fun ls hl => ?_)
            refine lv_iinc (v := (nI (i + 1))) (lv' := [(4, .int (nI (i + 1))), (3, .int 1), (0, .ref (ad B)), (1, .int (nI x)), (2, .int (nI y))]) hx hb dX1_areTwins_66 hl (k := 1) rfl (nI_1 i) (by decide) rfl (fun ls hl => ?_)
            refine lv_goto (tgt := 24) hx hb dX1_areTwins_69 (by decide) ?_
            exact ih2 (i + 1) 1 (by omega) (⟨by rw [← hinv2.1, if_neg c_11]; simp [all1, peq, c_12], by decide⟩) H locs hP hS ls (lv_sub hl [0, 1, 2, 3, 4] rfl)
    exact lp2 (sx) 0 0 (by omega) (⟨by simp [c_1], by decide⟩) _ _ hP hS ls (lv_sub hl [0, 1, 2, 3, 4] rfl)
  · refine lv_iconst (v := 1) hx hb dX1_areTwins_15 (by decide) ?_
    refine lv_goto (tgt := 20) hx hb dX1_areTwins_16 (by decide) ?_
    refine lv_istore_n (lv' := [(3, .int 1), (0, .ref (ad B)), (1, .int (nI x)), (2, .int (nI y))]) hx hb dX1_areTwins_20 rfl hl (by decide) rfl (fun ls hl => ?_)
    refine lv_iconst (v := 0) hx hb dX1_areTwins_21 (by decide) ?_
    refine lv_istore (lv' := [(4, .int 0), (3, .int 1), (0, .ref (ad B)), (1, .int (nI x)), (2, .int (nI y))]) hx hb dX1_areTwins_22 hl (by decide) rfl (fun ls hl => ?_)
    have kx13 : ∀ (f : Int32), f = (if A (B + 1) x = A (B + 1) y then all1 (peq A B x y) sx 0 else 0) ∧ (f = 0 ∨ f = 1) → ∀ (H : Heap) (locs : List Loc), va_P D vwCl (VW K ad I G A L) H → va_S (vF ad s.heap.size) s.heap H locs → ∀ (ls : Array Slot), lv_has ls 5 [(3, .int f), (0, .ref (ad B)), (1, .int (nI x)), (2, .int (nI y))] → W p l e ({ frames := 2, cells := 0, slots := 0, locals := 80 }) s m ([.ref (ad B), .int (nI x), .int (nI y)] : List Value).toArray below meth c H locs 0 0 (MQ below (va_Qi (fun (r : Int32) (u : Mem) => r = twn I A B nr sx x y ∧ u = (I, G, A, L)) (vB D K ad) (vF ad s.heap.size)) ([.ref (ad B), .int (nI x), .int (nI y)] : List Value).toArray s 0 0 (vF ad s.heap.size)) (F0 m 72 ls []) := by
      intro f hinv13 H locs hP hS ls hl
      refine lv_iconst (v := 0) hx hb dX1_areTwins_72 (by decide) ?_
      refine lv_istore (lv' := [(4, .int 0), (3, .int f), (0, .ref (ad B)), (1, .int (nI x)), (2, .int (nI y))]) hx hb dX1_areTwins_73 hl (by decide) rfl (fun ls hl => ?_)
      have kx14 : ∀ (f : Int32), f = twn I A B nr sx x y ∧ (f = 0 ∨ f = 1) → ∀ (H : Heap) (locs : List Loc), va_P D vwCl (VW K ad I G A L) H → va_S (vF ad s.heap.size) s.heap H locs → ∀ (ls : Array Slot), lv_has ls 5 [(3, .int f), (0, .ref (ad B)), (1, .int (nI x)), (2, .int (nI y))] → W p l e ({ frames := 2, cells := 0, slots := 0, locals := 80 }) s m ([.ref (ad B), .int (nI x), .int (nI y)] : List Value).toArray below meth c H locs 0 0 (MQ below (va_Qi (fun (r : Int32) (u : Mem) => r = twn I A B nr sx x y ∧ u = (I, G, A, L)) (vB D K ad) (vF ad s.heap.size)) ([.ref (ad B), .int (nI x), .int (nI y)] : List Value).toArray s 0 0 (vF ad s.heap.size)) (F0 m 107 ls []) := by
        intro f hinv14 H locs hP hS ls hl
        refine lv_iload_n hx hb dX1_areTwins_107 rfl (lv_at hl 0 rfl) ?_
        exact W.zret (v := f) hx hb hr (nar01 hinv14.2) (fun t ht hW => ⟨⟨f, (I, G, A, L), rfl, ⟨hinv14.1, rfl⟩, by rw [ht]; exact hP, va_K.moved hW.alike hK⟩, hS.F ht⟩) hS.2.2 dX1_areTwins_108
      have lp14 : ∀ (k14 i : Nat) (f : Int32), i + k14 = nr → (if f = 0 then 0 else all1 (pta I A B x y) k14 i) = twn I A B nr sx x y ∧ (f = 0 ∨ f = 1) → ∀ (H : Heap) (locs : List Loc), va_P D vwCl (VW K ad I G A L) H → va_S (vF ad s.heap.size) s.heap H locs → ∀ (ls : Array Slot), lv_has ls 5 [(4, .int (nI i)), (3, .int f), (0, .ref (ad B)), (1, .int (nI x)), (2, .int (nI y))] → W p l e ({ frames := 2, cells := 0, slots := 0, locals := 80 }) s m ([.ref (ad B), .int (nI x), .int (nI y)] : List Value).toArray below meth c H locs 0 0 (MQ below (va_Qi (fun (r : Int32) (u : Mem) => r = twn I A B nr sx x y ∧ u = (I, G, A, L)) (vB D K ad) (vF ad s.heap.size)) ([.ref (ad B), .int (nI x), .int (nI y)] : List Value).toArray s 0 0 (vF ad s.heap.size)) (F0 m 75 ls []) := by
        intro k14
        induction k14 with
        | zero =>
          intro i f hk14 hinv14 H locs hP hS ls hl
          obtain rfl : nr = i := by omega
          refine lv_iload hx hb dX1_areTwins_75 (lv_at hl 0 rfl) ?_
          refine lv_aload_n hx hb dX1_areTwins_77 rfl (lv_at hl 2 rfl) ?_
          refine vgI hx hb hts hi1 hown hK hP (B) (by have := (pr_o hB).1; omega) (pr_o hB).2.1 (C := RX1) (T := TX1) (N := 9) rfl 1 (by decide) (by decide) (by decide) (by decide) (hts (.fieldLink RX1 15 "CrateHelpers$Problem" "ruleCount" "I") (by decide +kernel)) (fun _ h9 => h9) dX1_areTwins_78 ?_
          rw [hBr]
          refine lv_icmp_ge (tgt := 107) hx hb dX1_areTwins_81 (by decide) (fun _ => ?_) (fun c_15 => absurd (nI_le (Nat.le_refl _) (by omega)) c_15)
          exact kx14 f (⟨fl_z hinv14.1 hinv14.2, hinv14.2⟩) H locs hP hS ls (lv_sub hl [1, 2, 3, 4] rfl)
        | succ k14 ih14 =>
          intro i f hk14 hinv14 H locs hP hS ls hl
          have hlt14 : i < nr := by omega
          have hin14 : vp_in (nI i) (ln (B + 10)) := by rw [(pr_o hB).2.2.2.2.2.2.2.2.2.2.1]; exact vp_in_nI (by omega) (by omega)
          refine lv_iload hx hb dX1_areTwins_75 (lv_at hl 0 rfl) ?_
          refine lv_aload_n hx hb dX1_areTwins_77 rfl (lv_at hl 2 rfl) ?_
          refine vgI hx hb hts hi1 hown hK hP (B) (by have := (pr_o hB).1; omega) (pr_o hB).2.1 (C := RX1) (T := TX1) (N := 9) rfl 1 (by decide) (by decide) (by decide) (by decide) (hts (.fieldLink RX1 15 "CrateHelpers$Problem" "ruleCount" "I") (by decide +kernel)) (fun _ h9 => h9) dX1_areTwins_78 ?_
          rw [hBr]
          refine lv_icmp_ge (tgt := 107) hx hb dX1_areTwins_81 (by decide) (fun c_16 => absurd c_16 (nI_ge (by omega) (by omega))) (fun _ => ?_)
          refine lv_iload_n hx hb dX1_areTwins_84 rfl (lv_at hl 1 rfl) ?_
          refine lv_if_eq (tgt := 107) hx hb dX1_areTwins_85 (by decide) (fun c_17 => ?_) (fun c_17 => ?_)
          · exact kx14 f (⟨by rw [← hinv14.1, if_pos c_17]; exact c_17, hinv14.2⟩) H locs hP hS ls (lv_sub hl [1, 2, 3, 4] rfl)
          · refine lv_aload_n hx hb dX1_areTwins_88 rfl (lv_at hl 2 rfl) ?_
            refine vgS hx hb hts hi1 hown hK hP (B) (by have := (pr_o hB).1; omega) (pr_o hB).2.1 (C := RX1) (T := TX1) (N := 9) rfl 7 (by decide) (by decide) (by decide) (by decide) (B + 10) rfl (hts (.fieldLink RX1 39 "CrateHelpers$Problem" "rules" "[LCrateHelpers$Rule;") (by decide +kernel)) (fun _ h9 => h9) dX1_areTwins_89 ?_
            refine lv_iload hx hb dX1_areTwins_92 (lv_at hl 0 rfl) ?_
            refine xaald hx hb hK hP (B + 10) (by have := (pr_o hB).1; omega) 6 14 (pr_o hB).2.2.2.2.2.1 (by decide) rfl hin14 (B + 12 + 5 * i) (by rw [rf14 (pr_o hB).2.2.2.2.2.1]; rw [nI_clamp (by omega)]) dX1_areTwins_94 ?_
            refine lv_iload_n hx hb dX1_areTwins_95 rfl (lv_at hl 3 rfl) ?_
            refine lv_iload_n hx hb dX1_areTwins_96 rfl (lv_at hl 4 rfl) ?_
            refine vcV (As := [.int (nI x), .int (nI y)]) (rest := []) ⟨hx, hb, hml, hown, hts⟩ (c_X2_treatsAlike l D K ad hap0 (B + 12 + 5 * i) x y (pr_ru hB (by omega)) (by omega) (by omega) I G A L) (cwV 2 hts gX1_areTwins_X2_treatsAlike rfl rfl rfl (by decide +kernel) ⟨Nat.le_of_ble_eq_true rfl, Nat.le_of_ble_eq_true rfl⟩) hK hP hS (by have := (pr_ru (r := i) hB (by omega)).1; omega) (pr_ru (r := i) hB (by omega)).2.1 (by decide) rfl rfl rfl hl.1 (Nat.le_of_ble_eq_true rfl) (Nat.le_of_ble_eq_true rfl) (Nat.le_of_ble_eq_true rfl) dX1_areTwins_97 (fun r18 u19 H locs hw hP hS => ?_) rfl
            obtain ⟨hr18, rfl⟩ := hw
            have hP : va_P D vwCl (VW K ad I G A L) H := hP
            subst hr18
            refine lv_istore_n (lv' := [(3, .int (tal I A (B + 12 + 5 * i) x y)), (4, .int (nI i)), (0, .ref (ad B)), (1, .int (nI x)), (2, .int (nI y))]) hx hb dX1_areTwins_100 rfl hl (by decide) rfl (fun ls hl => ?_)
            refine lv_iinc (v := (nI (i + 1))) (lv' := [(4, .int (nI (i + 1))), (3, .int (tal I A (B + 12 + 5 * i) x y)), (0, .ref (ad B)), (1, .int (nI x)), (2, .int (nI y))]) hx hb dX1_areTwins_101 hl (k := 1) rfl (nI_1 i) (by decide) rfl (fun ls hl => ?_)
            refine lv_goto (tgt := 75) hx hb dX1_areTwins_104 (by decide) ?_
            exact ih14 (i + 1) (tal I A (B + 12 + 5 * i) x y) (by omega) (⟨by rw [← hinv14.1, if_neg c_17]; by_cases h9 : (tal I A (B + 12 + 5 * i) x y) = 0 <;> simp [all1, pta, h9], tal_01 _ _ _ _ _⟩) H locs hP hS ls (lv_sub hl [0, 1, 2, 3, 4] rfl)
      exact lp14 (nr) 0 f (by omega) (⟨by rw [hinv13.1]; unfold twn; by_cases h1 : A (B + 1) x = A (B + 1) y <;> rcases all1_01 (peq A B x y) sx 0 with h2 | h2 <;> simp [h1, h2], hinv13.2⟩) _ _ hP hS ls (lv_sub hl [0, 1, 2, 3, 4] rfl)
    have lp13 : ∀ (k13 i : Nat) (f : Int32), i + k13 = sx → (if f = 0 then 0 else all1 (peq A B x y) k13 i) = (if A (B + 1) x = A (B + 1) y then all1 (peq A B x y) sx 0 else 0) ∧ (f = 0 ∨ f = 1) → ∀ (H : Heap) (locs : List Loc), va_P D vwCl (VW K ad I G A L) H → va_S (vF ad s.heap.size) s.heap H locs → ∀ (ls : Array Slot), lv_has ls 5 [(4, .int (nI i)), (3, .int f), (0, .ref (ad B)), (1, .int (nI x)), (2, .int (nI y))] → W p l e ({ frames := 2, cells := 0, slots := 0, locals := 80 }) s m ([.ref (ad B), .int (nI x), .int (nI y)] : List Value).toArray below meth c H locs 0 0 (MQ below (va_Qi (fun (r : Int32) (u : Mem) => r = twn I A B nr sx x y ∧ u = (I, G, A, L)) (vB D K ad) (vF ad s.heap.size)) ([.ref (ad B), .int (nI x), .int (nI y)] : List Value).toArray s 0 0 (vF ad s.heap.size)) (F0 m 24 ls []) := by
      intro k13
      induction k13 with
      | zero =>
        intro i f hk13 hinv13 H locs hP hS ls hl
        obtain rfl : sx = i := by omega
        refine lv_iload hx hb dX1_areTwins_24 (lv_at hl 0 rfl) ?_
        refine lv_aload_n hx hb dX1_areTwins_26 rfl (lv_at hl 2 rfl) ?_
        refine vgS hx hb hts hi1 hown hK hP (B) (by have := (pr_o hB).1; omega) (pr_o hB).2.1 (C := RX1) (T := TX1) (N := 9) rfl 4 (by decide) (by decide) (by decide) (by decide) (B + 1) rfl (hts (.fieldLink RX1 25 "CrateHelpers$Problem" "sizes" "[I") (by decide +kernel)) (fun _ h9 => h9) dX1_areTwins_27 ?_
        refine lv_iload_n hx hb dX1_areTwins_30 rfl (lv_at hl 3 rfl) ?_
        refine xiald hx hb hK hP (B + 1) (by have := (pr_o hB).1; omega) (pr_o hB).2.2.1 hx1 dX1_areTwins_31 ?_
        rw [nI_clamp (n := x) (by omega)]
        rw [hsx]
        refine lv_icmp_ge (tgt := 72) hx hb dX1_areTwins_32 (by decide) (fun _ => ?_) (fun c_20 => absurd (nI_le (Nat.le_refl _) (by omega)) c_20)
        exact kx13 f (⟨fl_z hinv13.1 hinv13.2, hinv13.2⟩) H locs hP hS ls (lv_sub hl [1, 2, 3, 4] rfl)
      | succ k13 ih13 =>
        intro i f hk13 hinv13 H locs hP hS ls hl
        have hlt13 : i < sx := by omega
        have hi413 : vp_in (nI i) (ln (B + 4 + x)) := by rw [(pr_row hB (by omega)).2]; exact vp_in_nI (by omega) (by omega)
        have hj413 : vp_in (nI i) (ln (B + 4 + y)) := by rw [(pr_row hB (by omega)).2]; exact vp_in_nI (by omega) (by omega)
        refine lv_iload hx hb dX1_areTwins_24 (lv_at hl 0 rfl) ?_
        refine lv_aload_n hx hb dX1_areTwins_26 rfl (lv_at hl 2 rfl) ?_
        refine vgS hx hb hts hi1 hown hK hP (B) (by have := (pr_o hB).1; omega) (pr_o hB).2.1 (C := RX1) (T := TX1) (N := 9) rfl 4 (by decide) (by decide) (by decide) (by decide) (B + 1) rfl (hts (.fieldLink RX1 25 "CrateHelpers$Problem" "sizes" "[I") (by decide +kernel)) (fun _ h9 => h9) dX1_areTwins_27 ?_
        refine lv_iload_n hx hb dX1_areTwins_30 rfl (lv_at hl 3 rfl) ?_
        refine xiald hx hb hK hP (B + 1) (by have := (pr_o hB).1; omega) (pr_o hB).2.2.1 hx1 dX1_areTwins_31 ?_
        rw [nI_clamp (n := x) (by omega)]
        rw [hsx]
        refine lv_icmp_ge (tgt := 72) hx hb dX1_areTwins_32 (by decide) (fun c_21 => absurd c_21 (nI_ge (by omega) (by omega))) (fun _ => ?_)
        refine lv_iload_n hx hb dX1_areTwins_35 rfl (lv_at hl 1 rfl) ?_
        refine lv_if_eq (tgt := 72) hx hb dX1_areTwins_36 (by decide) (fun c_22 => ?_) (fun c_22 => ?_)
        · exact kx13 f (⟨by rw [← hinv13.1, if_pos c_22]; exact c_22, hinv13.2⟩) H locs hP hS ls (lv_sub hl [1, 2, 3, 4] rfl)
        · refine lv_aload_n hx hb dX1_areTwins_39 rfl (lv_at hl 2 rfl) ?_
          refine vgS hx hb hts hi1 hown hK hP (B) (by have := (pr_o hB).1; omega) (pr_o hB).2.1 (C := RX1) (T := TX1) (N := 9) rfl 6 (by decide) (by decide) (by decide) (by decide) (B + 3) rfl (hts (.fieldLink RX1 34 "CrateHelpers$Problem" "prices" "[[I") (by decide +kernel)) (fun _ h9 => h9) dX1_areTwins_40 ?_
          refine lv_iload_n hx hb dX1_areTwins_43 rfl (lv_at hl 3 rfl) ?_
          refine xgald hx hb hK hP (B + 3) (by have := (pr_o hB).1; omega) (pr_o hB).2.2.2.2.1 hx3 (B + 4 + x) (by rw [rf15 (pr_o hB).2.2.2.2.1]; rw [nI_clamp (by omega)]) dX1_areTwins_44 ?_
          refine lv_iload hx hb dX1_areTwins_45 (lv_at hl 0 rfl) ?_
          refine xiald hx hb hK hP (B + 4 + x) (by have := (pr_o hB).1; omega) (pr_row (x := x) hB (by omega)).1 hi413 dX1_areTwins_47 ?_
          rw [nI_clamp (n := i) (by omega)]
          refine lv_aload_n hx hb dX1_areTwins_48 rfl (lv_at hl 2 rfl) ?_
          refine vgS hx hb hts hi1 hown hK hP (B) (by have := (pr_o hB).1; omega) (pr_o hB).2.1 (C := RX1) (T := TX1) (N := 9) rfl 6 (by decide) (by decide) (by decide) (by decide) (B + 3) rfl (hts (.fieldLink RX1 34 "CrateHelpers$Problem" "prices" "[[I") (by decide +kernel)) (fun _ h9 => h9) dX1_areTwins_49 ?_
          refine lv_iload_n hx hb dX1_areTwins_52 rfl (lv_at hl 4 rfl) ?_
          refine xgald hx hb hK hP (B + 3) (by have := (pr_o hB).1; omega) (pr_o hB).2.2.2.2.1 hy3 (B + 4 + y) (by rw [rf15 (pr_o hB).2.2.2.2.1]; rw [nI_clamp (by omega)]) dX1_areTwins_53 ?_
          refine lv_iload hx hb dX1_areTwins_54 (lv_at hl 0 rfl) ?_
          refine xiald hx hb hK hP (B + 4 + y) (by have := (pr_o hB).1; omega) (pr_row (x := y) hB (by omega)).1 hj413 dX1_areTwins_56 ?_
          rw [nI_clamp (n := i) (by omega)]
          refine lv_icmp_ne (tgt := 64) hx hb dX1_areTwins_57 (by decide) (fun c_23 => ?_) (fun c_23 => ?_)
          · refine lv_iconst (v := 0) hx hb dX1_areTwins_64 (by decide) ?_
            refine lv_istore_n (lv' := [(3, .int 0), (4, .int (nI i)), (0, .ref (ad B)), (1, .int (nI x)), (2, .int (nI y))]) hx hb dX1_areTwins_65 rfl hl (by decide) rfl (fun ls hl => ?_)
            refine lv_iinc (v := (nI (i + 1))) (lv' := [(4, .int (nI (i + 1))), (3, .int 0), (0, .ref (ad B)), (1, .int (nI x)), (2, .int (nI y))]) hx hb dX1_areTwins_66 hl (k := 1) rfl (nI_1 i) (by decide) rfl (fun ls hl => ?_)
            refine lv_goto (tgt := 24) hx hb dX1_areTwins_69 (by decide) ?_
            exact ih13 (i + 1) 0 (by omega) (⟨by rw [← hinv13.1, if_neg c_22]; simp [all1, peq, c_23], by decide⟩) H locs hP hS ls (lv_sub hl [0, 1, 2, 3, 4] rfl)
          · refine lv_iconst (v := 1) hx hb dX1_areTwins_60 (by decide) ?_
            refine lv_goto (tgt := 65) hx hb dX1_areTwins_61 (by decide) ?_
            refine lv_istore_n (lv' := [(3, .int 1), (4, .int (nI i)), (0, .ref (ad B)), (1, .int (nI x)), (2, .int (nI y))]) hx hb dX1_areTwins_65 rfl hl (by decide) rfl (fun ls hl => ?_)
            refine lv_iinc (v := (nI (i + 1))) (lv' := [(4, .int (nI (i + 1))), (3, .int 1), (0, .ref (ad B)), (1, .int (nI x)), (2, .int (nI y))]) hx hb dX1_areTwins_66 hl (k := 1) rfl (nI_1 i) (by decide) rfl (fun ls hl => ?_)
            refine lv_goto (tgt := 24) hx hb dX1_areTwins_69 (by decide) ?_
            exact ih13 (i + 1) 1 (by omega) (⟨by rw [← hinv13.1, if_neg c_22]; simp [all1, peq, c_23], by decide⟩) H locs hP hS ls (lv_sub hl [0, 1, 2, 3, 4] rfl)
    exact lp13 (sx) 0 1 (by omega) (⟨by simp [c_1], by decide⟩) _ _ hP hS ls (lv_sub hl [0, 1, 2, 3, 4] rfl)

/-! part 24.prob4 -/
def szo (A : Nat → Nat → Int32) (B x : Nat) : Nat := (A (B + 1) x).toNatClampNeg
theorem pr_sz {I A : Nat → Nat → Int32} {B nv nr x : Nat} (h : PrW I A B nv nr) (hx : x < nv) : A (B + 1) x = nI (szo A B x) ∧ 1 ≤ szo A B x ∧ szo A B x ≤ 6 := by
  obtain ⟨t, h1, h2, h3⟩ := h.2.2.2.2.1 x hx
  have e : szo A B x = t := by unfold szo; rw [h3]; exact nI_clamp (by omega)
  rw [e]; exact ⟨h3, h1, h2⟩
/-- a variable before the last that is its twin and has the greater value -/
def ptw (I A : Nat → Nat → Int32) (B v nr ld a : Nat) : Bool := decide (A v ld < A v a ∧ ¬ twn I A B nr (szo A B a) a ld = 0)
def ftw (I A : Nat → Nat → Int32) (B v nr ld : Nat) : Int32 := fst1 (ptw I A B v nr ld) ld 0
theorem gen_at {A1 A : Nat → Nat → Int32} {v x j k : Nat} (hg : ∀ t, up2 A1 v x t = up2 A v x t) (h : j ≠ v) : A1 j k = A j k := by
  have := congrFun (congrFun (hg 0) j) k
  rw [up2_j h, up2_j h] at this
  exact this
theorem up2_id {α : Type} {F : Nat → Nat → α} {j k : Nat} {y : α} (h : F j k = y) : up2 F j k y = F := by
  subst h
  funext a b
  by_cases h : a = j ∧ b = k
  · obtain ⟨rfl, rfl⟩ := h; rw [up2_s]
  · unfold up2; rw [if_neg h]
/-- a rule of which x is a part is broken with x at y -/
def plo (I A : Nat → Nat → Int32) (B v x y i : Nat) : Bool := decide (¬ A (B + 12 + 5 * i + 3) x = 0 ∧ ¬ brk I (up2 A v x (nI y)) (B + 12 + 5 * i) v (B + 1) (nP I (B + 12 + 5 * i)) = 0)
/-- the least cost from y on, within k steps -/
def lcs (I A : Nat → Nat → Int32) (B v x nr : Nat) : Nat → Nat → Int32 → Int32
  | 0, _, b => b
  | k + 1, y, b => lcs I A B v x nr k (y + 1) (if ex1 (plo I A B v x y) nr 0 = 0 ∧ (b = -1000000 ∨ A (B + 4 + x) y < b) then A (B + 4 + x) y else b)

set_option maxHeartbeats 4000000 in
set_option maxRecDepth 100000 in
theorem c_X1_firstTwin (l : Launch) (D : va_G) (K : Nat → ClassId) (ad : Nat → Nat) (hap0 : apart ad (fun _ => True)) (B v nv nr ld : Nat) (hB : PrAt B) (hv : IA v 6) (hldv : ld < nv) (I : Nat → Nat → Int32) (G : Nat → Nat → Nat) (A : Nat → Nat → Int32) (L : Nat → Nat → Int64) (hw : PrW I A B nv nr) : Ci l D K ad yX1_firstTwin wsX1_firstTwin 3 120 [.ref (ad B), .ref (ad v), .int (nI ld)] (I, G, A, L) (fun (r : Int32) (u : Mem) => r = ftw I A B v nr ld ∧ u = (I, G, A, L)) := by
  intro sz
  refine Met.ofW (cc := cX1_firstTwin) (maxL := 4) (ret := (some .int)) (by decide) rfl ?_
  intro p e s m args below meth c s₁ Bd hml hv0
  obtain ⟨rfl, hsz, hP, hK⟩ := hv0
  have hx := Bd.exec
  have hb := Bd.bytes
  have hr := Bd.returns
  have hts := atoms_spec (ws := wsX1_firstTwin) Bd.pre
  have hown : s.vm.findClass RX1 = some m.cls := findClass_of_methodNamed Bd.named
  have hlocks := Bd.notSynchronized
  have hi1 : ∀ w ∈ u_ws RX1 TX1 9, w ∈ wsX1_firstTwin := fun w h => List.mem_cons_of_mem _ (List.mem_append_left _ (List.mem_append_right _ h))
  have hi2 : ∀ w ∈ u_ws RX2 TX2 7, w ∈ wsX1_firstTwin := fun w h => List.mem_cons_of_mem _ (List.mem_append_right _ h)
  subst hsz
  have hap := vF_ap hap0 s.heap.size
  have hS : va_S (vF ad s.heap.size) s.heap s.heap [] := va_S.rf
  have hP : va_P D vwCl (VW K ad I G A L) s.heap := hP
  have hl := lv_entry ([.ref (ad B), .ref (ad v), .int (nI ld)]) (n := 4) (Nat.le_of_ble_eq_true rfl)
  rw [lg_entry_eq]
  generalize (lg_sl ([.ref (ad B), .ref (ad v), .int (nI ld)]) ++ List.replicate (4 - (lg_sl ([.ref (ad B), .ref (ad v), .int (nI ld)])).length) Slot.unset).toArray = ls at hl ⊢
  have hl : lv_has ls 4 [(0, .ref (ad B)), (1, .ref (ad v)), (2, .int (nI ld))] := hl
  have hnv : nv ≤ 6 := hw.1
  have hnr : nr ≤ 8 := hw.2.1
  have hBv : I B 0 = nI nv := hw.2.2.1
  have hBr : I B 1 = nI nr := hw.2.2.2.1
  refine lv_iconst (v := 0) hx hb dX1_firstTwin_0 (by decide) ?_
  refine lv_istore_n (lv' := [(3, .int 0), (0, .ref (ad B)), (1, .ref (ad v)), (2, .int (nI ld))]) hx hb dX1_firstTwin_1 rfl hl (by decide) rfl (fun ls hl => ?_)
  have kx1 : ∀ (_ : Unit), fst1 (ptw I A B v nr ld) 0 ld = ftw I A B v nr ld → ∀ (H : Heap) (locs : List Loc), va_P D vwCl (VW K ad I G A L) H → va_S (vF ad s.heap.size) s.heap H locs → ∀ (ls : Array Slot), lv_has ls 4 [(3, .int (nI ld)), (0, .ref (ad B)), (1, .ref (ad v)), (2, .int (nI ld))] → W p l e ({ frames := 3, cells := 0, slots := 0, locals := 120 }) s m ([.ref (ad B), .ref (ad v), .int (nI ld)] : List Value).toArray below meth c H locs 0 0 (MQ below (va_Qi (fun (r : Int32) (u : Mem) => r = ftw I A B v nr ld ∧ u = (I, G, A, L)) (vB D K ad) (vF ad s.heap.size)) ([.ref (ad B), .ref (ad v), .int (nI ld)] : List Value).toArray s 0 0 (vF ad s.heap.size)) (F0 m 33 ls []) := by
    intro _ hinv1 H locs hP hS ls hl
    refine lv_bipush (v := (-9)) hx hb dX1_firstTwin_33 (by decide) ?_
    exact W.iret (v := (-9)) hx hb hr (fun t ht hW => ⟨⟨(-9), (I, G, A, L), rfl, ⟨hinv1, rfl⟩, by rw [ht]; exact hP, va_K.moved hW.alike hK⟩, hS.F ht⟩) hS.2.2 dX1_firstTwin_35
  have lp1 : ∀ (k1 a : Nat), a + k1 = ld → fst1 (ptw I A B v nr ld) k1 a = ftw I A B v nr ld → ∀ (H : Heap) (locs : List Loc), va_P D vwCl (VW K ad I G A L) H → va_S (vF ad s.heap.size) s.heap H locs → ∀ (ls : Array Slot), lv_has ls 4 [(3, .int (nI a)), (0, .ref (ad B)), (1, .ref (ad v)), (2, .int (nI ld))] → W p l e ({ frames := 3, cells := 0, slots := 0, locals := 120 }) s m ([.ref (ad B), .ref (ad v), .int (nI ld)] : List Value).toArray below meth c H locs 0 0 (MQ below (va_Qi (fun (r : Int32) (u : Mem) => r = ftw I A B v nr ld ∧ u = (I, G, A, L)) (vB D K ad) (vF ad s.heap.size)) ([.ref (ad B), .ref (ad v), .int (nI ld)] : List Value).toArray s 0 0 (vF ad s.heap.size)) (F0 m 2 ls []) := by
    intro k1
    induction k1 with
    | zero =>
      intro a  hk1 hinv1 H locs hP hS ls hl
      obtain rfl : ld = a := by omega
      refine lv_iload_n hx hb dX1_firstTwin_2 rfl (lv_at hl 0 rfl) ?_
      refine lv_iload_n hx hb dX1_firstTwin_3 rfl (lv_at hl 3 rfl) ?_
      refine lv_icmp_ge (tgt := 33) hx hb dX1_firstTwin_4 (by decide) (fun _ => ?_) (fun c_2 => absurd (nI_le (Nat.le_refl _) (by omega)) c_2)
      exact kx1 () (hinv1) H locs hP hS ls (lv_sub hl [0, 1, 2, 3] rfl)
    | succ k1 ih1 =>
      intro a  hk1 hinv1 H locs hP hS ls hl
      have hlt1 : a < ld := by omega
      have hia : vp_in (nI a) (ln v) := by rw [hv.2.2]; exact vp_in_nI (by omega) (by omega)
      have hil : vp_in (nI ld) (ln v) := by rw [hv.2.2]; exact vp_in_nI (by omega) (by omega)
      refine lv_iload_n hx hb dX1_firstTwin_2 rfl (lv_at hl 0 rfl) ?_
      refine lv_iload_n hx hb dX1_firstTwin_3 rfl (lv_at hl 3 rfl) ?_
      refine lv_icmp_ge (tgt := 33) hx hb dX1_firstTwin_4 (by decide) (fun c_3 => absurd c_3 (nI_ge (by omega) (by omega))) (fun _ => ?_)
      refine lv_aload_n hx hb dX1_firstTwin_7 rfl (lv_at hl 2 rfl) ?_
      refine lv_iload_n hx hb dX1_firstTwin_8 rfl (lv_at hl 0 rfl) ?_
      refine xiald hx hb hK hP (v) hv.1 hv.2.1 hia dX1_firstTwin_9 ?_
      rw [nI_clamp (n := a) (by omega)]
      refine lv_aload_n hx hb dX1_firstTwin_10 rfl (lv_at hl 2 rfl) ?_
      refine lv_iload_n hx hb dX1_firstTwin_11 rfl (lv_at hl 3 rfl) ?_
      refine xiald hx hb hK hP (v) hv.1 hv.2.1 hil dX1_firstTwin_12 ?_
      rw [nI_clamp (n := ld) (by omega)]
      refine lv_icmp_le (tgt := 27) hx hb dX1_firstTwin_13 (by decide) (fun c_4 => ?_) (fun c_4 => ?_)
      · refine lv_iinc (v := (nI (a + 1))) (lv' := [(3, .int (nI (a + 1))), (0, .ref (ad B)), (1, .ref (ad v)), (2, .int (nI ld))]) hx hb dX1_firstTwin_27 hl (k := 0) rfl (nI_1 a) (by decide) rfl (fun ls hl => ?_)
        refine lv_goto (tgt := 2) hx hb dX1_firstTwin_30 (by decide) ?_
        exact ih1 (a + 1)  (by omega) (by rw [← hinv1]; simp [fst1, ptw, (Int32.not_lt.mpr c_4)]) H locs hP hS ls (lv_sub hl [0, 1, 2, 3] rfl)
      · refine lv_aload_n hx hb dX1_firstTwin_16 rfl (lv_at hl 1 rfl) ?_
        refine lv_iload_n hx hb dX1_firstTwin_17 rfl (lv_at hl 0 rfl) ?_
        refine lv_iload_n hx hb dX1_firstTwin_18 rfl (lv_at hl 3 rfl) ?_
        refine vcV (As := [.int (nI a), .int (nI ld)]) (rest := []) ⟨hx, hb, hml, hown, hts⟩ (c_X1_areTwins l D K ad hap0 B nv nr hB a ld (szo A B a) (by omega) hldv (pr_sz hw (by omega)).2.2 I G A L hw (pr_sz hw (by omega)).1) (cwV 2 hts gX1_firstTwin_X1_areTwins rfl rfl rfl (by decide +kernel) ⟨Nat.le_of_ble_eq_true rfl, Nat.le_of_ble_eq_true rfl⟩) hK hP hS (by have := (pr_o hB).1; omega) (pr_o hB).2.1 (by decide) rfl rfl rfl hl.1 (Nat.le_of_ble_eq_true rfl) (Nat.le_of_ble_eq_true rfl) (Nat.le_of_ble_eq_true rfl) dX1_firstTwin_19 (fun r5 u6 H locs hw hP hS => ?_) rfl
        obtain ⟨hr5, rfl⟩ := hw
        have hP : va_P D vwCl (VW K ad I G A L) H := hP
        subst hr5
        refine lv_if_eq (tgt := 27) hx hb dX1_firstTwin_22 (by decide) (fun c_7 => ?_) (fun c_7 => ?_)
        · refine lv_iinc (v := (nI (a + 1))) (lv' := [(3, .int (nI (a + 1))), (0, .ref (ad B)), (1, .ref (ad v)), (2, .int (nI ld))]) hx hb dX1_firstTwin_27 hl (k := 0) rfl (nI_1 a) (by decide) rfl (fun ls hl => ?_)
          refine lv_goto (tgt := 2) hx hb dX1_firstTwin_30 (by decide) ?_
          exact ih1 (a + 1)  (by omega) (by rw [← hinv1]; simp [fst1, ptw, (Int32.not_le.mp c_4), c_7]) H locs hP hS ls (lv_sub hl [0, 1, 2, 3] rfl)
        · refine lv_iload_n hx hb dX1_firstTwin_25 rfl (lv_at hl 0 rfl) ?_
          exact W.iret (v := (nI a)) hx hb hr (fun t ht hW => ⟨⟨(nI a), (I, G, A, L), rfl, ⟨by rw [← hinv1]; simp [fst1, ptw, (Int32.not_le.mp c_4), c_7], rfl⟩, by rw [ht]; exact hP, va_K.moved hW.alike hK⟩, hS.F ht⟩) hS.2.2 dX1_firstTwin_26
  exact lp1 (ld) 0  (by omega) (rfl) _ _ hP hS ls (lv_sub hl [0, 1, 2, 3] rfl)

set_option maxHeartbeats 4000000 in
set_option maxRecDepth 100000 in
theorem c_X1_firstTwin0 (l : Launch) (D : va_G) (K : Nat → ClassId) (ad : Nat → Nat) (hap0 : apart ad (fun _ => True)) (B v : Nat) (I : Nat → Nat → Int32) (G : Nat → Nat → Nat) (A : Nat → Nat → Int32) (L : Nat → Nat → Int64)  : Ci l D K ad yX1_firstTwin wsX1_firstTwin 3 120 [.ref (ad B), .ref (ad v), .int (-1)] (I, G, A, L) (fun (r : Int32) (u : Mem) => r = -9 ∧ u = (I, G, A, L)) := by
  intro sz
  refine Met.ofW (cc := cX1_firstTwin) (maxL := 4) (ret := (some .int)) (by decide) rfl ?_
  intro p e s m args below meth c s₁ Bd hml hv0
  obtain ⟨rfl, hsz, hP, hK⟩ := hv0
  have hx := Bd.exec
  have hb := Bd.bytes
  have hr := Bd.returns
  have hts := atoms_spec (ws := wsX1_firstTwin) Bd.pre
  have hown : s.vm.findClass RX1 = some m.cls := findClass_of_methodNamed Bd.named
  have hlocks := Bd.notSynchronized
  have hi1 : ∀ w ∈ u_ws RX1 TX1 9, w ∈ wsX1_firstTwin := fun w h => List.mem_cons_of_mem _ (List.mem_append_left _ (List.mem_append_right _ h))
  have hi2 : ∀ w ∈ u_ws RX2 TX2 7, w ∈ wsX1_firstTwin := fun w h => List.mem_cons_of_mem _ (List.mem_append_right _ h)
  subst hsz
  have hap := vF_ap hap0 s.heap.size
  have hS : va_S (vF ad s.heap.size) s.heap s.heap [] := va_S.rf
  have hP : va_P D vwCl (VW K ad I G A L) s.heap := hP
  have hl := lv_entry ([.ref (ad B), .ref (ad v), .int (-1)]) (n := 4) (Nat.le_of_ble_eq_true rfl)
  rw [lg_entry_eq]
  generalize (lg_sl ([.ref (ad B), .ref (ad v), .int (-1)]) ++ List.replicate (4 - (lg_sl ([.ref (ad B), .ref (ad v), .int (-1)])).length) Slot.unset).toArray = ls at hl ⊢
  have hl : lv_has ls 4 [(0, .ref (ad B)), (1, .ref (ad v)), (2, .int (-1))] := hl
  refine lv_iconst (v := 0) hx hb dX1_firstTwin_0 (by decide) ?_
  refine lv_istore_n (lv' := [(3, .int 0), (0, .ref (ad B)), (1, .ref (ad v)), (2, .int (-1))]) hx hb dX1_firstTwin_1 rfl hl (by decide) rfl (fun ls hl => ?_)
  refine lv_iload_n hx hb dX1_firstTwin_2 rfl (lv_at hl 0 rfl) ?_
  refine lv_iload_n hx hb dX1_firstTwin_3 rfl (lv_at hl 3 rfl) ?_
  refine lv_icmp_ge (tgt := 33) hx hb dX1_firstTwin_4 (by decide) (fun _ => ?_) (fun c_1 => absurd c_1 (by decide))
  refine lv_bipush (v := (-9)) hx hb dX1_firstTwin_33 (by decide) ?_
  exact W.iret (v := (-9)) hx hb hr (fun t ht hW => ⟨⟨(-9), (I, G, A, L), rfl, ⟨rfl, rfl⟩, by rw [ht]; exact hP, va_K.moved hW.alike hK⟩, hS.F ht⟩) hS.2.2 dX1_firstTwin_35

set_option maxHeartbeats 4000000 in
set_option maxRecDepth 100000 in
theorem c_X1_leastCost (l : Launch) (D : va_G) (K : Nat → ClassId) (ad : Nat → Nat) (hap0 : apart ad (fun _ => True)) (B v nv nr x sx : Nat) (hB : PrAt B) (hv : IA v 6) (hvB : v < 58) (hxv : x < nv) (hs6 : sx ≤ 6) (I : Nat → Nat → Int32) (G : Nat → Nat → Nat) (A : Nat → Nat → Int32) (L : Nat → Nat → Int64) (hw : PrW I A B nv nr) (hsx : A (B + 1) x = nI sx) (hux : A v x = -1) : Ci l D K ad yX1_leastCost wsX1_leastCost 3 120 [.ref (ad B), .ref (ad v), .int (nI x)] (I, G, A, L) (fun (r : Int32) (u : Mem) => r = lcs I A B v x nr sx 0 (-1000000) ∧ u = (I, G, A, L)) := by
  intro sz
  refine Met.ofW (cc := cX1_leastCost) (maxL := 7) (ret := (some .int)) (by decide) rfl ?_
  intro p e s m args below meth c s₁ Bd hml hv0
  obtain ⟨rfl, hsz, hP, hK⟩ := hv0
  have hx := Bd.exec
  have hb := Bd.bytes
  have hr := Bd.returns
  have hts := atoms_spec (ws := wsX1_leastCost) Bd.pre
  have hown : s.vm.findClass RX1 = some m.cls := findClass_of_methodNamed Bd.named
  have hlocks := Bd.notSynchronized
  have hi1 : ∀ w ∈ u_ws RX1 TX1 9, w ∈ wsX1_leastCost := fun w h => List.mem_cons_of_mem _ (List.mem_append_left _ (List.mem_append_right _ h))
  have hi2 : ∀ w ∈ u_ws RX2 TX2 7, w ∈ wsX1_leastCost := fun w h => List.mem_cons_of_mem _ (List.mem_append_right _ h)
  subst hsz
  have hap := vF_ap hap0 s.heap.size
  have hS : va_S (vF ad s.heap.size) s.heap s.heap [] := va_S.rf
  have hP : va_P D vwCl (VW K ad I G A L) s.heap := hP
  have hl := lv_entry ([.ref (ad B), .ref (ad v), .int (nI x)]) (n := 7) (Nat.le_of_ble_eq_true rfl)
  rw [lg_entry_eq]
  generalize (lg_sl ([.ref (ad B), .ref (ad v), .int (nI x)]) ++ List.replicate (7 - (lg_sl ([.ref (ad B), .ref (ad v), .int (nI x)])).length) Slot.unset).toArray = ls at hl ⊢
  have hl : lv_has ls 7 [(0, .ref (ad B)), (1, .ref (ad v)), (2, .int (nI x))] := hl
  have hnv : nv ≤ 6 := hw.1
  have hnr : nr ≤ 8 := hw.2.1
  have hBv : I B 0 = nI nv := hw.2.2.1
  have hBr : I B 1 = nI nr := hw.2.2.2.1
  have hB58 := pr_ge hB
  have hx6 : x < 6 := by omega
  have hx1 : vp_in (nI x) (ln (B + 1)) := by rw [(pr_o hB).2.2.2.2.2.2.2.1]; exact vp_in_nI hx6 (by omega)
  have hx3 : vp_in (nI x) (ln (B + 3)) := by rw [(pr_o hB).2.2.2.2.2.2.2.2.2.1]; exact vp_in_nI hx6 (by omega)
  have hxv0 : vp_in (nI x) (ln v) := by rw [hv.2.2]; exact vp_in_nI hx6 (by omega)
  have hxp : ∀ i, i < 8 → vp_in (nI x) (ln (B + 12 + 5 * i + 3)) := fun i hi => by rw [(pr_ru hB hi).2.2.2.2.2.2.2.2.1]; exact vp_in_nI hx6 (by omega)
  refine lv_ldc (v := (-1000000)) hx hb hown (hts (.constant RX1 75 (-1000000)) (by decide +kernel)) dX1_leastCost_0 ?_
  refine lv_istore_n (lv' := [(3, .int (-1000000)), (0, .ref (ad B)), (1, .ref (ad v)), (2, .int (nI x))]) hx hb dX1_leastCost_2 rfl hl (by decide) rfl (fun ls hl => ?_)
  refine lv_iconst (v := 0) hx hb dX1_leastCost_3 (by decide) ?_
  refine lv_istore (lv' := [(4, .int 0), (3, .int (-1000000)), (0, .ref (ad B)), (1, .ref (ad v)), (2, .int (nI x))]) hx hb dX1_leastCost_4 hl (by decide) rfl (fun ls hl => ?_)
  have kx1 : ∀ (b : Int32) (A1 : Nat → Nat → Int32), b = lcs I A B v x nr sx 0 (-1000000) → (∀ t, up2 A1 v x t = up2 A v x t) → ∀ (H : Heap) (locs : List Loc), va_P D vwCl (VW K ad I G A1 L) H → va_S (vF ad s.heap.size) s.heap H locs → ∀ (ls : Array Slot), lv_has ls 7 [(3, .int b), (0, .ref (ad B)), (1, .ref (ad v)), (2, .int (nI x))] → W p l e ({ frames := 3, cells := 0, slots := 0, locals := 120 }) s m ([.ref (ad B), .ref (ad v), .int (nI x)] : List Value).toArray below meth c H locs 0 0 (MQ below (va_Qi (fun (r : Int32) (u : Mem) => r = lcs I A B v x nr sx 0 (-1000000) ∧ u = (I, G, A, L)) (vB D K ad) (vF ad s.heap.size)) ([.ref (ad B), .ref (ad v), .int (nI x)] : List Value).toArray s 0 0 (vF ad s.heap.size)) (F0 m 128 ls []) := by
    intro b A1 hinv1 hg1 H locs hP hS ls hl
    refine lv_aload_n hx hb dX1_leastCost_128 rfl (lv_at hl 2 rfl) ?_
    refine lv_iload_n hx hb dX1_leastCost_129 rfl (lv_at hl 3 rfl) ?_
    refine lv_iconst (v := (-1)) hx hb dX1_leastCost_130 (by decide) ?_
    refine xiast hx hb hK hP hap hS (v) hv.1 hv.2.1 hxv0 dX1_leastCost_131 (fun H locs hP hS => ?_)
    rw [nI_clamp (n := x) (by omega)] at hP
    obtain ⟨A2, eA2⟩ : ∃ z, z = up2 A1 v x ((-1)) := ⟨_, rfl⟩
    rw [← eA2] at hP
    have hP : va_P D vwCl (VW K ad I G A2 L) H := hP
    refine lv_iload_n hx hb dX1_leastCost_132 rfl (lv_at hl 0 rfl) ?_
    exact W.iret (v := b) hx hb hr (fun t ht hW => ⟨⟨b, (I, G, A2, L), rfl, ⟨hinv1, by rw [eA2, hg1, up2_id hux]⟩, by rw [ht]; exact hP, va_K.moved hW.alike hK⟩, hS.F ht⟩) hS.2.2 dX1_leastCost_133
  have lp1 : ∀ (k1 y : Nat) (b : Int32) (A1 : Nat → Nat → Int32), y + k1 = sx → lcs I A B v x nr k1 y b = lcs I A B v x nr sx 0 (-1000000) → (∀ t, up2 A1 v x t = up2 A v x t) → ∀ (H : Heap) (locs : List Loc), va_P D vwCl (VW K ad I G A1 L) H → va_S (vF ad s.heap.size) s.heap H locs → ∀ (ls : Array Slot), lv_has ls 7 [(4, .int (nI y)), (3, .int b), (0, .ref (ad B)), (1, .ref (ad v)), (2, .int (nI x))] → W p l e ({ frames := 3, cells := 0, slots := 0, locals := 120 }) s m ([.ref (ad B), .ref (ad v), .int (nI x)] : List Value).toArray below meth c H locs 0 0 (MQ below (va_Qi (fun (r : Int32) (u : Mem) => r = lcs I A B v x nr sx 0 (-1000000) ∧ u = (I, G, A, L)) (vB D K ad) (vF ad s.heap.size)) ([.ref (ad B), .ref (ad v), .int (nI x)] : List Value).toArray s 0 0 (vF ad s.heap.size)) (F0 m 6 ls []) := by
    intro k1
    induction k1 with
    | zero =>
      intro y b A1 hk1 hinv1 hg1 H locs hP hS ls hl
      obtain rfl : sx = y := by omega
      refine lv_iload hx hb dX1_leastCost_6 (lv_at hl 0 rfl) ?_
      refine lv_aload_n hx hb dX1_leastCost_8 rfl (lv_at hl 2 rfl) ?_
      refine vgS hx hb hts hi1 hown hK hP (B) (by have := (pr_o hB).1; omega) (pr_o hB).2.1 (C := RX1) (T := TX1) (N := 9) rfl 4 (by decide) (by decide) (by decide) (by decide) (B + 1) rfl (hts (.fieldLink RX1 25 "CrateHelpers$Problem" "sizes" "[I") (by decide +kernel)) (fun _ h9 => h9) dX1_leastCost_9 ?_
      refine lv_iload_n hx hb dX1_leastCost_12 rfl (lv_at hl 4 rfl) ?_
      refine xiald hx hb hK hP (B + 1) (by have := (pr_o hB).1; omega) (pr_o hB).2.2.1 hx1 dX1_leastCost_13 ?_
      rw [nI_clamp (n := x) (by omega)]
      rw [gen_at hg1 (by omega), hsx]
      refine lv_icmp_ge (tgt := 128) hx hb dX1_leastCost_14 (by decide) (fun _ => ?_) (fun c_3 => absurd (nI_le (Nat.le_refl _) (by omega)) c_3)
      exact kx1 b A1 (hinv1) (hg1) H locs hP hS ls (lv_sub hl [1, 2, 3, 4] rfl)
    | succ k1 ih1 =>
      intro y b A1 hk1 hinv1 hg1 H locs hP hS ls hl
      have hlt1 : y < sx := by omega
      have hi4 : vp_in (nI y) (ln (B + 4 + x)) := by rw [(pr_row hB hx6).2]; exact vp_in_nI (by omega) (by omega)
      refine lv_iload hx hb dX1_leastCost_6 (lv_at hl 0 rfl) ?_
      refine lv_aload_n hx hb dX1_leastCost_8 rfl (lv_at hl 2 rfl) ?_
      refine vgS hx hb hts hi1 hown hK hP (B) (by have := (pr_o hB).1; omega) (pr_o hB).2.1 (C := RX1) (T := TX1) (N := 9) rfl 4 (by decide) (by decide) (by decide) (by decide) (B + 1) rfl (hts (.fieldLink RX1 25 "CrateHelpers$Problem" "sizes" "[I") (by decide +kernel)) (fun _ h9 => h9) dX1_leastCost_9 ?_
      refine lv_iload_n hx hb dX1_leastCost_12 rfl (lv_at hl 4 rfl) ?_
      refine xiald hx hb hK hP (B + 1) (by have := (pr_o hB).1; omega) (pr_o hB).2.2.1 hx1 dX1_leastCost_13 ?_
      rw [nI_clamp (n := x) (by omega)]
      rw [gen_at hg1 (by omega), hsx]
      refine lv_icmp_ge (tgt := 128) hx hb dX1_leastCost_14 (by decide) (fun c_4 => absurd c_4 (nI_ge (by omega) (by omega))) (fun _ => ?_)
      refine lv_aload_n hx hb dX1_leastCost_17 rfl (lv_at hl 3 rfl) ?_
      refine lv_iload_n hx hb dX1_leastCost_18 rfl (lv_at hl 4 rfl) ?_
      refine lv_iload hx hb dX1_leastCost_19 (lv_at hl 0 rfl) ?_
      refine xiast hx hb hK hP hap hS (v) hv.1 hv.2.1 hxv0 dX1_leastCost_21 (fun H locs hP hS => ?_)
      rw [nI_clamp (n := x) (by omega)] at hP
      obtain ⟨A5, eA5⟩ : ∃ z, z = up2 A1 v x ((nI y)) := ⟨_, rfl⟩
      rw [← eA5] at hP
      have hP : va_P D vwCl (VW K ad I G A5 L) H := hP
      rw [eA5, hg1] at hP
      have hP : va_P D vwCl (VW K ad I G (up2 A v x (nI y)) L) H := hP
      have hw9 : PrW I (up2 A v x (nI y)) B nv nr := PrW_A hw (by omega)
      refine lv_iconst (v := 0) hx hb dX1_leastCost_22 (by decide) ?_
      refine lv_istore (lv' := [(5, .int 0), (4, .int (nI y)), (3, .int b), (0, .ref (ad B)), (1, .ref (ad v)), (2, .int (nI x))]) hx hb dX1_leastCost_23 hl (by decide) rfl (fun ls hl => ?_)
      refine lv_iconst (v := 0) hx hb dX1_leastCost_25 (by decide) ?_
      refine lv_istore (lv' := [(6, .int 0), (5, .int 0), (4, .int (nI y)), (3, .int b), (0, .ref (ad B)), (1, .ref (ad v)), (2, .int (nI x))]) hx hb dX1_leastCost_26 hl (by decide) rfl (fun ls hl => ?_)
      have kx6 : ∀ (f : Int32), f = ex1 (plo I A B v x y) nr 0 → ∀ (H : Heap) (locs : List Loc), va_P D vwCl (VW K ad I G (up2 A v x (nI y)) L) H → va_S (vF ad s.heap.size) s.heap H locs → ∀ (ls : Array Slot), lv_has ls 7 [(5, .int f), (4, .int (nI y)), (3, .int b), (0, .ref (ad B)), (1, .ref (ad v)), (2, .int (nI x))] → W p l e ({ frames := 3, cells := 0, slots := 0, locals := 120 }) s m ([.ref (ad B), .ref (ad v), .int (nI x)] : List Value).toArray below meth c H locs 0 0 (MQ below (va_Qi (fun (r : Int32) (u : Mem) => r = lcs I A B v x nr sx 0 (-1000000) ∧ u = (I, G, A, L)) (vB D K ad) (vF ad s.heap.size)) ([.ref (ad B), .ref (ad v), .int (nI x)] : List Value).toArray s 0 0 (vF ad s.heap.size)) (F0 m 88 ls []) := by
        intro f hinv6 H locs hP hS ls hl
        obtain rfl : f = ex1 (plo I A B v x y) nr 0 := hinv6
        refine lv_iload hx hb dX1_leastCost_88 (lv_at hl 0 rfl) ?_
        refine lv_if_ne (tgt := 122) hx hb dX1_leastCost_90 (by decide) (fun c_7 => ?_) (fun c_7 => ?_)
        · refine lv_iinc (v := (nI (y + 1))) (lv' := [(4, .int (nI (y + 1))), (5, .int (ex1 (plo I A B v x y) nr 0)), (3, .int b), (0, .ref (ad B)), (1, .ref (ad v)), (2, .int (nI x))]) hx hb dX1_leastCost_122 hl (k := 1) rfl (nI_1 y) (by decide) rfl (fun ls hl => ?_)
          refine lv_goto (tgt := 6) hx hb dX1_leastCost_125 (by decide) ?_
          exact ih1 (y + 1) b (up2 A v x (nI y)) (by omega) (by rw [← hinv1]; simp [lcs, c_7]) (fun t => up2_up2 A v x (nI y) t) H locs hP hS ls (lv_sub hl [0, 2, 3, 4, 5] rfl)
        · refine lv_iload_n hx hb dX1_leastCost_93 rfl (lv_at hl 2 rfl) ?_
          refine lv_ldc (v := (-1000000)) hx hb hown (hts (.constant RX1 75 (-1000000)) (by decide +kernel)) dX1_leastCost_94 ?_
          refine lv_icmp_eq (tgt := 112) hx hb dX1_leastCost_96 (by decide) (fun c_8 => ?_) (fun c_8 => ?_)
          · refine lv_aload_n hx hb dX1_leastCost_112 rfl (lv_at hl 3 rfl) ?_
            refine vgS hx hb hts hi1 hown hK hP (B) (by have := (pr_o hB).1; omega) (pr_o hB).2.1 (C := RX1) (T := TX1) (N := 9) rfl 6 (by decide) (by decide) (by decide) (by decide) (B + 3) rfl (hts (.fieldLink RX1 34 "CrateHelpers$Problem" "prices" "[[I") (by decide +kernel)) (fun _ h9 => h9) dX1_leastCost_113 ?_
            refine lv_iload_n hx hb dX1_leastCost_116 rfl (lv_at hl 5 rfl) ?_
            refine xgald hx hb hK hP (B + 3) (by have := (pr_o hB).1; omega) (pr_o hB).2.2.2.2.1 hx3 (B + 4 + x) (by rw [rf15 (pr_o hB).2.2.2.2.1]; rw [nI_clamp (by omega)]) dX1_leastCost_117 ?_
            refine lv_iload hx hb dX1_leastCost_118 (lv_at hl 1 rfl) ?_
            refine xiald hx hb hK hP (B + 4 + x) (by have := (pr_o hB).1; omega) (pr_row (x := x) hB hx6).1 hi4 dX1_leastCost_120 ?_
            rw [nI_clamp (n := y) (by omega)]
            rw [up2_j (by omega)]
            refine lv_istore_n (lv' := [(3, .int (A (B + 4 + x) y)), (5, .int (ex1 (plo I A B v x y) nr 0)), (4, .int (nI y)), (0, .ref (ad B)), (1, .ref (ad v)), (2, .int (nI x))]) hx hb dX1_leastCost_121 rfl hl (by decide) rfl (fun ls hl => ?_)
            refine lv_iinc (v := (nI (y + 1))) (lv' := [(4, .int (nI (y + 1))), (3, .int (A (B + 4 + x) y)), (5, .int (ex1 (plo I A B v x y) nr 0)), (0, .ref (ad B)), (1, .ref (ad v)), (2, .int (nI x))]) hx hb dX1_leastCost_122 hl (k := 2) rfl (nI_1 y) (by decide) rfl (fun ls hl => ?_)
            refine lv_goto (tgt := 6) hx hb dX1_leastCost_125 (by decide) ?_
            exact ih1 (y + 1) (A (B + 4 + x) y) (up2 A v x (nI y)) (by omega) (by rw [← hinv1]; simp [lcs, c_7, c_8]) (fun t => up2_up2 A v x (nI y) t) H locs hP hS ls (lv_sub hl [0, 1, 3, 4, 5] rfl)
          · refine lv_aload_n hx hb dX1_leastCost_99 rfl (lv_at hl 3 rfl) ?_
            refine vgS hx hb hts hi1 hown hK hP (B) (by have := (pr_o hB).1; omega) (pr_o hB).2.1 (C := RX1) (T := TX1) (N := 9) rfl 6 (by decide) (by decide) (by decide) (by decide) (B + 3) rfl (hts (.fieldLink RX1 34 "CrateHelpers$Problem" "prices" "[[I") (by decide +kernel)) (fun _ h9 => h9) dX1_leastCost_100 ?_
            refine lv_iload_n hx hb dX1_leastCost_103 rfl (lv_at hl 5 rfl) ?_
            refine xgald hx hb hK hP (B + 3) (by have := (pr_o hB).1; omega) (pr_o hB).2.2.2.2.1 hx3 (B + 4 + x) (by rw [rf15 (pr_o hB).2.2.2.2.1]; rw [nI_clamp (by omega)]) dX1_leastCost_104 ?_
            refine lv_iload hx hb dX1_leastCost_105 (lv_at hl 1 rfl) ?_
            refine xiald hx hb hK hP (B + 4 + x) (by have := (pr_o hB).1; omega) (pr_row (x := x) hB hx6).1 hi4 dX1_leastCost_107 ?_
            rw [nI_clamp (n := y) (by omega)]
            rw [up2_j (by omega)]
            refine lv_iload_n hx hb dX1_leastCost_108 rfl (lv_at hl 2 rfl) ?_
            refine lv_icmp_ge (tgt := 122) hx hb dX1_leastCost_109 (by decide) (fun c_9 => ?_) (fun c_9 => ?_)
            · refine lv_iinc (v := (nI (y + 1))) (lv' := [(4, .int (nI (y + 1))), (5, .int (ex1 (plo I A B v x y) nr 0)), (3, .int b), (0, .ref (ad B)), (1, .ref (ad v)), (2, .int (nI x))]) hx hb dX1_leastCost_122 hl (k := 1) rfl (nI_1 y) (by decide) rfl (fun ls hl => ?_)
              refine lv_goto (tgt := 6) hx hb dX1_leastCost_125 (by decide) ?_
              exact ih1 (y + 1) b (up2 A v x (nI y)) (by omega) (by rw [← hinv1]; simp [lcs, c_7, c_8, (Int32.not_lt.mpr c_9)]) (fun t => up2_up2 A v x (nI y) t) H locs hP hS ls (lv_sub hl [0, 2, 3, 4, 5] rfl)
            · refine lv_aload_n hx hb dX1_leastCost_112 rfl (lv_at hl 3 rfl) ?_
              refine vgS hx hb hts hi1 hown hK hP (B) (by have := (pr_o hB).1; omega) (pr_o hB).2.1 (C := RX1) (T := TX1) (N := 9) rfl 6 (by decide) (by decide) (by decide) (by decide) (B + 3) rfl (hts (.fieldLink RX1 34 "CrateHelpers$Problem" "prices" "[[I") (by decide +kernel)) (fun _ h9 => h9) dX1_leastCost_113 ?_
              refine lv_iload_n hx hb dX1_leastCost_116 rfl (lv_at hl 5 rfl) ?_
              refine xgald hx hb hK hP (B + 3) (by have := (pr_o hB).1; omega) (pr_o hB).2.2.2.2.1 hx3 (B + 4 + x) (by rw [rf15 (pr_o hB).2.2.2.2.1]; rw [nI_clamp (by omega)]) dX1_leastCost_117 ?_
              refine lv_iload hx hb dX1_leastCost_118 (lv_at hl 1 rfl) ?_
              refine xiald hx hb hK hP (B + 4 + x) (by have := (pr_o hB).1; omega) (pr_row (x := x) hB hx6).1 hi4 dX1_leastCost_120 ?_
              rw [nI_clamp (n := y) (by omega)]
              rw [up2_j (by omega)]
              refine lv_istore_n (lv' := [(3, .int (A (B + 4 + x) y)), (5, .int (ex1 (plo I A B v x y) nr 0)), (4, .int (nI y)), (0, .ref (ad B)), (1, .ref (ad v)), (2, .int (nI x))]) hx hb dX1_leastCost_121 rfl hl (by decide) rfl (fun ls hl => ?_)
              refine lv_iinc (v := (nI (y + 1))) (lv' := [(4, .int (nI (y + 1))), (3, .int (A (B + 4 + x) y)), (5, .int (ex1 (plo I A B v x y) nr 0)), (0, .ref (ad B)), (1, .ref (ad v)), (2, .int (nI x))]) hx hb dX1_leastCost_122 hl (k := 2) rfl (nI_1 y) (by decide) rfl (fun ls hl => ?_)
              refine lv_goto (tgt := 6) hx hb dX1_leastCost_125 (by decide) ?_
              exact ih1 (y + 1) (A (B + 4 + x) y) (up2 A v x (nI y)) (by omega) (by rw [← hinv1]; simp [lcs, c_7, c_8, (Int32.not_le.mp c_9)]) (fun t => up2_up2 A v x (nI y) t) H locs hP hS ls (lv_sub hl [0, 1, 3, 4, 5] rfl)
      have lp6 : ∀ (k6 i : Nat) (f : Int32), i + k6 = nr → (if f = 0 then ex1 (plo I A B v x y) k6 i else f) = ex1 (plo I A B v x y) nr 0 ∧ (f = 0 ∨ f = 1) → ∀ (H : Heap) (locs : List Loc), va_P D vwCl (VW K ad I G (up2 A v x (nI y)) L) H → va_S (vF ad s.heap.size) s.heap H locs → ∀ (ls : Array Slot), lv_has ls 7 [(6, .int (nI i)), (5, .int f), (4, .int (nI y)), (3, .int b), (0, .ref (ad B)), (1, .ref (ad v)), (2, .int (nI x))] → W p l e ({ frames := 3, cells := 0, slots := 0, locals := 120 }) s m ([.ref (ad B), .ref (ad v), .int (nI x)] : List Value).toArray below meth c H locs 0 0 (MQ below (va_Qi (fun (r : Int32) (u : Mem) => r = lcs I A B v x nr sx 0 (-1000000) ∧ u = (I, G, A, L)) (vB D K ad) (vF ad s.heap.size)) ([.ref (ad B), .ref (ad v), .int (nI x)] : List Value).toArray s 0 0 (vF ad s.heap.size)) (F0 m 28 ls []) := by
        intro k6
        induction k6 with
        | zero =>
          intro i f hk6 hinv6 H locs hP hS ls hl
          obtain rfl : nr = i := by omega
          refine lv_iload hx hb dX1_leastCost_28 (lv_at hl 0 rfl) ?_
          refine lv_aload_n hx hb dX1_leastCost_30 rfl (lv_at hl 4 rfl) ?_
          refine vgI hx hb hts hi1 hown hK hP (B) (by have := (pr_o hB).1; omega) (pr_o hB).2.1 (C := RX1) (T := TX1) (N := 9) rfl 1 (by decide) (by decide) (by decide) (by decide) (hts (.fieldLink RX1 15 "CrateHelpers$Problem" "ruleCount" "I") (by decide +kernel)) (fun _ h9 => h9) dX1_leastCost_31 ?_
          rw [hBr]
          refine lv_icmp_ge (tgt := 88) hx hb dX1_leastCost_34 (by decide) (fun _ => ?_) (fun c_10 => absurd (nI_le (Nat.le_refl _) (by omega)) c_10)
          exact kx6 f (by rw [← hinv6.1]; rcases hinv6.2 with rfl | rfl <;> rfl) H locs hP hS ls (lv_sub hl [1, 2, 3, 4, 5, 6] rfl)
        | succ k6 ih6 =>
          intro i f hk6 hinv6 H locs hP hS ls hl
          have hlt6 : i < nr := by omega
          have hin6 : vp_in (nI i) (ln (B + 10)) := by rw [(pr_o hB).2.2.2.2.2.2.2.2.2.2.1]; exact vp_in_nI (by omega) (by omega)
          refine lv_iload hx hb dX1_leastCost_28 (lv_at hl 0 rfl) ?_
          refine lv_aload_n hx hb dX1_leastCost_30 rfl (lv_at hl 4 rfl) ?_
          refine vgI hx hb hts hi1 hown hK hP (B) (by have := (pr_o hB).1; omega) (pr_o hB).2.1 (C := RX1) (T := TX1) (N := 9) rfl 1 (by decide) (by decide) (by decide) (by decide) (hts (.fieldLink RX1 15 "CrateHelpers$Problem" "ruleCount" "I") (by decide +kernel)) (fun _ h9 => h9) dX1_leastCost_31 ?_
          rw [hBr]
          refine lv_icmp_ge (tgt := 88) hx hb dX1_leastCost_34 (by decide) (fun c_11 => absurd c_11 (nI_ge (by omega) (by omega))) (fun _ => ?_)
          refine lv_iload hx hb dX1_leastCost_37 (lv_at hl 1 rfl) ?_
          refine lv_if_ne (tgt := 88) hx hb dX1_leastCost_39 (by decide) (fun c_12 => ?_) (fun c_12 => ?_)
          · exact kx6 f (by rw [← hinv6.1, if_neg c_12]) H locs hP hS ls (lv_sub hl [1, 2, 3, 4, 5, 6] rfl)
          · refine lv_aload_n hx hb dX1_leastCost_42 rfl (lv_at hl 4 rfl) ?_
            refine vgS hx hb hts hi1 hown hK hP (B) (by have := (pr_o hB).1; omega) (pr_o hB).2.1 (C := RX1) (T := TX1) (N := 9) rfl 7 (by decide) (by decide) (by decide) (by decide) (B + 10) rfl (hts (.fieldLink RX1 39 "CrateHelpers$Problem" "rules" "[LCrateHelpers$Rule;") (by decide +kernel)) (fun _ h9 => h9) dX1_leastCost_43 ?_
            refine lv_iload hx hb dX1_leastCost_46 (lv_at hl 0 rfl) ?_
            refine xaald hx hb hK hP (B + 10) (by have := (pr_o hB).1; omega) 6 14 (pr_o hB).2.2.2.2.2.1 (by decide) rfl hin6 (B + 12 + 5 * i) (by rw [rf14 (pr_o hB).2.2.2.2.2.1]; rw [nI_clamp (by omega)]) dX1_leastCost_48 ?_
            refine vgS hx hb hts hi2 hown hK hP (B + 12 + 5 * i) (by have := (pr_ru (r := i) hB (by omega)).1; omega) (pr_ru (r := i) hB (by omega)).2.1 (C := RX2) (T := TX2) (N := 7) rfl 5 (by decide) (by decide) (by decide) (by decide) (B + 12 + 5 * i + 3) rfl (hts (.fieldLink RX1 76 "CrateHelpers$Rule" "isPart" "[Z") (by decide +kernel)) (fun _ h9 => h9) dX1_leastCost_49 ?_
            refine lv_iload_n hx hb dX1_leastCost_52 rfl (lv_at hl 6 rfl) ?_
            refine xzald hx hb hK hP (B + 12 + 5 * i + 3) (by have := (pr_ru (r := i) hB (by omega)).1; omega) (pr_ru (r := i) hB (by omega)).2.2.2.2.1 (hxp i (by omega)) dX1_leastCost_53 ?_
            rw [nI_clamp (n := x) (by omega)]
            rw [up2_j (by omega)]
            refine lv_if_eq (tgt := 79) hx hb dX1_leastCost_54 (by decide) (fun c_13 => ?_) (fun c_13 => ?_)
            · refine lv_iconst (v := 0) hx hb dX1_leastCost_79 (by decide) ?_
              refine lv_istore (lv' := [(5, .int 0), (6, .int (nI i)), (4, .int (nI y)), (3, .int b), (0, .ref (ad B)), (1, .ref (ad v)), (2, .int (nI x))]) hx hb dX1_leastCost_80 hl (by decide) rfl (fun ls hl => ?_)
              refine lv_iinc (v := (nI (i + 1))) (lv' := [(6, .int (nI (i + 1))), (5, .int 0), (4, .int (nI y)), (3, .int b), (0, .ref (ad B)), (1, .ref (ad v)), (2, .int (nI x))]) hx hb dX1_leastCost_82 hl (k := 1) rfl (nI_1 i) (by decide) rfl (fun ls hl => ?_)
              refine lv_goto (tgt := 28) hx hb dX1_leastCost_85 (by decide) ?_
              exact ih6 (i + 1) 0 (by omega) (⟨by rw [← hinv6.1, if_pos c_12]; simp [ex1, plo, c_13], by decide⟩) H locs hP hS ls (lv_sub hl [0, 1, 2, 3, 4, 5, 6] rfl)
            · refine lv_aload_n hx hb dX1_leastCost_57 rfl (lv_at hl 4 rfl) ?_
              refine vgS hx hb hts hi1 hown hK hP (B) (by have := (pr_o hB).1; omega) (pr_o hB).2.1 (C := RX1) (T := TX1) (N := 9) rfl 7 (by decide) (by decide) (by decide) (by decide) (B + 10) rfl (hts (.fieldLink RX1 39 "CrateHelpers$Problem" "rules" "[LCrateHelpers$Rule;") (by decide +kernel)) (fun _ h9 => h9) dX1_leastCost_58 ?_
              refine lv_iload hx hb dX1_leastCost_61 (lv_at hl 0 rfl) ?_
              refine xaald hx hb hK hP (B + 10) (by have := (pr_o hB).1; omega) 6 14 (pr_o hB).2.2.2.2.2.1 (by decide) rfl hin6 (B + 12 + 5 * i) (by rw [rf14 (pr_o hB).2.2.2.2.2.1]; rw [nI_clamp (by omega)]) dX1_leastCost_63 ?_
              refine lv_aload_n hx hb dX1_leastCost_64 rfl (lv_at hl 5 rfl) ?_
              refine lv_aload_n hx hb dX1_leastCost_65 rfl (lv_at hl 4 rfl) ?_
              refine vgS hx hb hts hi1 hown hK hP (B) (by have := (pr_o hB).1; omega) (pr_o hB).2.1 (C := RX1) (T := TX1) (N := 9) rfl 4 (by decide) (by decide) (by decide) (by decide) (B + 1) rfl (hts (.fieldLink RX1 25 "CrateHelpers$Problem" "sizes" "[I") (by decide +kernel)) (fun _ h9 => h9) dX1_leastCost_66 ?_
              refine vcV (As := [.ref (ad v), .ref (ad (B + 1))]) (rest := []) ⟨hx, hb, hml, hown, hts⟩ (c_X2_isBroken l D K ad hap0 (B + 12 + 5 * i) v (B + 1) (nP I (B + 12 + 5 * i)) (pr_ru hB (by omega)) hv (ia_sz hB) I G (up2 A v x (nI y)) L (hw9.2.2.2.2.2 i (by omega))) (cwV 2 hts gX1_leastCost_X2_isBroken rfl rfl rfl (by decide +kernel) ⟨Nat.le_of_ble_eq_true rfl, Nat.le_of_ble_eq_true rfl⟩) hK hP hS (by have := (pr_ru (r := i) hB (by omega)).1; omega) (pr_ru (r := i) hB (by omega)).2.1 (by decide) rfl rfl rfl hl.1 (Nat.le_of_ble_eq_true rfl) (Nat.le_of_ble_eq_true rfl) (Nat.le_of_ble_eq_true rfl) dX1_leastCost_69 (fun r14 u15 H locs hw hP hS => ?_) rfl
              obtain ⟨hr14, rfl⟩ := hw
              have hP : va_P D vwCl (VW K ad I G (up2 A v x (nI y)) L) H := hP
              subst hr14
              refine lv_if_eq (tgt := 79) hx hb dX1_leastCost_72 (by decide) (fun c_16 => ?_) (fun c_16 => ?_)
              · refine lv_iconst (v := 0) hx hb dX1_leastCost_79 (by decide) ?_
                refine lv_istore (lv' := [(5, .int 0), (6, .int (nI i)), (4, .int (nI y)), (3, .int b), (0, .ref (ad B)), (1, .ref (ad v)), (2, .int (nI x))]) hx hb dX1_leastCost_80 hl (by decide) rfl (fun ls hl => ?_)
                refine lv_iinc (v := (nI (i + 1))) (lv' := [(6, .int (nI (i + 1))), (5, .int 0), (4, .int (nI y)), (3, .int b), (0, .ref (ad B)), (1, .ref (ad v)), (2, .int (nI x))]) hx hb dX1_leastCost_82 hl (k := 1) rfl (nI_1 i) (by decide) rfl (fun ls hl => ?_)
                refine lv_goto (tgt := 28) hx hb dX1_leastCost_85 (by decide) ?_
                exact ih6 (i + 1) 0 (by omega) (⟨by rw [← hinv6.1, if_pos c_12]; simp [ex1, plo, c_13, c_16], by decide⟩) H locs hP hS ls (lv_sub hl [0, 1, 2, 3, 4, 5, 6] rfl)
              · refine lv_iconst (v := 1) hx hb dX1_leastCost_75 (by decide) ?_
                refine lv_goto (tgt := 80) hx hb dX1_leastCost_76 (by decide) ?_
                refine lv_istore (lv' := [(5, .int 1), (6, .int (nI i)), (4, .int (nI y)), (3, .int b), (0, .ref (ad B)), (1, .ref (ad v)), (2, .int (nI x))]) hx hb dX1_leastCost_80 hl (by decide) rfl (fun ls hl => ?_)
                refine lv_iinc (v := (nI (i + 1))) (lv' := [(6, .int (nI (i + 1))), (5, .int 1), (4, .int (nI y)), (3, .int b), (0, .ref (ad B)), (1, .ref (ad v)), (2, .int (nI x))]) hx hb dX1_leastCost_82 hl (k := 1) rfl (nI_1 i) (by decide) rfl (fun ls hl => ?_)
                refine lv_goto (tgt := 28) hx hb dX1_leastCost_85 (by decide) ?_
                exact ih6 (i + 1) 1 (by omega) (⟨by rw [← hinv6.1, if_pos c_12]; simp [ex1, plo, c_13, c_16], by decide⟩) H locs hP hS ls (lv_sub hl [0, 1, 2, 3, 4, 5, 6] rfl)
      exact lp6 (nr) 0 0 (by omega) (⟨rfl, Or.inl rfl⟩) _ _ hP hS ls (lv_sub hl [0, 1, 2, 3, 4, 5, 6] rfl)
  exact lp1 (sx) 0 (-1000000) A (by omega) (rfl) (fun _ => rfl) _ _ hP hS ls (lv_sub hl [0, 1, 2, 3, 4] rfl)

/-! part 24.zrows -/
set_option maxRecDepth 20000 in
theorem ggX0_look_X1_firstBroken : GoodIn wsX0_look wsX1_firstBroken := goodIn_g _ [(11, 48), (85, 9), (97, 7)] rfl (by decide +kernel)
set_option maxRecDepth 20000 in
theorem gX0_look_X1_firstBroken : GoodIn wsX0_look (wsV RX0 22 RX1 yX1_firstBroken wsX1_firstBroken) := goodIn_app (goodIn_of _ (by decide +kernel)) ggX0_look_X1_firstBroken
set_option maxRecDepth 20000 in
theorem ggX0_look_X0_close : GoodIn wsX0_look wsX0_close := goodIn_g _ [(63, 1), (4, 2), (3, 1), (6, 1), (94, 3)] rfl (by decide +kernel)
set_option maxRecDepth 20000 in
theorem gX0_look_X0_close : GoodIn wsX0_look (wsV RX0 28 RX0 yX0_close wsX0_close) := goodIn_app (goodIn_of _ (by decide +kernel)) ggX0_look_X0_close
set_option maxRecDepth 20000 in
theorem ggX0_look_X1_firstTwin : GoodIn wsX0_look wsX1_firstTwin := goodIn_g _ [(67, 4), (10, 1), (71, 1), (14, 1), (72, 1), (12, 2), (73, 3), (18, 1), (76, 2), (20, 1), (78, 1), (85, 9), (97, 7)] rfl (by decide +kernel)
set_option maxRecDepth 20000 in
theorem gX0_look_X1_firstTwin : GoodIn wsX0_look (wsV RX0 32 RX1 yX1_firstTwin wsX1_firstTwin) := goodIn_app (goodIn_of _ (by decide +kernel)) ggX0_look_X1_firstTwin
set_option maxRecDepth 20000 in
theorem ggX0_look_X1_leastCost : GoodIn wsX0_look wsX1_leastCost := goodIn_g _ [(82, 2), (14, 1), (12, 2), (84, 1), (72, 1), (15, 44), (85, 9), (97, 7)] rfl (by decide +kernel)
set_option maxRecDepth 20000 in
theorem gX0_look_X1_leastCost : GoodIn wsX0_look (wsV RX0 43 RX1 yX1_leastCost wsX1_leastCost) := goodIn_app (goodIn_of _ (by decide +kernel)) ggX0_look_X1_leastCost
theorem dX0_look_0 : decode cX0_look 0 = .ok (.aload_n 1, 1) := by decide +kernel
theorem dX0_look_1 : decode cX0_look 1 = .ok (.aload_n 2, 1) := by decide +kernel
theorem dX0_look_2 : decode cX0_look 2 = .ok (.invokevirtual 22, 3) := by decide +kernel
theorem dX0_look_5 : decode cX0_look 5 = .ok (.istore 5, 2) := by decide +kernel
theorem dX0_look_7 : decode cX0_look 7 = .ok (.iload 5, 2) := by decide +kernel
theorem dX0_look_9 : decode cX0_look 9 = .ok (.bipush (-9), 2) := by decide +kernel
theorem dX0_look_11 : decode cX0_look 11 = .ok (.if_icmp .eq 11, 3) := by decide +kernel
theorem dX0_look_14 : decode cX0_look 14 = .ok (.aload_n 0, 1) := by decide +kernel
theorem dX0_look_15 : decode cX0_look 15 = .ok (.iconst 1, 1) := by decide +kernel
theorem dX0_look_16 : decode cX0_look 16 = .ok (.iload 5, 2) := by decide +kernel
theorem dX0_look_18 : decode cX0_look 18 = .ok (.invokevirtual 28, 3) := by decide +kernel
theorem dX0_look_21 : decode cX0_look 21 = .ok (.return_, 1) := by decide +kernel
theorem dX0_look_22 : decode cX0_look 22 = .ok (.iload 4, 2) := by decide +kernel
theorem dX0_look_24 : decode cX0_look 24 = .ok (.ifCond .eq 14, 3) := by decide +kernel
theorem dX0_look_27 : decode cX0_look 27 = .ok (.aload_n 1, 1) := by decide +kernel
theorem dX0_look_28 : decode cX0_look 28 = .ok (.aload_n 2, 1) := by decide +kernel
theorem dX0_look_29 : decode cX0_look 29 = .ok (.iload_n 3, 1) := by decide +kernel
theorem dX0_look_30 : decode cX0_look 30 = .ok (.iconst 1, 1) := by decide +kernel
theorem dX0_look_31 : decode cX0_look 31 = .ok (.isub, 1) := by decide +kernel
theorem dX0_look_32 : decode cX0_look 32 = .ok (.invokevirtual 32, 3) := by decide +kernel
theorem dX0_look_35 : decode cX0_look 35 = .ok (.goto 5, 3) := by decide +kernel
theorem dX0_look_38 : decode cX0_look 38 = .ok (.bipush (-9), 2) := by decide +kernel
theorem dX0_look_40 : decode cX0_look 40 = .ok (.istore 6, 2) := by decide +kernel
theorem dX0_look_42 : decode cX0_look 42 = .ok (.iload 6, 2) := by decide +kernel
theorem dX0_look_44 : decode cX0_look 44 = .ok (.bipush (-9), 2) := by decide +kernel
theorem dX0_look_46 : decode cX0_look 46 = .ok (.if_icmp .eq 11, 3) := by decide +kernel
theorem dX0_look_49 : decode cX0_look 49 = .ok (.aload_n 0, 1) := by decide +kernel
theorem dX0_look_50 : decode cX0_look 50 = .ok (.iconst 2, 1) := by decide +kernel
theorem dX0_look_51 : decode cX0_look 51 = .ok (.iload 6, 2) := by decide +kernel
theorem dX0_look_53 : decode cX0_look 53 = .ok (.invokevirtual 28, 3) := by decide +kernel
theorem dX0_look_56 : decode cX0_look 56 = .ok (.return_, 1) := by decide +kernel
theorem dX0_look_57 : decode cX0_look 57 = .ok (.iconst 0, 1) := by decide +kernel
theorem dX0_look_58 : decode cX0_look 58 = .ok (.istore 7, 2) := by decide +kernel
theorem dX0_look_60 : decode cX0_look 60 = .ok (.iconst 0, 1) := by decide +kernel
theorem dX0_look_61 : decode cX0_look 61 = .ok (.istore 8, 2) := by decide +kernel
theorem dX0_look_63 : decode cX0_look 63 = .ok (.iload 8, 2) := by decide +kernel
theorem dX0_look_65 : decode cX0_look 65 = .ok (.aload_n 1, 1) := by decide +kernel
theorem dX0_look_66 : decode cX0_look 66 = .ok (.getfield 36, 3) := by decide +kernel
theorem dX0_look_69 : decode cX0_look 69 = .ok (.if_icmp .ge 61, 3) := by decide +kernel
theorem dX0_look_72 : decode cX0_look 72 = .ok (.iload 8, 2) := by decide +kernel
theorem dX0_look_74 : decode cX0_look 74 = .ok (.iload_n 3, 1) := by decide +kernel
theorem dX0_look_75 : decode cX0_look 75 = .ok (.if_icmp .ge 18, 3) := by decide +kernel
theorem dX0_look_78 : decode cX0_look 78 = .ok (.aload_n 1, 1) := by decide +kernel
theorem dX0_look_79 : decode cX0_look 79 = .ok (.getfield 39, 3) := by decide +kernel
theorem dX0_look_82 : decode cX0_look 82 = .ok (.iload 8, 2) := by decide +kernel
theorem dX0_look_84 : decode cX0_look 84 = .ok (.aaload, 1) := by decide +kernel
theorem dX0_look_85 : decode cX0_look 85 = .ok (.aload_n 2, 1) := by decide +kernel
theorem dX0_look_86 : decode cX0_look 86 = .ok (.iload 8, 2) := by decide +kernel
theorem dX0_look_88 : decode cX0_look 88 = .ok (.iaload, 1) := by decide +kernel
theorem dX0_look_89 : decode cX0_look 89 = .ok (.iaload, 1) := by decide +kernel
theorem dX0_look_90 : decode cX0_look 90 = .ok (.goto 10, 3) := by decide +kernel
theorem dX0_look_93 : decode cX0_look 93 = .ok (.aload_n 1, 1) := by decide +kernel
theorem dX0_look_94 : decode cX0_look 94 = .ok (.aload_n 2, 1) := by decide +kernel
theorem dX0_look_95 : decode cX0_look 95 = .ok (.iload 8, 2) := by decide +kernel
theorem dX0_look_97 : decode cX0_look 97 = .ok (.invokevirtual 43, 3) := by decide +kernel
theorem dX0_look_100 : decode cX0_look 100 = .ok (.istore 9, 2) := by decide +kernel
theorem dX0_look_102 : decode cX0_look 102 = .ok (.iload 9, 2) := by decide +kernel
theorem dX0_look_104 : decode cX0_look 104 = .ok (.ldc 18, 2) := by decide +kernel
theorem dX0_look_106 : decode cX0_look 106 = .ok (.if_icmp .ne 11, 3) := by decide +kernel
theorem dX0_look_109 : decode cX0_look 109 = .ok (.aload_n 0, 1) := by decide +kernel
theorem dX0_look_110 : decode cX0_look 110 = .ok (.iconst 3, 1) := by decide +kernel
theorem dX0_look_111 : decode cX0_look 111 = .ok (.iload 8, 2) := by decide +kernel
theorem dX0_look_113 : decode cX0_look 113 = .ok (.invokevirtual 28, 3) := by decide +kernel
theorem dX0_look_116 : decode cX0_look 116 = .ok (.return_, 1) := by decide +kernel
theorem dX0_look_117 : decode cX0_look 117 = .ok (.iload 7, 2) := by decide +kernel
theorem dX0_look_119 : decode cX0_look 119 = .ok (.iload 9, 2) := by decide +kernel
theorem dX0_look_121 : decode cX0_look 121 = .ok (.iadd, 1) := by decide +kernel
theorem dX0_look_122 : decode cX0_look 122 = .ok (.istore 7, 2) := by decide +kernel
theorem dX0_look_124 : decode cX0_look 124 = .ok (.iinc 8 1, 3) := by decide +kernel
theorem dX0_look_127 : decode cX0_look 127 = .ok (.goto (-64), 3) := by decide +kernel
theorem dX0_look_130 : decode cX0_look 130 = .ok (.aload_n 0, 1) := by decide +kernel
theorem dX0_look_131 : decode cX0_look 131 = .ok (.iconst 0, 1) := by decide +kernel
theorem dX0_look_132 : decode cX0_look 132 = .ok (.putfield 9, 3) := by decide +kernel
theorem dX0_look_135 : decode cX0_look 135 = .ok (.aload_n 0, 1) := by decide +kernel
theorem dX0_look_136 : decode cX0_look 136 = .ok (.bipush (-9), 2) := by decide +kernel
theorem dX0_look_138 : decode cX0_look 138 = .ok (.putfield 15, 3) := by decide +kernel
theorem dX0_look_141 : decode cX0_look 141 = .ok (.aload_n 0, 1) := by decide +kernel
theorem dX0_look_142 : decode cX0_look 142 = .ok (.iload 7, 2) := by decide +kernel
theorem dX0_look_144 : decode cX0_look 144 = .ok (.putfield 19, 3) := by decide +kernel
theorem dX0_look_147 : decode cX0_look 147 = .ok (.return_, 1) := by decide +kernel
theorem dX0_close_0 : decode cX0_close 0 = .ok (.aload_n 0, 1) := by decide +kernel
theorem dX0_close_1 : decode cX0_close 1 = .ok (.iload_n 1, 1) := by decide +kernel
theorem dX0_close_2 : decode cX0_close 2 = .ok (.putfield 9, 3) := by decide +kernel
theorem dX0_close_5 : decode cX0_close 5 = .ok (.aload_n 0, 1) := by decide +kernel
theorem dX0_close_6 : decode cX0_close 6 = .ok (.iload_n 2, 1) := by decide +kernel
theorem dX0_close_7 : decode cX0_close 7 = .ok (.putfield 15, 3) := by decide +kernel
theorem dX0_close_10 : decode cX0_close 10 = .ok (.aload_n 0, 1) := by decide +kernel
theorem dX0_close_11 : decode cX0_close 11 = .ok (.ldc 18, 2) := by decide +kernel
theorem dX0_close_13 : decode cX0_close 13 = .ok (.putfield 19, 3) := by decide +kernel
theorem dX0_close_16 : decode cX0_close 16 = .ok (.return_, 1) := by decide +kernel

/-! part 25.judge -/
/-! THE JUDGE -/
def JuAt (J : Nat) : Prop := J < 58 ∧ J < NS ∧ kd J = 0
/-- the row at v: d values that the variables have, then none -/
def RoW (A : Nat → Nat → Int32) (B v d : Nat) : Prop := (∀ i, i < d → vp_in (A v i) (szo A B i)) ∧ ∀ i, d ≤ i → i < 6 → A v i = -1
/-- what variable i adds to the bound (-1000000: nothing can be) -/
def lbd (I A : Nat → Nat → Int32) (B v nr d i : Nat) : Int32 := if i < d then A (B + 4 + i) (A v i).toNatClampNeg else lcs I A B v i nr (szo A B i) 0 (-1000000)
def bnd (I A : Nat → Nat → Int32) (B v nr d : Nat) : Nat → Nat → Int32 → Int32 × Int32 × Int32
  | 0, _, a => (0, -9, a)
  | k + 1, i, a => if lbd I A B v nr d i = -1000000 then (3, nI i, -1000000) else bnd I A B v nr d k (i + 1) (a + lbd I A B v nr d i)
/-- what the node is, why, and its bound -/
def lk (I A : Nat → Nat → Int32) (B v nv nr d : Nat) (mt : Int32) : Int32 × Int32 × Int32 := if fbk I A B v nr = -9 then (if mt = 0 ∨ d = 0 ∨ ftw I A B v nr (d - 1) = -9 then bnd I A B v nr d nv 0 0 else (2, ftw I A B v nr (d - 1), -1000000)) else (1, fbk I A B v nr, -1000000)

set_option maxHeartbeats 4000000 in
set_option maxRecDepth 100000 in
theorem c_X0_close (l : Launch) (D : va_G) (K : Nat → ClassId) (ad : Nat → Nat) (hap0 : apart ad (fun _ => True)) (J : Nat) (a b : Int32) (hJ : JuAt J) (I : Nat → Nat → Int32) (G : Nat → Nat → Nat) (A : Nat → Nat → Int32) (L : Nat → Nat → Int64)  : Cv l D K ad yX0_close wsX0_close 0 0 [.ref (ad J), .int a, .int b] (I, G, A, L) (fun (u : Mem) => u = (up2 (up2 (up2 I J 0 a) J 1 b) J 2 (-1000000), G, A, L)) := by
  intro sz
  refine Met.ofW (cc := cX0_close) (maxL := 3) (ret := none) (by decide) rfl ?_
  intro p e s m args below meth c s₁ Bd hml hv0
  obtain ⟨rfl, hsz, hP, hK⟩ := hv0
  have hx := Bd.exec
  have hb := Bd.bytes
  have hr := Bd.returns
  have hts := atoms_spec (ws := wsX0_close) Bd.pre
  have hown : s.vm.findClass RX0 = some m.cls := findClass_of_methodNamed Bd.named
  have hlocks := Bd.notSynchronized
  have hi0 : ∀ w ∈ u_ws RX0 TX0 3, w ∈ wsX0_close := fun w h => List.mem_cons_of_mem _ (List.mem_append_right _ h)
  subst hsz
  have hap := vF_ap hap0 s.heap.size
  have hS : va_S (vF ad s.heap.size) s.heap s.heap [] := va_S.rf
  have hP : va_P D vwCl (VW K ad I G A L) s.heap := hP
  have hl := lv_entry ([.ref (ad J), .int a, .int b]) (n := 3) (Nat.le_of_ble_eq_true rfl)
  rw [lg_entry_eq]
  generalize (lg_sl ([.ref (ad J), .int a, .int b]) ++ List.replicate (3 - (lg_sl ([.ref (ad J), .int a, .int b])).length) Slot.unset).toArray = ls at hl ⊢
  have hl : lv_has ls 3 [(0, .ref (ad J)), (1, .int a), (2, .int b)] := hl
  refine lv_aload_n hx hb dX0_close_0 rfl (lv_at hl 0 rfl) ?_
  refine lv_iload_n hx hb dX0_close_1 rfl (lv_at hl 1 rfl) ?_
  refine vpI (v := a) (ty := .int) hx hb hts hi0 tyX0 tyX0_ok nmX0 hown hK hP hap hS (J) hJ.2.1 hJ.2.2 (C := RX0) (T := TX0) (N := 3) rfl 0 (by decide) (by decide) (by decide) (by decide) (hts (.fieldLink RX0 9 "CrateHelpers$Judge" "what" "I") (by decide +kernel)) (fun _ h9 => h9) rfl (by decide +kernel) rfl rfl dX0_close_2 (fun H locs hP hS => ?_)
  obtain ⟨I1, eI1⟩ : ∃ z, z = up2 I J 0 a := ⟨_, rfl⟩
  rw [← eI1] at hP
  have hP : va_P D vwCl (VW K ad I1 G A L) H := hP
  refine lv_aload_n hx hb dX0_close_5 rfl (lv_at hl 0 rfl) ?_
  refine lv_iload_n hx hb dX0_close_6 rfl (lv_at hl 2 rfl) ?_
  refine vpI (v := b) (ty := .int) hx hb hts hi0 tyX0 tyX0_ok nmX0 hown hK hP hap hS (J) hJ.2.1 hJ.2.2 (C := RX0) (T := TX0) (N := 3) rfl 1 (by decide) (by decide) (by decide) (by decide) (hts (.fieldLink RX0 15 "CrateHelpers$Judge" "why" "I") (by decide +kernel)) (fun _ h9 => h9) rfl (by decide +kernel) rfl rfl dX0_close_7 (fun H locs hP hS => ?_)
  obtain ⟨I2, eI2⟩ : ∃ z, z = up2 I1 J 1 b := ⟨_, rfl⟩
  rw [← eI2] at hP
  have hP : va_P D vwCl (VW K ad I2 G A L) H := hP
  refine lv_aload_n hx hb dX0_close_10 rfl (lv_at hl 0 rfl) ?_
  refine lv_ldc (v := (-1000000)) hx hb hown (hts (.constant RX0 18 (-1000000)) (by decide +kernel)) dX0_close_11 ?_
  refine vpI (v := (-1000000)) (ty := .int) hx hb hts hi0 tyX0 tyX0_ok nmX0 hown hK hP hap hS (J) hJ.2.1 hJ.2.2 (C := RX0) (T := TX0) (N := 3) rfl 2 (by decide) (by decide) (by decide) (by decide) (hts (.fieldLink RX0 19 "CrateHelpers$Judge" "bound" "I") (by decide +kernel)) (fun _ h9 => h9) rfl (by decide +kernel) rfl rfl dX0_close_13 (fun H locs hP hS => ?_)
  obtain ⟨I3, eI3⟩ : ∃ z, z = up2 I2 J 2 (-1000000) := ⟨_, rfl⟩
  rw [← eI3] at hP
  have hP : va_P D vwCl (VW K ad I3 G A L) H := hP
  exact W.vret hx hb hr (fun t ht hW => ⟨⟨(I3, G, A, L), rfl, by rw [eI3, eI2, eI1], by rw [ht]; exact hP, va_K.moved hW.alike hK⟩, hS.F ht⟩) hS.2.2 dX0_close_16

set_option maxHeartbeats 4000000 in
set_option maxRecDepth 100000 in
theorem c_X0_look (l : Launch) (D : va_G) (K : Nat → ClassId) (ad : Nat → Nat) (hap0 : apart ad (fun _ => True)) (J B v nv nr d : Nat) (mt : Int32) (hJ : JuAt J) (hB : PrAt B) (hv : IA v 6) (hvB : v < 58) (hdv : d ≤ nv) (I : Nat → Nat → Int32) (G : Nat → Nat → Nat) (A : Nat → Nat → Int32) (L : Nat → Nat → Int64) (hw : PrW I A B nv nr) (hro : RoW A B v d) : Cv l D K ad yX0_look wsX0_look 4 150 [.ref (ad J), .ref (ad B), .ref (ad v), .int (nI d), .int mt] (I, G, A, L) (fun (u : Mem) => u = (up2 (up2 (up2 I J 0 (lk I A B v nv nr d mt).1) J 1 (lk I A B v nv nr d mt).2.1) J 2 (lk I A B v nv nr d mt).2.2, G, A, L)) := by
  intro sz
  refine Met.ofW (cc := cX0_look) (maxL := 10) (ret := none) (by decide) rfl ?_
  intro p e s m args below meth c s₁ Bd hml hv0
  obtain ⟨rfl, hsz, hP, hK⟩ := hv0
  have hx := Bd.exec
  have hb := Bd.bytes
  have hr := Bd.returns
  have hts := atoms_spec (ws := wsX0_look) Bd.pre
  have hown : s.vm.findClass RX0 = some m.cls := findClass_of_methodNamed Bd.named
  have hlocks := Bd.notSynchronized
  have hi1 : ∀ w ∈ u_ws RX1 TX1 9, w ∈ wsX0_look := fun w h => List.mem_cons_of_mem _ (List.mem_append_left _ (List.mem_append_left _ (List.mem_append_right _ h)))
  have hi0 : ∀ w ∈ u_ws RX0 TX0 3, w ∈ wsX0_look := fun w h => List.mem_cons_of_mem _ (List.mem_append_left _ (List.mem_append_right _ h))
  have hi2 : ∀ w ∈ u_ws RX2 TX2 7, w ∈ wsX0_look := fun w h => List.mem_cons_of_mem _ (List.mem_append_right _ h)
  subst hsz
  have hap := vF_ap hap0 s.heap.size
  have hS : va_S (vF ad s.heap.size) s.heap s.heap [] := va_S.rf
  have hP : va_P D vwCl (VW K ad I G A L) s.heap := hP
  have hl := lv_entry ([.ref (ad J), .ref (ad B), .ref (ad v), .int (nI d), .int mt]) (n := 10) (Nat.le_of_ble_eq_true rfl)
  rw [lg_entry_eq]
  generalize (lg_sl ([.ref (ad J), .ref (ad B), .ref (ad v), .int (nI d), .int mt]) ++ List.replicate (10 - (lg_sl ([.ref (ad J), .ref (ad B), .ref (ad v), .int (nI d), .int mt])).length) Slot.unset).toArray = ls at hl ⊢
  have hl : lv_has ls 10 [(0, .ref (ad J)), (1, .ref (ad B)), (2, .ref (ad v)), (3, .int (nI d)), (4, .int mt)] := hl
  have hnv : nv ≤ 6 := hw.1
  have hnr : nr ≤ 8 := hw.2.1
  have hBv : I B 0 = nI nv := hw.2.2.1
  have hBr : I B 1 = nI nr := hw.2.2.2.1
  refine lv_aload_n hx hb dX0_look_0 rfl (lv_at hl 1 rfl) ?_
  refine lv_aload_n hx hb dX0_look_1 rfl (lv_at hl 2 rfl) ?_
  refine vcV (As := [.ref (ad v)]) (rest := []) ⟨hx, hb, hml, hown, hts⟩ (c_X1_firstBroken l D K ad hap0 B v nv nr hB hv I G A L hw) (cwV 1 hts gX0_look_X1_firstBroken rfl rfl rfl (by decide +kernel) ⟨Nat.le_of_ble_eq_true rfl, Nat.le_of_ble_eq_true rfl⟩) hK hP hS (by have := (pr_o hB).1; omega) (pr_o hB).2.1 (by decide) rfl rfl rfl hl.1 (Nat.le_of_ble_eq_true rfl) (Nat.le_of_ble_eq_true rfl) (Nat.le_of_ble_eq_true rfl) dX0_look_2 (fun r1 u2 H locs hw hP hS => ?_) rfl
  obtain ⟨hr1, rfl⟩ := hw
  have hP : va_P D vwCl (VW K ad I G A L) H := hP
  subst hr1
  refine lv_istore (lv' := [(5, .int (fbk I A B v nr)), (0, .ref (ad J)), (1, .ref (ad B)), (2, .ref (ad v)), (3, .int (nI d)), (4, .int mt)]) hx hb dX0_look_5 hl (by decide) rfl (fun ls hl => ?_)
  refine lv_iload hx hb dX0_look_7 (lv_at hl 0 rfl) ?_
  refine lv_bipush (v := (-9)) hx hb dX0_look_9 (by decide) ?_
  refine lv_icmp_eq (tgt := 22) hx hb dX0_look_11 (by decide) (fun c_3 => ?_) (fun c_3 => ?_)
  · refine lv_iload hx hb dX0_look_22 (lv_at hl 5 rfl) ?_
    refine lv_if_eq (tgt := 38) hx hb dX0_look_24 (by decide) (fun c_4 => ?_) (fun c_4 => ?_)
    · refine lv_bipush (v := (-9)) hx hb dX0_look_38 (by decide) ?_
      refine lv_istore (lv' := [(6, .int (-9)), (5, .int (fbk I A B v nr)), (0, .ref (ad J)), (1, .ref (ad B)), (2, .ref (ad v)), (3, .int (nI d)), (4, .int mt)]) hx hb dX0_look_40 hl (by decide) rfl (fun ls hl => ?_)
      refine lv_iload hx hb dX0_look_42 (lv_at hl 0 rfl) ?_
      refine lv_bipush (v := (-9)) hx hb dX0_look_44 (by decide) ?_
      refine lv_icmp_eq (tgt := 57) hx hb dX0_look_46 (by decide) (fun _ => ?_) (fun c_5 => absurd c_5 (by decide))
      refine lv_iconst (v := 0) hx hb dX0_look_57 (by decide) ?_
      refine lv_istore (lv' := [(7, .int 0), (6, .int (-9)), (5, .int (fbk I A B v nr)), (0, .ref (ad J)), (1, .ref (ad B)), (2, .ref (ad v)), (3, .int (nI d)), (4, .int mt)]) hx hb dX0_look_58 hl (by decide) rfl (fun ls hl => ?_)
      refine lv_iconst (v := 0) hx hb dX0_look_60 (by decide) ?_
      refine lv_istore (lv' := [(8, .int 0), (7, .int 0), (6, .int (-9)), (5, .int (fbk I A B v nr)), (0, .ref (ad J)), (1, .ref (ad B)), (2, .ref (ad v)), (3, .int (nI d)), (4, .int mt)]) hx hb dX0_look_61 hl (by decide) rfl (fun ls hl => ?_)
      have kx6 : ∀ (a : Int32), lk I A B v nv nr d mt = (0, -9, a) → ∀ (H : Heap) (locs : List Loc), va_P D vwCl (VW K ad I G A L) H → va_S (vF ad s.heap.size) s.heap H locs → ∀ (ls : Array Slot), lv_has ls 10 [(7, .int a), (0, .ref (ad J)), (1, .ref (ad B)), (2, .ref (ad v)), (3, .int (nI d)), (4, .int mt)] → W p l e ({ frames := 4, cells := 0, slots := 0, locals := 150 }) s m ([.ref (ad J), .ref (ad B), .ref (ad v), .int (nI d), .int mt] : List Value).toArray below meth c H locs 0 0 (MQ below (va_Qv (fun (u : Mem) => u = (up2 (up2 (up2 I J 0 (lk I A B v nv nr d mt).1) J 1 (lk I A B v nv nr d mt).2.1) J 2 (lk I A B v nv nr d mt).2.2, G, A, L)) (vB D K ad) (vF ad s.heap.size)) ([.ref (ad J), .ref (ad B), .ref (ad v), .int (nI d), .int mt] : List Value).toArray s 0 0 (vF ad s.heap.size)) (F0 m 130 ls []) := by
        intro a hinv6 H locs hP hS ls hl
        refine lv_aload_n hx hb dX0_look_130 rfl (lv_at hl 1 rfl) ?_
        refine lv_iconst (v := 0) hx hb dX0_look_131 (by decide) ?_
        refine vpI (v := 0) (ty := .int) hx hb hts hi0 tyX0 tyX0_ok nmX0 hown hK hP hap hS (J) hJ.2.1 hJ.2.2 (C := RX0) (T := TX0) (N := 3) rfl 0 (by decide) (by decide) (by decide) (by decide) (hts (.fieldLink RX0 9 "CrateHelpers$Judge" "what" "I") (by decide +kernel)) (fun _ h9 => h9) rfl (by decide +kernel) rfl rfl dX0_look_132 (fun H locs hP hS => ?_)
        obtain ⟨I7, eI7⟩ : ∃ z, z = up2 I J 0 0 := ⟨_, rfl⟩
        rw [← eI7] at hP
        have hP : va_P D vwCl (VW K ad I7 G A L) H := hP
        refine lv_aload_n hx hb dX0_look_135 rfl (lv_at hl 1 rfl) ?_
        refine lv_bipush (v := (-9)) hx hb dX0_look_136 (by decide) ?_
        refine vpI (v := (-9)) (ty := .int) hx hb hts hi0 tyX0 tyX0_ok nmX0 hown hK hP hap hS (J) hJ.2.1 hJ.2.2 (C := RX0) (T := TX0) (N := 3) rfl 1 (by decide) (by decide) (by decide) (by decide) (hts (.fieldLink RX0 15 "CrateHelpers$Judge" "why" "I") (by decide +kernel)) (fun _ h9 => h9) rfl (by decide +kernel) rfl rfl dX0_look_138 (fun H locs hP hS => ?_)
        obtain ⟨I8, eI8⟩ : ∃ z, z = up2 I7 J 1 (-9) := ⟨_, rfl⟩
        rw [← eI8] at hP
        have hP : va_P D vwCl (VW K ad I8 G A L) H := hP
        refine lv_aload_n hx hb dX0_look_141 rfl (lv_at hl 1 rfl) ?_
        refine lv_iload hx hb dX0_look_142 (lv_at hl 0 rfl) ?_
        refine vpI (v := a) (ty := .int) hx hb hts hi0 tyX0 tyX0_ok nmX0 hown hK hP hap hS (J) hJ.2.1 hJ.2.2 (C := RX0) (T := TX0) (N := 3) rfl 2 (by decide) (by decide) (by decide) (by decide) (hts (.fieldLink RX0 19 "CrateHelpers$Judge" "bound" "I") (by decide +kernel)) (fun _ h9 => h9) rfl (by decide +kernel) rfl rfl dX0_look_144 (fun H locs hP hS => ?_)
        obtain ⟨I9, eI9⟩ : ∃ z, z = up2 I8 J 2 a := ⟨_, rfl⟩
        rw [← eI9] at hP
        have hP : va_P D vwCl (VW K ad I9 G A L) H := hP
        exact W.vret hx hb hr (fun t ht hW => ⟨⟨(I9, G, A, L), rfl, by rw [eI9, eI8, eI7, hinv6], by rw [ht]; exact hP, va_K.moved hW.alike hK⟩, hS.F ht⟩) hS.2.2 dX0_look_147
      have lp6 : ∀ (k6 i : Nat) (a : Int32), i + k6 = nv → bnd I A B v nr d k6 i a = lk I A B v nv nr d mt → ∀ (H : Heap) (locs : List Loc), va_P D vwCl (VW K ad I G A L) H → va_S (vF ad s.heap.size) s.heap H locs → ∀ (ls : Array Slot), lv_has ls 10 [(8, .int (nI i)), (7, .int a), (0, .ref (ad J)), (1, .ref (ad B)), (2, .ref (ad v)), (3, .int (nI d)), (4, .int mt)] → W p l e ({ frames := 4, cells := 0, slots := 0, locals := 150 }) s m ([.ref (ad J), .ref (ad B), .ref (ad v), .int (nI d), .int mt] : List Value).toArray below meth c H locs 0 0 (MQ below (va_Qv (fun (u : Mem) => u = (up2 (up2 (up2 I J 0 (lk I A B v nv nr d mt).1) J 1 (lk I A B v nv nr d mt).2.1) J 2 (lk I A B v nv nr d mt).2.2, G, A, L)) (vB D K ad) (vF ad s.heap.size)) ([.ref (ad J), .ref (ad B), .ref (ad v), .int (nI d), .int mt] : List Value).toArray s 0 0 (vF ad s.heap.size)) (F0 m 63 ls []) := by
        intro k6
        induction k6 with
        | zero =>
          intro i a hk6 hinv6 H locs hP hS ls hl
          obtain rfl : nv = i := by omega
          refine lv_iload hx hb dX0_look_63 (lv_at hl 0 rfl) ?_
          refine lv_aload_n hx hb dX0_look_65 rfl (lv_at hl 3 rfl) ?_
          refine vgI hx hb hts hi1 hown hK hP (B) (by have := (pr_o hB).1; omega) (pr_o hB).2.1 (C := RX1) (T := TX1) (N := 9) rfl 0 (by decide) (by decide) (by decide) (by decide) (hts (.fieldLink RX0 36 "CrateHelpers$Problem" "variables" "I") (by decide +kernel)) (fun _ h9 => h9) dX0_look_66 ?_
          rw [hBv]
          refine lv_icmp_ge (tgt := 130) hx hb dX0_look_69 (by decide) (fun _ => ?_) (fun c_10 => absurd (nI_le (Nat.le_refl _) (by omega)) c_10)
          exact kx6 a (hinv6.symm) H locs hP hS ls (lv_sub hl [1, 2, 3, 4, 5, 6] rfl)
        | succ k6 ih6 =>
          intro i a hk6 hinv6 H locs hP hS ls hl
          have hlt6 : i < nv := by omega
          have hiv : vp_in (nI i) (ln v) := by rw [hv.2.2]; exact vp_in_nI (by omega) (by omega)
          have hi3 : vp_in (nI i) (ln (B + 3)) := by rw [(pr_o hB).2.2.2.2.2.2.2.2.2.1]; exact vp_in_nI (by omega) (by omega)
          refine lv_iload hx hb dX0_look_63 (lv_at hl 0 rfl) ?_
          refine lv_aload_n hx hb dX0_look_65 rfl (lv_at hl 3 rfl) ?_
          refine vgI hx hb hts hi1 hown hK hP (B) (by have := (pr_o hB).1; omega) (pr_o hB).2.1 (C := RX1) (T := TX1) (N := 9) rfl 0 (by decide) (by decide) (by decide) (by decide) (hts (.fieldLink RX0 36 "CrateHelpers$Problem" "variables" "I") (by decide +kernel)) (fun _ h9 => h9) dX0_look_66 ?_
          rw [hBv]
          refine lv_icmp_ge (tgt := 130) hx hb dX0_look_69 (by decide) (fun c_11 => absurd c_11 (nI_ge (by omega) (by omega))) (fun _ => ?_)
          refine lv_iload hx hb dX0_look_72 (lv_at hl 0 rfl) ?_
          refine lv_iload_n hx hb dX0_look_74 rfl (lv_at hl 5 rfl) ?_
          refine lv_icmp_ge (tgt := 93) hx hb dX0_look_75 (by decide) (fun c_12 => ?_) (fun c_12 => ?_)
          · have hdi : d ≤ i := (nI_leI (by omega) (by omega)).mp c_12
            have hlb : lbd I A B v nr d i = lcs I A B v i nr (szo A B i) 0 (-1000000) := if_neg (by omega)
            refine lv_aload_n hx hb dX0_look_93 rfl (lv_at hl 3 rfl) ?_
            refine lv_aload_n hx hb dX0_look_94 rfl (lv_at hl 4 rfl) ?_
            refine lv_iload hx hb dX0_look_95 (lv_at hl 0 rfl) ?_
            refine vcV (As := [.ref (ad v), .int (nI i)]) (rest := []) ⟨hx, hb, hml, hown, hts⟩ (c_X1_leastCost l D K ad hap0 B v nv nr i (szo A B i) hB hv hvB (by omega) (pr_sz hw (by omega)).2.2 I G A L hw (pr_sz hw (by omega)).1 (hro.2 i hdi (by omega))) (cwV 2 hts gX0_look_X1_leastCost rfl rfl rfl (by decide +kernel) ⟨Nat.le_of_ble_eq_true rfl, Nat.le_of_ble_eq_true rfl⟩) hK hP hS (by have := (pr_o hB).1; omega) (pr_o hB).2.1 (by decide) rfl rfl rfl hl.1 (Nat.le_of_ble_eq_true rfl) (Nat.le_of_ble_eq_true rfl) (Nat.le_of_ble_eq_true rfl) dX0_look_97 (fun r13 u14 H locs hw hP hS => ?_) rfl
            obtain ⟨hr13, rfl⟩ := hw
            have hP : va_P D vwCl (VW K ad I G A L) H := hP
            subst hr13
            refine lv_istore (lv' := [(9, .int (lcs I A B v i nr (szo A B i) 0 (-1000000))), (8, .int (nI i)), (7, .int a), (0, .ref (ad J)), (1, .ref (ad B)), (2, .ref (ad v)), (3, .int (nI d)), (4, .int mt)]) hx hb dX0_look_100 hl (by decide) rfl (fun ls hl => ?_)
            refine lv_iload hx hb dX0_look_102 (lv_at hl 0 rfl) ?_
            refine lv_ldc (v := (-1000000)) hx hb hown (hts (.constant RX0 18 (-1000000)) (by decide +kernel)) dX0_look_104 ?_
            refine lv_icmp_ne (tgt := 117) hx hb dX0_look_106 (by decide) (fun c_15 => ?_) (fun c_15 => ?_)
            · refine lv_iload hx hb dX0_look_117 (lv_at hl 2 rfl) ?_
              refine lv_iload hx hb dX0_look_119 (lv_at hl 0 rfl) ?_
              refine lv_iadd hx hb dX0_look_121 ?_
              refine lv_istore (lv' := [(7, .int (a + (lcs I A B v i nr (szo A B i) 0 (-1000000)))), (9, .int (lcs I A B v i nr (szo A B i) 0 (-1000000))), (8, .int (nI i)), (0, .ref (ad J)), (1, .ref (ad B)), (2, .ref (ad v)), (3, .int (nI d)), (4, .int mt)]) hx hb dX0_look_122 hl (by decide) rfl (fun ls hl => ?_)
              refine lv_iinc (v := (nI (i + 1))) (lv' := [(8, .int (nI (i + 1))), (7, .int (a + (lcs I A B v i nr (szo A B i) 0 (-1000000)))), (9, .int (lcs I A B v i nr (szo A B i) 0 (-1000000))), (0, .ref (ad J)), (1, .ref (ad B)), (2, .ref (ad v)), (3, .int (nI d)), (4, .int mt)]) hx hb dX0_look_124 hl (k := 2) rfl (nI_1 i) (by decide) rfl (fun ls hl => ?_)
              refine lv_goto (tgt := 63) hx hb dX0_look_127 (by decide) ?_
              exact ih6 (i + 1) (a + (lcs I A B v i nr (szo A B i) 0 (-1000000))) (by omega) (by rw [← hinv6]; simp [bnd, hlb, c_15]) H locs hP hS ls (lv_sub hl [0, 1, 3, 4, 5, 6, 7] rfl)
            · refine lv_aload_n hx hb dX0_look_109 rfl (lv_at hl 3 rfl) ?_
              refine lv_iconst (v := 3) hx hb dX0_look_110 (by decide) ?_
              refine lv_iload hx hb dX0_look_111 (lv_at hl 1 rfl) ?_
              refine vcVv (As := [.int 3, .int (nI i)]) (rest := []) ⟨hx, hb, hml, hown, hts⟩ (c_X0_close l D K ad hap0 J 3 (nI i) hJ I G A L) (cwV 2 hts gX0_look_X0_close rfl rfl rfl (by decide +kernel) ⟨Nat.le_of_ble_eq_true rfl, Nat.le_of_ble_eq_true rfl⟩) hK hP hS hJ.2.1 hJ.2.2 (by decide) rfl rfl rfl hl.1 (Nat.le_of_ble_eq_true rfl) (Nat.le_of_ble_eq_true rfl) (Nat.le_of_ble_eq_true rfl) dX0_look_113 (fun u17 H locs hw hP hS => ?_) rfl
              obtain ⟨I18, G19, A20, L21⟩ := u17
              have hP : va_P D vwCl (VW K ad I18 G19 A20 L21) H := hP
              exact W.vret hx hb hr (fun t ht hW => ⟨⟨(I18, G19, A20, L21), rfl, hw.trans (by rw [show lk I A B v nv nr d mt = (3, (nI i), -1000000) from by rw [← hinv6]; simp [bnd, hlb, c_15]]), by rw [ht]; exact hP, va_K.moved hW.alike hK⟩, hS.F ht⟩) hS.2.2 dX0_look_116
          · have hdi : i < d := by { rcases Nat.lt_or_ge i d with h | h; exact h; exact absurd (nI_le h (by omega)) c_12 }
            have hlb : lbd I A B v nr d i = A (B + 4 + i) (A v i).toNatClampNeg := if_pos hdi
            have hi4 : vp_in (A v i) (ln (B + 4 + i)) := by rw [(pr_row (x := i) hB (by omega)).2]; exact in_le (hro.1 i hdi) (pr_sz hw (by omega)).2.2
            refine lv_aload_n hx hb dX0_look_78 rfl (lv_at hl 3 rfl) ?_
            refine vgS hx hb hts hi1 hown hK hP (B) (by have := (pr_o hB).1; omega) (pr_o hB).2.1 (C := RX1) (T := TX1) (N := 9) rfl 6 (by decide) (by decide) (by decide) (by decide) (B + 3) rfl (hts (.fieldLink RX0 39 "CrateHelpers$Problem" "prices" "[[I") (by decide +kernel)) (fun _ h9 => h9) dX0_look_79 ?_
            refine lv_iload hx hb dX0_look_82 (lv_at hl 0 rfl) ?_
            refine xgald hx hb hK hP (B + 3) (by have := (pr_o hB).1; omega) (pr_o hB).2.2.2.2.1 hi3 (B + 4 + i) (by rw [rf15 (pr_o hB).2.2.2.2.1]; rw [nI_clamp (by omega)]) dX0_look_84 ?_
            refine lv_aload_n hx hb dX0_look_85 rfl (lv_at hl 4 rfl) ?_
            refine lv_iload hx hb dX0_look_86 (lv_at hl 0 rfl) ?_
            refine xiald hx hb hK hP (v) hv.1 hv.2.1 hiv dX0_look_88 ?_
            rw [nI_clamp (n := i) (by omega)]
            refine xiald hx hb hK hP (B + 4 + i) (by have := (pr_o hB).1; omega) (pr_row (x := i) hB (by omega)).1 hi4 dX0_look_89 ?_
            refine lv_goto (tgt := 100) hx hb dX0_look_90 (by decide) ?_
            refine lv_istore (lv' := [(9, .int (A (B + 4 + i) ((A v i).toNatClampNeg))), (8, .int (nI i)), (7, .int a), (0, .ref (ad J)), (1, .ref (ad B)), (2, .ref (ad v)), (3, .int (nI d)), (4, .int mt)]) hx hb dX0_look_100 hl (by decide) rfl (fun ls hl => ?_)
            refine lv_iload hx hb dX0_look_102 (lv_at hl 0 rfl) ?_
            refine lv_ldc (v := (-1000000)) hx hb hown (hts (.constant RX0 18 (-1000000)) (by decide +kernel)) dX0_look_104 ?_
            refine lv_icmp_ne (tgt := 117) hx hb dX0_look_106 (by decide) (fun c_22 => ?_) (fun c_22 => ?_)
            · refine lv_iload hx hb dX0_look_117 (lv_at hl 2 rfl) ?_
              refine lv_iload hx hb dX0_look_119 (lv_at hl 0 rfl) ?_
              refine lv_iadd hx hb dX0_look_121 ?_
              refine lv_istore (lv' := [(7, .int (a + (A (B + 4 + i) ((A v i).toNatClampNeg)))), (9, .int (A (B + 4 + i) ((A v i).toNatClampNeg))), (8, .int (nI i)), (0, .ref (ad J)), (1, .ref (ad B)), (2, .ref (ad v)), (3, .int (nI d)), (4, .int mt)]) hx hb dX0_look_122 hl (by decide) rfl (fun ls hl => ?_)
              refine lv_iinc (v := (nI (i + 1))) (lv' := [(8, .int (nI (i + 1))), (7, .int (a + (A (B + 4 + i) ((A v i).toNatClampNeg)))), (9, .int (A (B + 4 + i) ((A v i).toNatClampNeg))), (0, .ref (ad J)), (1, .ref (ad B)), (2, .ref (ad v)), (3, .int (nI d)), (4, .int mt)]) hx hb dX0_look_124 hl (k := 2) rfl (nI_1 i) (by decide) rfl (fun ls hl => ?_)
              refine lv_goto (tgt := 63) hx hb dX0_look_127 (by decide) ?_
              exact ih6 (i + 1) (a + (A (B + 4 + i) ((A v i).toNatClampNeg))) (by omega) (by rw [← hinv6]; simp [bnd, hlb, c_22]) H locs hP hS ls (lv_sub hl [0, 1, 3, 4, 5, 6, 7] rfl)
            · refine lv_aload_n hx hb dX0_look_109 rfl (lv_at hl 3 rfl) ?_
              refine lv_iconst (v := 3) hx hb dX0_look_110 (by decide) ?_
              refine lv_iload hx hb dX0_look_111 (lv_at hl 1 rfl) ?_
              refine vcVv (As := [.int 3, .int (nI i)]) (rest := []) ⟨hx, hb, hml, hown, hts⟩ (c_X0_close l D K ad hap0 J 3 (nI i) hJ I G A L) (cwV 2 hts gX0_look_X0_close rfl rfl rfl (by decide +kernel) ⟨Nat.le_of_ble_eq_true rfl, Nat.le_of_ble_eq_true rfl⟩) hK hP hS hJ.2.1 hJ.2.2 (by decide) rfl rfl rfl hl.1 (Nat.le_of_ble_eq_true rfl) (Nat.le_of_ble_eq_true rfl) (Nat.le_of_ble_eq_true rfl) dX0_look_113 (fun u24 H locs hw hP hS => ?_) rfl
              obtain ⟨I25, G26, A27, L28⟩ := u24
              have hP : va_P D vwCl (VW K ad I25 G26 A27 L28) H := hP
              exact W.vret hx hb hr (fun t ht hW => ⟨⟨(I25, G26, A27, L28), rfl, hw.trans (by rw [show lk I A B v nv nr d mt = (3, (nI i), -1000000) from by rw [← hinv6]; simp [bnd, hlb, c_22]]), by rw [ht]; exact hP, va_K.moved hW.alike hK⟩, hS.F ht⟩) hS.2.2 dX0_look_116
      exact lp6 (nv) 0 0 (by omega) (by simp [lk, c_3, c_4]) _ _ hP hS ls (lv_sub hl [0, 1, 4, 5, 6, 7, 8] rfl)
    · refine lv_aload_n hx hb dX0_look_27 rfl (lv_at hl 2 rfl) ?_
      refine lv_aload_n hx hb dX0_look_28 rfl (lv_at hl 3 rfl) ?_
      refine lv_iload_n hx hb dX0_look_29 rfl (lv_at hl 4 rfl) ?_
      refine lv_iconst (v := 1) hx hb dX0_look_30 (by decide) ?_
      refine lv_isub hx hb dX0_look_31 ?_
      by_cases hd0 : d = 0
      · rw [show (nI d) - 1 = (-1 : Int32) by rw [hd0]; decide]
        refine vcV (As := [.ref (ad v), .int (-1)]) (rest := []) ⟨hx, hb, hml, hown, hts⟩ (c_X1_firstTwin0 l D K ad hap0 B v I G A L) (cwV 2 hts gX0_look_X1_firstTwin rfl rfl rfl (by decide +kernel) ⟨Nat.le_of_ble_eq_true rfl, Nat.le_of_ble_eq_true rfl⟩) hK hP hS (by have := (pr_o hB).1; omega) (pr_o hB).2.1 (by decide) rfl rfl rfl hl.1 (Nat.le_of_ble_eq_true rfl) (Nat.le_of_ble_eq_true rfl) (Nat.le_of_ble_eq_true rfl) dX0_look_32 (fun r29 u30 H locs hw hP hS => ?_) rfl
        obtain ⟨hr29, rfl⟩ := hw
        have hP : va_P D vwCl (VW K ad I G A L) H := hP
        subst hr29
        refine lv_goto (tgt := 40) hx hb dX0_look_35 (by decide) ?_
        refine lv_istore (lv' := [(6, .int (-9)), (5, .int (fbk I A B v nr)), (0, .ref (ad J)), (1, .ref (ad B)), (2, .ref (ad v)), (3, .int (nI d)), (4, .int mt)]) hx hb dX0_look_40 hl (by decide) rfl (fun ls hl => ?_)
        refine lv_iload hx hb dX0_look_42 (lv_at hl 0 rfl) ?_
        refine lv_bipush (v := (-9)) hx hb dX0_look_44 (by decide) ?_
        refine lv_icmp_eq (tgt := 57) hx hb dX0_look_46 (by decide) (fun _ => ?_) (fun c_31 => absurd c_31 (by decide))
        refine lv_iconst (v := 0) hx hb dX0_look_57 (by decide) ?_
        refine lv_istore (lv' := [(7, .int 0), (6, .int (-9)), (5, .int (fbk I A B v nr)), (0, .ref (ad J)), (1, .ref (ad B)), (2, .ref (ad v)), (3, .int (nI d)), (4, .int mt)]) hx hb dX0_look_58 hl (by decide) rfl (fun ls hl => ?_)
        refine lv_iconst (v := 0) hx hb dX0_look_60 (by decide) ?_
        refine lv_istore (lv' := [(8, .int 0), (7, .int 0), (6, .int (-9)), (5, .int (fbk I A B v nr)), (0, .ref (ad J)), (1, .ref (ad B)), (2, .ref (ad v)), (3, .int (nI d)), (4, .int mt)]) hx hb dX0_look_61 hl (by decide) rfl (fun ls hl => ?_)
        have kx32 : ∀ (a : Int32), lk I A B v nv nr d mt = (0, -9, a) → ∀ (H : Heap) (locs : List Loc), va_P D vwCl (VW K ad I G A L) H → va_S (vF ad s.heap.size) s.heap H locs → ∀ (ls : Array Slot), lv_has ls 10 [(7, .int a), (0, .ref (ad J)), (1, .ref (ad B)), (2, .ref (ad v)), (3, .int (nI d)), (4, .int mt)] → W p l e ({ frames := 4, cells := 0, slots := 0, locals := 150 }) s m ([.ref (ad J), .ref (ad B), .ref (ad v), .int (nI d), .int mt] : List Value).toArray below meth c H locs 0 0 (MQ below (va_Qv (fun (u : Mem) => u = (up2 (up2 (up2 I J 0 (lk I A B v nv nr d mt).1) J 1 (lk I A B v nv nr d mt).2.1) J 2 (lk I A B v nv nr d mt).2.2, G, A, L)) (vB D K ad) (vF ad s.heap.size)) ([.ref (ad J), .ref (ad B), .ref (ad v), .int (nI d), .int mt] : List Value).toArray s 0 0 (vF ad s.heap.size)) (F0 m 130 ls []) := by
          intro a hinv32 H locs hP hS ls hl
          refine lv_aload_n hx hb dX0_look_130 rfl (lv_at hl 1 rfl) ?_
          refine lv_iconst (v := 0) hx hb dX0_look_131 (by decide) ?_
          refine vpI (v := 0) (ty := .int) hx hb hts hi0 tyX0 tyX0_ok nmX0 hown hK hP hap hS (J) hJ.2.1 hJ.2.2 (C := RX0) (T := TX0) (N := 3) rfl 0 (by decide) (by decide) (by decide) (by decide) (hts (.fieldLink RX0 9 "CrateHelpers$Judge" "what" "I") (by decide +kernel)) (fun _ h9 => h9) rfl (by decide +kernel) rfl rfl dX0_look_132 (fun H locs hP hS => ?_)
          obtain ⟨I33, eI33⟩ : ∃ z, z = up2 I J 0 0 := ⟨_, rfl⟩
          rw [← eI33] at hP
          have hP : va_P D vwCl (VW K ad I33 G A L) H := hP
          refine lv_aload_n hx hb dX0_look_135 rfl (lv_at hl 1 rfl) ?_
          refine lv_bipush (v := (-9)) hx hb dX0_look_136 (by decide) ?_
          refine vpI (v := (-9)) (ty := .int) hx hb hts hi0 tyX0 tyX0_ok nmX0 hown hK hP hap hS (J) hJ.2.1 hJ.2.2 (C := RX0) (T := TX0) (N := 3) rfl 1 (by decide) (by decide) (by decide) (by decide) (hts (.fieldLink RX0 15 "CrateHelpers$Judge" "why" "I") (by decide +kernel)) (fun _ h9 => h9) rfl (by decide +kernel) rfl rfl dX0_look_138 (fun H locs hP hS => ?_)
          obtain ⟨I34, eI34⟩ : ∃ z, z = up2 I33 J 1 (-9) := ⟨_, rfl⟩
          rw [← eI34] at hP
          have hP : va_P D vwCl (VW K ad I34 G A L) H := hP
          refine lv_aload_n hx hb dX0_look_141 rfl (lv_at hl 1 rfl) ?_
          refine lv_iload hx hb dX0_look_142 (lv_at hl 0 rfl) ?_
          refine vpI (v := a) (ty := .int) hx hb hts hi0 tyX0 tyX0_ok nmX0 hown hK hP hap hS (J) hJ.2.1 hJ.2.2 (C := RX0) (T := TX0) (N := 3) rfl 2 (by decide) (by decide) (by decide) (by decide) (hts (.fieldLink RX0 19 "CrateHelpers$Judge" "bound" "I") (by decide +kernel)) (fun _ h9 => h9) rfl (by decide +kernel) rfl rfl dX0_look_144 (fun H locs hP hS => ?_)
          obtain ⟨I35, eI35⟩ : ∃ z, z = up2 I34 J 2 a := ⟨_, rfl⟩
          rw [← eI35] at hP
          have hP : va_P D vwCl (VW K ad I35 G A L) H := hP
          exact W.vret hx hb hr (fun t ht hW => ⟨⟨(I35, G, A, L), rfl, by rw [eI35, eI34, eI33, hinv32], by rw [ht]; exact hP, va_K.moved hW.alike hK⟩, hS.F ht⟩) hS.2.2 dX0_look_147
        have lp32 : ∀ (k32 i : Nat) (a : Int32), i + k32 = nv → bnd I A B v nr d k32 i a = lk I A B v nv nr d mt → ∀ (H : Heap) (locs : List Loc), va_P D vwCl (VW K ad I G A L) H → va_S (vF ad s.heap.size) s.heap H locs → ∀ (ls : Array Slot), lv_has ls 10 [(8, .int (nI i)), (7, .int a), (0, .ref (ad J)), (1, .ref (ad B)), (2, .ref (ad v)), (3, .int (nI d)), (4, .int mt)] → W p l e ({ frames := 4, cells := 0, slots := 0, locals := 150 }) s m ([.ref (ad J), .ref (ad B), .ref (ad v), .int (nI d), .int mt] : List Value).toArray below meth c H locs 0 0 (MQ below (va_Qv (fun (u : Mem) => u = (up2 (up2 (up2 I J 0 (lk I A B v nv nr d mt).1) J 1 (lk I A B v nv nr d mt).2.1) J 2 (lk I A B v nv nr d mt).2.2, G, A, L)) (vB D K ad) (vF ad s.heap.size)) ([.ref (ad J), .ref (ad B), .ref (ad v), .int (nI d), .int mt] : List Value).toArray s 0 0 (vF ad s.heap.size)) (F0 m 63 ls []) := by
          intro k32
          induction k32 with
          | zero =>
            intro i a hk32 hinv32 H locs hP hS ls hl
            obtain rfl : nv = i := by omega
            refine lv_iload hx hb dX0_look_63 (lv_at hl 0 rfl) ?_
            refine lv_aload_n hx hb dX0_look_65 rfl (lv_at hl 3 rfl) ?_
            refine vgI hx hb hts hi1 hown hK hP (B) (by have := (pr_o hB).1; omega) (pr_o hB).2.1 (C := RX1) (T := TX1) (N := 9) rfl 0 (by decide) (by decide) (by decide) (by decide) (hts (.fieldLink RX0 36 "CrateHelpers$Problem" "variables" "I") (by decide +kernel)) (fun _ h9 => h9) dX0_look_66 ?_
            rw [hBv]
            refine lv_icmp_ge (tgt := 130) hx hb dX0_look_69 (by decide) (fun _ => ?_) (fun c_36 => absurd (nI_le (Nat.le_refl _) (by omega)) c_36)
            exact kx32 a (hinv32.symm) H locs hP hS ls (lv_sub hl [1, 2, 3, 4, 5, 6] rfl)
          | succ k32 ih32 =>
            intro i a hk32 hinv32 H locs hP hS ls hl
            have hlt32 : i < nv := by omega
            have hiv : vp_in (nI i) (ln v) := by rw [hv.2.2]; exact vp_in_nI (by omega) (by omega)
            have hi3 : vp_in (nI i) (ln (B + 3)) := by rw [(pr_o hB).2.2.2.2.2.2.2.2.2.1]; exact vp_in_nI (by omega) (by omega)
            refine lv_iload hx hb dX0_look_63 (lv_at hl 0 rfl) ?_
            refine lv_aload_n hx hb dX0_look_65 rfl (lv_at hl 3 rfl) ?_
            refine vgI hx hb hts hi1 hown hK hP (B) (by have := (pr_o hB).1; omega) (pr_o hB).2.1 (C := RX1) (T := TX1) (N := 9) rfl 0 (by decide) (by decide) (by decide) (by decide) (hts (.fieldLink RX0 36 "CrateHelpers$Problem" "variables" "I") (by decide +kernel)) (fun _ h9 => h9) dX0_look_66 ?_
            rw [hBv]
            refine lv_icmp_ge (tgt := 130) hx hb dX0_look_69 (by decide) (fun c_37 => absurd c_37 (nI_ge (by omega) (by omega))) (fun _ => ?_)
            refine lv_iload hx hb dX0_look_72 (lv_at hl 0 rfl) ?_
            refine lv_iload_n hx hb dX0_look_74 rfl (lv_at hl 5 rfl) ?_
            refine lv_icmp_ge (tgt := 93) hx hb dX0_look_75 (by decide) (fun c_38 => ?_) (fun c_38 => ?_)
            · have hdi : d ≤ i := (nI_leI (by omega) (by omega)).mp c_38
              have hlb : lbd I A B v nr d i = lcs I A B v i nr (szo A B i) 0 (-1000000) := if_neg (by omega)
              refine lv_aload_n hx hb dX0_look_93 rfl (lv_at hl 3 rfl) ?_
              refine lv_aload_n hx hb dX0_look_94 rfl (lv_at hl 4 rfl) ?_
              refine lv_iload hx hb dX0_look_95 (lv_at hl 0 rfl) ?_
              refine vcV (As := [.ref (ad v), .int (nI i)]) (rest := []) ⟨hx, hb, hml, hown, hts⟩ (c_X1_leastCost l D K ad hap0 B v nv nr i (szo A B i) hB hv hvB (by omega) (pr_sz hw (by omega)).2.2 I G A L hw (pr_sz hw (by omega)).1 (hro.2 i hdi (by omega))) (cwV 2 hts gX0_look_X1_leastCost rfl rfl rfl (by decide +kernel) ⟨Nat.le_of_ble_eq_true rfl, Nat.le_of_ble_eq_true rfl⟩) hK hP hS (by have := (pr_o hB).1; omega) (pr_o hB).2.1 (by decide) rfl rfl rfl hl.1 (Nat.le_of_ble_eq_true rfl) (Nat.le_of_ble_eq_true rfl) (Nat.le_of_ble_eq_true rfl) dX0_look_97 (fun r39 u40 H locs hw hP hS => ?_) rfl
              obtain ⟨hr39, rfl⟩ := hw
              have hP : va_P D vwCl (VW K ad I G A L) H := hP
              subst hr39
              refine lv_istore (lv' := [(9, .int (lcs I A B v i nr (szo A B i) 0 (-1000000))), (8, .int (nI i)), (7, .int a), (0, .ref (ad J)), (1, .ref (ad B)), (2, .ref (ad v)), (3, .int (nI d)), (4, .int mt)]) hx hb dX0_look_100 hl (by decide) rfl (fun ls hl => ?_)
              refine lv_iload hx hb dX0_look_102 (lv_at hl 0 rfl) ?_
              refine lv_ldc (v := (-1000000)) hx hb hown (hts (.constant RX0 18 (-1000000)) (by decide +kernel)) dX0_look_104 ?_
              refine lv_icmp_ne (tgt := 117) hx hb dX0_look_106 (by decide) (fun c_41 => ?_) (fun c_41 => ?_)
              · refine lv_iload hx hb dX0_look_117 (lv_at hl 2 rfl) ?_
                refine lv_iload hx hb dX0_look_119 (lv_at hl 0 rfl) ?_
                refine lv_iadd hx hb dX0_look_121 ?_
                refine lv_istore (lv' := [(7, .int (a + (lcs I A B v i nr (szo A B i) 0 (-1000000)))), (9, .int (lcs I A B v i nr (szo A B i) 0 (-1000000))), (8, .int (nI i)), (0, .ref (ad J)), (1, .ref (ad B)), (2, .ref (ad v)), (3, .int (nI d)), (4, .int mt)]) hx hb dX0_look_122 hl (by decide) rfl (fun ls hl => ?_)
                refine lv_iinc (v := (nI (i + 1))) (lv' := [(8, .int (nI (i + 1))), (7, .int (a + (lcs I A B v i nr (szo A B i) 0 (-1000000)))), (9, .int (lcs I A B v i nr (szo A B i) 0 (-1000000))), (0, .ref (ad J)), (1, .ref (ad B)), (2, .ref (ad v)), (3, .int (nI d)), (4, .int mt)]) hx hb dX0_look_124 hl (k := 2) rfl (nI_1 i) (by decide) rfl (fun ls hl => ?_)
                refine lv_goto (tgt := 63) hx hb dX0_look_127 (by decide) ?_
                exact ih32 (i + 1) (a + (lcs I A B v i nr (szo A B i) 0 (-1000000))) (by omega) (by rw [← hinv32]; simp [bnd, hlb, c_41]) H locs hP hS ls (lv_sub hl [0, 1, 3, 4, 5, 6, 7] rfl)
              · refine lv_aload_n hx hb dX0_look_109 rfl (lv_at hl 3 rfl) ?_
                refine lv_iconst (v := 3) hx hb dX0_look_110 (by decide) ?_
                refine lv_iload hx hb dX0_look_111 (lv_at hl 1 rfl) ?_
                refine vcVv (As := [.int 3, .int (nI i)]) (rest := []) ⟨hx, hb, hml, hown, hts⟩ (c_X0_close l D K ad hap0 J 3 (nI i) hJ I G A L) (cwV 2 hts gX0_look_X0_close rfl rfl rfl (by decide +kernel) ⟨Nat.le_of_ble_eq_true rfl, Nat.le_of_ble_eq_true rfl⟩) hK hP hS hJ.2.1 hJ.2.2 (by decide) rfl rfl rfl hl.1 (Nat.le_of_ble_eq_true rfl) (Nat.le_of_ble_eq_true rfl) (Nat.le_of_ble_eq_true rfl) dX0_look_113 (fun u43 H locs hw hP hS => ?_) rfl
                obtain ⟨I44, G45, A46, L47⟩ := u43
                have hP : va_P D vwCl (VW K ad I44 G45 A46 L47) H := hP
                exact W.vret hx hb hr (fun t ht hW => ⟨⟨(I44, G45, A46, L47), rfl, hw.trans (by rw [show lk I A B v nv nr d mt = (3, (nI i), -1000000) from by rw [← hinv32]; simp [bnd, hlb, c_41]]), by rw [ht]; exact hP, va_K.moved hW.alike hK⟩, hS.F ht⟩) hS.2.2 dX0_look_116
            · have hdi : i < d := by { rcases Nat.lt_or_ge i d with h | h; exact h; exact absurd (nI_le h (by omega)) c_38 }
              have hlb : lbd I A B v nr d i = A (B + 4 + i) (A v i).toNatClampNeg := if_pos hdi
              have hi4 : vp_in (A v i) (ln (B + 4 + i)) := by rw [(pr_row (x := i) hB (by omega)).2]; exact in_le (hro.1 i hdi) (pr_sz hw (by omega)).2.2
              refine lv_aload_n hx hb dX0_look_78 rfl (lv_at hl 3 rfl) ?_
              refine vgS hx hb hts hi1 hown hK hP (B) (by have := (pr_o hB).1; omega) (pr_o hB).2.1 (C := RX1) (T := TX1) (N := 9) rfl 6 (by decide) (by decide) (by decide) (by decide) (B + 3) rfl (hts (.fieldLink RX0 39 "CrateHelpers$Problem" "prices" "[[I") (by decide +kernel)) (fun _ h9 => h9) dX0_look_79 ?_
              refine lv_iload hx hb dX0_look_82 (lv_at hl 0 rfl) ?_
              refine xgald hx hb hK hP (B + 3) (by have := (pr_o hB).1; omega) (pr_o hB).2.2.2.2.1 hi3 (B + 4 + i) (by rw [rf15 (pr_o hB).2.2.2.2.1]; rw [nI_clamp (by omega)]) dX0_look_84 ?_
              refine lv_aload_n hx hb dX0_look_85 rfl (lv_at hl 4 rfl) ?_
              refine lv_iload hx hb dX0_look_86 (lv_at hl 0 rfl) ?_
              refine xiald hx hb hK hP (v) hv.1 hv.2.1 hiv dX0_look_88 ?_
              rw [nI_clamp (n := i) (by omega)]
              refine xiald hx hb hK hP (B + 4 + i) (by have := (pr_o hB).1; omega) (pr_row (x := i) hB (by omega)).1 hi4 dX0_look_89 ?_
              refine lv_goto (tgt := 100) hx hb dX0_look_90 (by decide) ?_
              refine lv_istore (lv' := [(9, .int (A (B + 4 + i) ((A v i).toNatClampNeg))), (8, .int (nI i)), (7, .int a), (0, .ref (ad J)), (1, .ref (ad B)), (2, .ref (ad v)), (3, .int (nI d)), (4, .int mt)]) hx hb dX0_look_100 hl (by decide) rfl (fun ls hl => ?_)
              refine lv_iload hx hb dX0_look_102 (lv_at hl 0 rfl) ?_
              refine lv_ldc (v := (-1000000)) hx hb hown (hts (.constant RX0 18 (-1000000)) (by decide +kernel)) dX0_look_104 ?_
              refine lv_icmp_ne (tgt := 117) hx hb dX0_look_106 (by decide) (fun c_48 => ?_) (fun c_48 => ?_)
              · refine lv_iload hx hb dX0_look_117 (lv_at hl 2 rfl) ?_
                refine lv_iload hx hb dX0_look_119 (lv_at hl 0 rfl) ?_
                refine lv_iadd hx hb dX0_look_121 ?_
                refine lv_istore (lv' := [(7, .int (a + (A (B + 4 + i) ((A v i).toNatClampNeg)))), (9, .int (A (B + 4 + i) ((A v i).toNatClampNeg))), (8, .int (nI i)), (0, .ref (ad J)), (1, .ref (ad B)), (2, .ref (ad v)), (3, .int (nI d)), (4, .int mt)]) hx hb dX0_look_122 hl (by decide) rfl (fun ls hl => ?_)
                refine lv_iinc (v := (nI (i + 1))) (lv' := [(8, .int (nI (i + 1))), (7, .int (a + (A (B + 4 + i) ((A v i).toNatClampNeg)))), (9, .int (A (B + 4 + i) ((A v i).toNatClampNeg))), (0, .ref (ad J)), (1, .ref (ad B)), (2, .ref (ad v)), (3, .int (nI d)), (4, .int mt)]) hx hb dX0_look_124 hl (k := 2) rfl (nI_1 i) (by decide) rfl (fun ls hl => ?_)
                refine lv_goto (tgt := 63) hx hb dX0_look_127 (by decide) ?_
                exact ih32 (i + 1) (a + (A (B + 4 + i) ((A v i).toNatClampNeg))) (by omega) (by rw [← hinv32]; simp [bnd, hlb, c_48]) H locs hP hS ls (lv_sub hl [0, 1, 3, 4, 5, 6, 7] rfl)
              · refine lv_aload_n hx hb dX0_look_109 rfl (lv_at hl 3 rfl) ?_
                refine lv_iconst (v := 3) hx hb dX0_look_110 (by decide) ?_
                refine lv_iload hx hb dX0_look_111 (lv_at hl 1 rfl) ?_
                refine vcVv (As := [.int 3, .int (nI i)]) (rest := []) ⟨hx, hb, hml, hown, hts⟩ (c_X0_close l D K ad hap0 J 3 (nI i) hJ I G A L) (cwV 2 hts gX0_look_X0_close rfl rfl rfl (by decide +kernel) ⟨Nat.le_of_ble_eq_true rfl, Nat.le_of_ble_eq_true rfl⟩) hK hP hS hJ.2.1 hJ.2.2 (by decide) rfl rfl rfl hl.1 (Nat.le_of_ble_eq_true rfl) (Nat.le_of_ble_eq_true rfl) (Nat.le_of_ble_eq_true rfl) dX0_look_113 (fun u50 H locs hw hP hS => ?_) rfl
                obtain ⟨I51, G52, A53, L54⟩ := u50
                have hP : va_P D vwCl (VW K ad I51 G52 A53 L54) H := hP
                exact W.vret hx hb hr (fun t ht hW => ⟨⟨(I51, G52, A53, L54), rfl, hw.trans (by rw [show lk I A B v nv nr d mt = (3, (nI i), -1000000) from by rw [← hinv32]; simp [bnd, hlb, c_48]]), by rw [ht]; exact hP, va_K.moved hW.alike hK⟩, hS.F ht⟩) hS.2.2 dX0_look_116
        exact lp32 (nv) 0 0 (by omega) (by simp [lk, c_3, c_4, hd0]) _ _ hP hS ls (lv_sub hl [0, 1, 4, 5, 6, 7, 8] rfl)
      · rw [show (nI d) - 1 = nI (d - 1) by { have h := nI_pred (d - 1); rwa [Nat.sub_add_cancel (by omega)] at h }]
        refine vcV (As := [.ref (ad v), .int (nI (d - 1))]) (rest := []) ⟨hx, hb, hml, hown, hts⟩ (c_X1_firstTwin l D K ad hap0 B v nv nr (d - 1) hB hv (by omega) I G A L hw) (cwV 2 hts gX0_look_X1_firstTwin rfl rfl rfl (by decide +kernel) ⟨Nat.le_of_ble_eq_true rfl, Nat.le_of_ble_eq_true rfl⟩) hK hP hS (by have := (pr_o hB).1; omega) (pr_o hB).2.1 (by decide) rfl rfl rfl hl.1 (Nat.le_of_ble_eq_true rfl) (Nat.le_of_ble_eq_true rfl) (Nat.le_of_ble_eq_true rfl) dX0_look_32 (fun r55 u56 H locs hw hP hS => ?_) rfl
        obtain ⟨hr55, rfl⟩ := hw
        have hP : va_P D vwCl (VW K ad I G A L) H := hP
        subst hr55
        refine lv_goto (tgt := 40) hx hb dX0_look_35 (by decide) ?_
        refine lv_istore (lv' := [(6, .int (ftw I A B v nr (d - 1))), (5, .int (fbk I A B v nr)), (0, .ref (ad J)), (1, .ref (ad B)), (2, .ref (ad v)), (3, .int (nI d)), (4, .int mt)]) hx hb dX0_look_40 hl (by decide) rfl (fun ls hl => ?_)
        refine lv_iload hx hb dX0_look_42 (lv_at hl 0 rfl) ?_
        refine lv_bipush (v := (-9)) hx hb dX0_look_44 (by decide) ?_
        refine lv_icmp_eq (tgt := 57) hx hb dX0_look_46 (by decide) (fun c_57 => ?_) (fun c_57 => ?_)
        · refine lv_iconst (v := 0) hx hb dX0_look_57 (by decide) ?_
          refine lv_istore (lv' := [(7, .int 0), (6, .int (ftw I A B v nr (d - 1))), (5, .int (fbk I A B v nr)), (0, .ref (ad J)), (1, .ref (ad B)), (2, .ref (ad v)), (3, .int (nI d)), (4, .int mt)]) hx hb dX0_look_58 hl (by decide) rfl (fun ls hl => ?_)
          refine lv_iconst (v := 0) hx hb dX0_look_60 (by decide) ?_
          refine lv_istore (lv' := [(8, .int 0), (7, .int 0), (6, .int (ftw I A B v nr (d - 1))), (5, .int (fbk I A B v nr)), (0, .ref (ad J)), (1, .ref (ad B)), (2, .ref (ad v)), (3, .int (nI d)), (4, .int mt)]) hx hb dX0_look_61 hl (by decide) rfl (fun ls hl => ?_)
          have kx58 : ∀ (a : Int32), lk I A B v nv nr d mt = (0, -9, a) → ∀ (H : Heap) (locs : List Loc), va_P D vwCl (VW K ad I G A L) H → va_S (vF ad s.heap.size) s.heap H locs → ∀ (ls : Array Slot), lv_has ls 10 [(7, .int a), (0, .ref (ad J)), (1, .ref (ad B)), (2, .ref (ad v)), (3, .int (nI d)), (4, .int mt)] → W p l e ({ frames := 4, cells := 0, slots := 0, locals := 150 }) s m ([.ref (ad J), .ref (ad B), .ref (ad v), .int (nI d), .int mt] : List Value).toArray below meth c H locs 0 0 (MQ below (va_Qv (fun (u : Mem) => u = (up2 (up2 (up2 I J 0 (lk I A B v nv nr d mt).1) J 1 (lk I A B v nv nr d mt).2.1) J 2 (lk I A B v nv nr d mt).2.2, G, A, L)) (vB D K ad) (vF ad s.heap.size)) ([.ref (ad J), .ref (ad B), .ref (ad v), .int (nI d), .int mt] : List Value).toArray s 0 0 (vF ad s.heap.size)) (F0 m 130 ls []) := by
            intro a hinv58 H locs hP hS ls hl
            refine lv_aload_n hx hb dX0_look_130 rfl (lv_at hl 1 rfl) ?_
            refine lv_iconst (v := 0) hx hb dX0_look_131 (by decide) ?_
            refine vpI (v := 0) (ty := .int) hx hb hts hi0 tyX0 tyX0_ok nmX0 hown hK hP hap hS (J) hJ.2.1 hJ.2.2 (C := RX0) (T := TX0) (N := 3) rfl 0 (by decide) (by decide) (by decide) (by decide) (hts (.fieldLink RX0 9 "CrateHelpers$Judge" "what" "I") (by decide +kernel)) (fun _ h9 => h9) rfl (by decide +kernel) rfl rfl dX0_look_132 (fun H locs hP hS => ?_)
            obtain ⟨I59, eI59⟩ : ∃ z, z = up2 I J 0 0 := ⟨_, rfl⟩
            rw [← eI59] at hP
            have hP : va_P D vwCl (VW K ad I59 G A L) H := hP
            refine lv_aload_n hx hb dX0_look_135 rfl (lv_at hl 1 rfl) ?_
            refine lv_bipush (v := (-9)) hx hb dX0_look_136 (by decide) ?_
            refine vpI (v := (-9)) (ty := .int) hx hb hts hi0 tyX0 tyX0_ok nmX0 hown hK hP hap hS (J) hJ.2.1 hJ.2.2 (C := RX0) (T := TX0) (N := 3) rfl 1 (by decide) (by decide) (by decide) (by decide) (hts (.fieldLink RX0 15 "CrateHelpers$Judge" "why" "I") (by decide +kernel)) (fun _ h9 => h9) rfl (by decide +kernel) rfl rfl dX0_look_138 (fun H locs hP hS => ?_)
            obtain ⟨I60, eI60⟩ : ∃ z, z = up2 I59 J 1 (-9) := ⟨_, rfl⟩
            rw [← eI60] at hP
            have hP : va_P D vwCl (VW K ad I60 G A L) H := hP
            refine lv_aload_n hx hb dX0_look_141 rfl (lv_at hl 1 rfl) ?_
            refine lv_iload hx hb dX0_look_142 (lv_at hl 0 rfl) ?_
            refine vpI (v := a) (ty := .int) hx hb hts hi0 tyX0 tyX0_ok nmX0 hown hK hP hap hS (J) hJ.2.1 hJ.2.2 (C := RX0) (T := TX0) (N := 3) rfl 2 (by decide) (by decide) (by decide) (by decide) (hts (.fieldLink RX0 19 "CrateHelpers$Judge" "bound" "I") (by decide +kernel)) (fun _ h9 => h9) rfl (by decide +kernel) rfl rfl dX0_look_144 (fun H locs hP hS => ?_)
            obtain ⟨I61, eI61⟩ : ∃ z, z = up2 I60 J 2 a := ⟨_, rfl⟩
            rw [← eI61] at hP
            have hP : va_P D vwCl (VW K ad I61 G A L) H := hP
            exact W.vret hx hb hr (fun t ht hW => ⟨⟨(I61, G, A, L), rfl, by rw [eI61, eI60, eI59, hinv58], by rw [ht]; exact hP, va_K.moved hW.alike hK⟩, hS.F ht⟩) hS.2.2 dX0_look_147
          have lp58 : ∀ (k58 i : Nat) (a : Int32), i + k58 = nv → bnd I A B v nr d k58 i a = lk I A B v nv nr d mt → ∀ (H : Heap) (locs : List Loc), va_P D vwCl (VW K ad I G A L) H → va_S (vF ad s.heap.size) s.heap H locs → ∀ (ls : Array Slot), lv_has ls 10 [(8, .int (nI i)), (7, .int a), (0, .ref (ad J)), (1, .ref (ad B)), (2, .ref (ad v)), (3, .int (nI d)), (4, .int mt)] → W p l e ({ frames := 4, cells := 0, slots := 0, locals := 150 }) s m ([.ref (ad J), .ref (ad B), .ref (ad v), .int (nI d), .int mt] : List Value).toArray below meth c H locs 0 0 (MQ below (va_Qv (fun (u : Mem) => u = (up2 (up2 (up2 I J 0 (lk I A B v nv nr d mt).1) J 1 (lk I A B v nv nr d mt).2.1) J 2 (lk I A B v nv nr d mt).2.2, G, A, L)) (vB D K ad) (vF ad s.heap.size)) ([.ref (ad J), .ref (ad B), .ref (ad v), .int (nI d), .int mt] : List Value).toArray s 0 0 (vF ad s.heap.size)) (F0 m 63 ls []) := by
            intro k58
            induction k58 with
            | zero =>
              intro i a hk58 hinv58 H locs hP hS ls hl
              obtain rfl : nv = i := by omega
              refine lv_iload hx hb dX0_look_63 (lv_at hl 0 rfl) ?_
              refine lv_aload_n hx hb dX0_look_65 rfl (lv_at hl 3 rfl) ?_
              refine vgI hx hb hts hi1 hown hK hP (B) (by have := (pr_o hB).1; omega) (pr_o hB).2.1 (C := RX1) (T := TX1) (N := 9) rfl 0 (by decide) (by decide) (by decide) (by decide) (hts (.fieldLink RX0 36 "CrateHelpers$Problem" "variables" "I") (by decide +kernel)) (fun _ h9 => h9) dX0_look_66 ?_
              rw [hBv]
              refine lv_icmp_ge (tgt := 130) hx hb dX0_look_69 (by decide) (fun _ => ?_) (fun c_62 => absurd (nI_le (Nat.le_refl _) (by omega)) c_62)
              exact kx58 a (hinv58.symm) H locs hP hS ls (lv_sub hl [1, 2, 3, 4, 5, 6] rfl)
            | succ k58 ih58 =>
              intro i a hk58 hinv58 H locs hP hS ls hl
              have hlt58 : i < nv := by omega
              have hiv : vp_in (nI i) (ln v) := by rw [hv.2.2]; exact vp_in_nI (by omega) (by omega)
              have hi3 : vp_in (nI i) (ln (B + 3)) := by rw [(pr_o hB).2.2.2.2.2.2.2.2.2.1]; exact vp_in_nI (by omega) (by omega)
              refine lv_iload hx hb dX0_look_63 (lv_at hl 0 rfl) ?_
              refine lv_aload_n hx hb dX0_look_65 rfl (lv_at hl 3 rfl) ?_
              refine vgI hx hb hts hi1 hown hK hP (B) (by have := (pr_o hB).1; omega) (pr_o hB).2.1 (C := RX1) (T := TX1) (N := 9) rfl 0 (by decide) (by decide) (by decide) (by decide) (hts (.fieldLink RX0 36 "CrateHelpers$Problem" "variables" "I") (by decide +kernel)) (fun _ h9 => h9) dX0_look_66 ?_
              rw [hBv]
              refine lv_icmp_ge (tgt := 130) hx hb dX0_look_69 (by decide) (fun c_63 => absurd c_63 (nI_ge (by omega) (by omega))) (fun _ => ?_)
              refine lv_iload hx hb dX0_look_72 (lv_at hl 0 rfl) ?_
              refine lv_iload_n hx hb dX0_look_74 rfl (lv_at hl 5 rfl) ?_
              refine lv_icmp_ge (tgt := 93) hx hb dX0_look_75 (by decide) (fun c_64 => ?_) (fun c_64 => ?_)
              · have hdi : d ≤ i := (nI_leI (by omega) (by omega)).mp c_64
                have hlb : lbd I A B v nr d i = lcs I A B v i nr (szo A B i) 0 (-1000000) := if_neg (by omega)
                refine lv_aload_n hx hb dX0_look_93 rfl (lv_at hl 3 rfl) ?_
                refine lv_aload_n hx hb dX0_look_94 rfl (lv_at hl 4 rfl) ?_
                refine lv_iload hx hb dX0_look_95 (lv_at hl 0 rfl) ?_
                refine vcV (As := [.ref (ad v), .int (nI i)]) (rest := []) ⟨hx, hb, hml, hown, hts⟩ (c_X1_leastCost l D K ad hap0 B v nv nr i (szo A B i) hB hv hvB (by omega) (pr_sz hw (by omega)).2.2 I G A L hw (pr_sz hw (by omega)).1 (hro.2 i hdi (by omega))) (cwV 2 hts gX0_look_X1_leastCost rfl rfl rfl (by decide +kernel) ⟨Nat.le_of_ble_eq_true rfl, Nat.le_of_ble_eq_true rfl⟩) hK hP hS (by have := (pr_o hB).1; omega) (pr_o hB).2.1 (by decide) rfl rfl rfl hl.1 (Nat.le_of_ble_eq_true rfl) (Nat.le_of_ble_eq_true rfl) (Nat.le_of_ble_eq_true rfl) dX0_look_97 (fun r65 u66 H locs hw hP hS => ?_) rfl
                obtain ⟨hr65, rfl⟩ := hw
                have hP : va_P D vwCl (VW K ad I G A L) H := hP
                subst hr65
                refine lv_istore (lv' := [(9, .int (lcs I A B v i nr (szo A B i) 0 (-1000000))), (8, .int (nI i)), (7, .int a), (0, .ref (ad J)), (1, .ref (ad B)), (2, .ref (ad v)), (3, .int (nI d)), (4, .int mt)]) hx hb dX0_look_100 hl (by decide) rfl (fun ls hl => ?_)
                refine lv_iload hx hb dX0_look_102 (lv_at hl 0 rfl) ?_
                refine lv_ldc (v := (-1000000)) hx hb hown (hts (.constant RX0 18 (-1000000)) (by decide +kernel)) dX0_look_104 ?_
                refine lv_icmp_ne (tgt := 117) hx hb dX0_look_106 (by decide) (fun c_67 => ?_) (fun c_67 => ?_)
                · refine lv_iload hx hb dX0_look_117 (lv_at hl 2 rfl) ?_
                  refine lv_iload hx hb dX0_look_119 (lv_at hl 0 rfl) ?_
                  refine lv_iadd hx hb dX0_look_121 ?_
                  refine lv_istore (lv' := [(7, .int (a + (lcs I A B v i nr (szo A B i) 0 (-1000000)))), (9, .int (lcs I A B v i nr (szo A B i) 0 (-1000000))), (8, .int (nI i)), (0, .ref (ad J)), (1, .ref (ad B)), (2, .ref (ad v)), (3, .int (nI d)), (4, .int mt)]) hx hb dX0_look_122 hl (by decide) rfl (fun ls hl => ?_)
                  refine lv_iinc (v := (nI (i + 1))) (lv' := [(8, .int (nI (i + 1))), (7, .int (a + (lcs I A B v i nr (szo A B i) 0 (-1000000)))), (9, .int (lcs I A B v i nr (szo A B i) 0 (-1000000))), (0, .ref (ad J)), (1, .ref (ad B)), (2, .ref (ad v)), (3, .int (nI d)), (4, .int mt)]) hx hb dX0_look_124 hl (k := 2) rfl (nI_1 i) (by decide) rfl (fun ls hl => ?_)
                  refine lv_goto (tgt := 63) hx hb dX0_look_127 (by decide) ?_
                  exact ih58 (i + 1) (a + (lcs I A B v i nr (szo A B i) 0 (-1000000))) (by omega) (by rw [← hinv58]; simp [bnd, hlb, c_67]) H locs hP hS ls (lv_sub hl [0, 1, 3, 4, 5, 6, 7] rfl)
                · refine lv_aload_n hx hb dX0_look_109 rfl (lv_at hl 3 rfl) ?_
                  refine lv_iconst (v := 3) hx hb dX0_look_110 (by decide) ?_
                  refine lv_iload hx hb dX0_look_111 (lv_at hl 1 rfl) ?_
                  refine vcVv (As := [.int 3, .int (nI i)]) (rest := []) ⟨hx, hb, hml, hown, hts⟩ (c_X0_close l D K ad hap0 J 3 (nI i) hJ I G A L) (cwV 2 hts gX0_look_X0_close rfl rfl rfl (by decide +kernel) ⟨Nat.le_of_ble_eq_true rfl, Nat.le_of_ble_eq_true rfl⟩) hK hP hS hJ.2.1 hJ.2.2 (by decide) rfl rfl rfl hl.1 (Nat.le_of_ble_eq_true rfl) (Nat.le_of_ble_eq_true rfl) (Nat.le_of_ble_eq_true rfl) dX0_look_113 (fun u69 H locs hw hP hS => ?_) rfl
                  obtain ⟨I70, G71, A72, L73⟩ := u69
                  have hP : va_P D vwCl (VW K ad I70 G71 A72 L73) H := hP
                  exact W.vret hx hb hr (fun t ht hW => ⟨⟨(I70, G71, A72, L73), rfl, hw.trans (by rw [show lk I A B v nv nr d mt = (3, (nI i), -1000000) from by rw [← hinv58]; simp [bnd, hlb, c_67]]), by rw [ht]; exact hP, va_K.moved hW.alike hK⟩, hS.F ht⟩) hS.2.2 dX0_look_116
              · have hdi : i < d := by { rcases Nat.lt_or_ge i d with h | h; exact h; exact absurd (nI_le h (by omega)) c_64 }
                have hlb : lbd I A B v nr d i = A (B + 4 + i) (A v i).toNatClampNeg := if_pos hdi
                have hi4 : vp_in (A v i) (ln (B + 4 + i)) := by rw [(pr_row (x := i) hB (by omega)).2]; exact in_le (hro.1 i hdi) (pr_sz hw (by omega)).2.2
                refine lv_aload_n hx hb dX0_look_78 rfl (lv_at hl 3 rfl) ?_
                refine vgS hx hb hts hi1 hown hK hP (B) (by have := (pr_o hB).1; omega) (pr_o hB).2.1 (C := RX1) (T := TX1) (N := 9) rfl 6 (by decide) (by decide) (by decide) (by decide) (B + 3) rfl (hts (.fieldLink RX0 39 "CrateHelpers$Problem" "prices" "[[I") (by decide +kernel)) (fun _ h9 => h9) dX0_look_79 ?_
                refine lv_iload hx hb dX0_look_82 (lv_at hl 0 rfl) ?_
                refine xgald hx hb hK hP (B + 3) (by have := (pr_o hB).1; omega) (pr_o hB).2.2.2.2.1 hi3 (B + 4 + i) (by rw [rf15 (pr_o hB).2.2.2.2.1]; rw [nI_clamp (by omega)]) dX0_look_84 ?_
                refine lv_aload_n hx hb dX0_look_85 rfl (lv_at hl 4 rfl) ?_
                refine lv_iload hx hb dX0_look_86 (lv_at hl 0 rfl) ?_
                refine xiald hx hb hK hP (v) hv.1 hv.2.1 hiv dX0_look_88 ?_
                rw [nI_clamp (n := i) (by omega)]
                refine xiald hx hb hK hP (B + 4 + i) (by have := (pr_o hB).1; omega) (pr_row (x := i) hB (by omega)).1 hi4 dX0_look_89 ?_
                refine lv_goto (tgt := 100) hx hb dX0_look_90 (by decide) ?_
                refine lv_istore (lv' := [(9, .int (A (B + 4 + i) ((A v i).toNatClampNeg))), (8, .int (nI i)), (7, .int a), (0, .ref (ad J)), (1, .ref (ad B)), (2, .ref (ad v)), (3, .int (nI d)), (4, .int mt)]) hx hb dX0_look_100 hl (by decide) rfl (fun ls hl => ?_)
                refine lv_iload hx hb dX0_look_102 (lv_at hl 0 rfl) ?_
                refine lv_ldc (v := (-1000000)) hx hb hown (hts (.constant RX0 18 (-1000000)) (by decide +kernel)) dX0_look_104 ?_
                refine lv_icmp_ne (tgt := 117) hx hb dX0_look_106 (by decide) (fun c_74 => ?_) (fun c_74 => ?_)
                · refine lv_iload hx hb dX0_look_117 (lv_at hl 2 rfl) ?_
                  refine lv_iload hx hb dX0_look_119 (lv_at hl 0 rfl) ?_
                  refine lv_iadd hx hb dX0_look_121 ?_
                  refine lv_istore (lv' := [(7, .int (a + (A (B + 4 + i) ((A v i).toNatClampNeg)))), (9, .int (A (B + 4 + i) ((A v i).toNatClampNeg))), (8, .int (nI i)), (0, .ref (ad J)), (1, .ref (ad B)), (2, .ref (ad v)), (3, .int (nI d)), (4, .int mt)]) hx hb dX0_look_122 hl (by decide) rfl (fun ls hl => ?_)
                  refine lv_iinc (v := (nI (i + 1))) (lv' := [(8, .int (nI (i + 1))), (7, .int (a + (A (B + 4 + i) ((A v i).toNatClampNeg)))), (9, .int (A (B + 4 + i) ((A v i).toNatClampNeg))), (0, .ref (ad J)), (1, .ref (ad B)), (2, .ref (ad v)), (3, .int (nI d)), (4, .int mt)]) hx hb dX0_look_124 hl (k := 2) rfl (nI_1 i) (by decide) rfl (fun ls hl => ?_)
                  refine lv_goto (tgt := 63) hx hb dX0_look_127 (by decide) ?_
                  exact ih58 (i + 1) (a + (A (B + 4 + i) ((A v i).toNatClampNeg))) (by omega) (by rw [← hinv58]; simp [bnd, hlb, c_74]) H locs hP hS ls (lv_sub hl [0, 1, 3, 4, 5, 6, 7] rfl)
                · refine lv_aload_n hx hb dX0_look_109 rfl (lv_at hl 3 rfl) ?_
                  refine lv_iconst (v := 3) hx hb dX0_look_110 (by decide) ?_
                  refine lv_iload hx hb dX0_look_111 (lv_at hl 1 rfl) ?_
                  refine vcVv (As := [.int 3, .int (nI i)]) (rest := []) ⟨hx, hb, hml, hown, hts⟩ (c_X0_close l D K ad hap0 J 3 (nI i) hJ I G A L) (cwV 2 hts gX0_look_X0_close rfl rfl rfl (by decide +kernel) ⟨Nat.le_of_ble_eq_true rfl, Nat.le_of_ble_eq_true rfl⟩) hK hP hS hJ.2.1 hJ.2.2 (by decide) rfl rfl rfl hl.1 (Nat.le_of_ble_eq_true rfl) (Nat.le_of_ble_eq_true rfl) (Nat.le_of_ble_eq_true rfl) dX0_look_113 (fun u76 H locs hw hP hS => ?_) rfl
                  obtain ⟨I77, G78, A79, L80⟩ := u76
                  have hP : va_P D vwCl (VW K ad I77 G78 A79 L80) H := hP
                  exact W.vret hx hb hr (fun t ht hW => ⟨⟨(I77, G78, A79, L80), rfl, hw.trans (by rw [show lk I A B v nv nr d mt = (3, (nI i), -1000000) from by rw [← hinv58]; simp [bnd, hlb, c_74]]), by rw [ht]; exact hP, va_K.moved hW.alike hK⟩, hS.F ht⟩) hS.2.2 dX0_look_116
          exact lp58 (nv) 0 0 (by omega) (by simp [lk, c_3, c_4, c_57, hd0]) _ _ hP hS ls (lv_sub hl [0, 1, 4, 5, 6, 7, 8] rfl)
        · refine lv_aload_n hx hb dX0_look_49 rfl (lv_at hl 2 rfl) ?_
          refine lv_iconst (v := 2) hx hb dX0_look_50 (by decide) ?_
          refine lv_iload hx hb dX0_look_51 (lv_at hl 0 rfl) ?_
          refine vcVv (As := [.int 2, .int (ftw I A B v nr (d - 1))]) (rest := []) ⟨hx, hb, hml, hown, hts⟩ (c_X0_close l D K ad hap0 J 2 (ftw I A B v nr (d - 1)) hJ I G A L) (cwV 2 hts gX0_look_X0_close rfl rfl rfl (by decide +kernel) ⟨Nat.le_of_ble_eq_true rfl, Nat.le_of_ble_eq_true rfl⟩) hK hP hS hJ.2.1 hJ.2.2 (by decide) rfl rfl rfl hl.1 (Nat.le_of_ble_eq_true rfl) (Nat.le_of_ble_eq_true rfl) (Nat.le_of_ble_eq_true rfl) dX0_look_53 (fun u82 H locs hw hP hS => ?_) rfl
          obtain ⟨I83, G84, A85, L86⟩ := u82
          have hP : va_P D vwCl (VW K ad I83 G84 A85 L86) H := hP
          exact W.vret hx hb hr (fun t ht hW => ⟨⟨(I83, G84, A85, L86), rfl, hw.trans (by rw [show lk I A B v nv nr d mt = (2, (ftw I A B v nr (d - 1)), -1000000) from by simp [lk, c_3, c_4, c_57, hd0]]), by rw [ht]; exact hP, va_K.moved hW.alike hK⟩, hS.F ht⟩) hS.2.2 dX0_look_56
  · refine lv_aload_n hx hb dX0_look_14 rfl (lv_at hl 1 rfl) ?_
    refine lv_iconst (v := 1) hx hb dX0_look_15 (by decide) ?_
    refine lv_iload hx hb dX0_look_16 (lv_at hl 0 rfl) ?_
    refine vcVv (As := [.int 1, .int (fbk I A B v nr)]) (rest := []) ⟨hx, hb, hml, hown, hts⟩ (c_X0_close l D K ad hap0 J 1 (fbk I A B v nr) hJ I G A L) (cwV 2 hts gX0_look_X0_close rfl rfl rfl (by decide +kernel) ⟨Nat.le_of_ble_eq_true rfl, Nat.le_of_ble_eq_true rfl⟩) hK hP hS hJ.2.1 hJ.2.2 (by decide) rfl rfl rfl hl.1 (Nat.le_of_ble_eq_true rfl) (Nat.le_of_ble_eq_true rfl) (Nat.le_of_ble_eq_true rfl) dX0_look_18 (fun u88 H locs hw hP hS => ?_) rfl
    obtain ⟨I89, G90, A91, L92⟩ := u88
    have hP : va_P D vwCl (VW K ad I89 G90 A91 L92) H := hP
    exact W.vret hx hb hr (fun t ht hW => ⟨⟨(I89, G90, A91, L92), rfl, hw.trans (by rw [show lk I A B v nv nr d mt = (1, (fbk I A B v nr), -1000000) from by simp [lk, c_3]]), by rw [ht]; exact hP, va_K.moved hW.alike hK⟩, hS.F ht⟩) hS.2.2 dX0_look_21
