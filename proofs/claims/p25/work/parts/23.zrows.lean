theorem dX1_hasVariable_0 : decode cX1_hasVariable 0 = .ok (.iload_n 1, 1) := by decide +kernel
theorem dX1_hasVariable_1 : decode cX1_hasVariable 1 = .ok (.ifCond .lt 15, 3) := by decide +kernel
theorem dX1_hasVariable_4 : decode cX1_hasVariable 4 = .ok (.iload_n 1, 1) := by decide +kernel
theorem dX1_hasVariable_5 : decode cX1_hasVariable 5 = .ok (.aload_n 0, 1) := by decide +kernel
theorem dX1_hasVariable_6 : decode cX1_hasVariable 6 = .ok (.getfield 9, 3) := by decide +kernel
theorem dX1_hasVariable_9 : decode cX1_hasVariable 9 = .ok (.if_icmp .ge 7, 3) := by decide +kernel
theorem dX1_hasVariable_12 : decode cX1_hasVariable 12 = .ok (.iconst 1, 1) := by decide +kernel
theorem dX1_hasVariable_13 : decode cX1_hasVariable 13 = .ok (.goto 4, 3) := by decide +kernel
theorem dX1_hasVariable_16 : decode cX1_hasVariable 16 = .ok (.iconst 0, 1) := by decide +kernel
theorem dX1_hasVariable_17 : decode cX1_hasVariable 17 = .ok (.ireturn, 1) := by decide +kernel
set_option maxRecDepth 20000 in
theorem ggX1_hasValue_X1_hasVariable : GoodIn wsX1_hasValue wsX1_hasVariable := goodIn_g _ [(6, 11)] rfl (by decide +kernel)
set_option maxRecDepth 20000 in
theorem gX1_hasValue_X1_hasVariable : GoodIn wsX1_hasValue (wsV RX1 47 RX1 yX1_hasVariable wsX1_hasVariable) := goodIn_app (goodIn_of _ (by decide +kernel)) ggX1_hasValue_X1_hasVariable
theorem dX1_hasValue_0 : decode cX1_hasValue 0 = .ok (.aload_n 0, 1) := by decide +kernel
theorem dX1_hasValue_1 : decode cX1_hasValue 1 = .ok (.iload_n 1, 1) := by decide +kernel
theorem dX1_hasValue_2 : decode cX1_hasValue 2 = .ok (.invokevirtual 47, 3) := by decide +kernel
theorem dX1_hasValue_5 : decode cX1_hasValue 5 = .ok (.ifCond .eq 21, 3) := by decide +kernel
theorem dX1_hasValue_8 : decode cX1_hasValue 8 = .ok (.iload_n 2, 1) := by decide +kernel
theorem dX1_hasValue_9 : decode cX1_hasValue 9 = .ok (.ifCond .lt 17, 3) := by decide +kernel
theorem dX1_hasValue_12 : decode cX1_hasValue 12 = .ok (.iload_n 2, 1) := by decide +kernel
theorem dX1_hasValue_13 : decode cX1_hasValue 13 = .ok (.aload_n 0, 1) := by decide +kernel
theorem dX1_hasValue_14 : decode cX1_hasValue 14 = .ok (.getfield 25, 3) := by decide +kernel
theorem dX1_hasValue_17 : decode cX1_hasValue 17 = .ok (.iload_n 1, 1) := by decide +kernel
theorem dX1_hasValue_18 : decode cX1_hasValue 18 = .ok (.iaload, 1) := by decide +kernel
theorem dX1_hasValue_19 : decode cX1_hasValue 19 = .ok (.if_icmp .ge 7, 3) := by decide +kernel
theorem dX1_hasValue_22 : decode cX1_hasValue 22 = .ok (.iconst 1, 1) := by decide +kernel
theorem dX1_hasValue_23 : decode cX1_hasValue 23 = .ok (.goto 4, 3) := by decide +kernel
theorem dX1_hasValue_26 : decode cX1_hasValue 26 = .ok (.iconst 0, 1) := by decide +kernel
theorem dX1_hasValue_27 : decode cX1_hasValue 27 = .ok (.ireturn, 1) := by decide +kernel
theorem dX1_hasRule_0 : decode cX1_hasRule 0 = .ok (.iload_n 1, 1) := by decide +kernel
theorem dX1_hasRule_1 : decode cX1_hasRule 1 = .ok (.ifCond .lt 15, 3) := by decide +kernel
theorem dX1_hasRule_4 : decode cX1_hasRule 4 = .ok (.iload_n 1, 1) := by decide +kernel
theorem dX1_hasRule_5 : decode cX1_hasRule 5 = .ok (.aload_n 0, 1) := by decide +kernel
theorem dX1_hasRule_6 : decode cX1_hasRule 6 = .ok (.getfield 15, 3) := by decide +kernel
theorem dX1_hasRule_9 : decode cX1_hasRule 9 = .ok (.if_icmp .ge 7, 3) := by decide +kernel
theorem dX1_hasRule_12 : decode cX1_hasRule 12 = .ok (.iconst 1, 1) := by decide +kernel
theorem dX1_hasRule_13 : decode cX1_hasRule 13 = .ok (.goto 4, 3) := by decide +kernel
theorem dX1_hasRule_16 : decode cX1_hasRule 16 = .ok (.iconst 0, 1) := by decide +kernel
theorem dX1_hasRule_17 : decode cX1_hasRule 17 = .ok (.ireturn, 1) := by decide +kernel
theorem dX1_change_0 : decode cX1_change 0 = .ok (.aload_n 0, 1) := by decide +kernel
theorem dX1_change_1 : decode cX1_change 1 = .ok (.dup, 1) := by decide +kernel
theorem dX1_change_2 : decode cX1_change 2 = .ok (.getfield 18, 3) := by decide +kernel
theorem dX1_change_5 : decode cX1_change 5 = .ok (.iconst 1, 1) := by decide +kernel
theorem dX1_change_6 : decode cX1_change 6 = .ok (.iadd, 1) := by decide +kernel
theorem dX1_change_7 : decode cX1_change 7 = .ok (.putfield 18, 3) := by decide +kernel
theorem dX1_change_10 : decode cX1_change 10 = .ok (.aload_n 0, 1) := by decide +kernel
theorem dX1_change_11 : decode cX1_change 11 = .ok (.iconst 0, 1) := by decide +kernel
theorem dX1_change_12 : decode cX1_change 12 = .ok (.putfield 21, 3) := by decide +kernel
theorem dX1_change_15 : decode cX1_change 15 = .ok (.return_, 1) := by decide +kernel
set_option maxRecDepth 20000 in
theorem ggX1_addVariable_X1_change : GoodIn wsX1_addVariable wsX1_change := goodIn_g _ [(8, 12)] rfl (by decide +kernel)
set_option maxRecDepth 20000 in
theorem gX1_addVariable_X1_change : GoodIn wsX1_addVariable (wsV RX1 51 RX1 yX1_change wsX1_change) := goodIn_app (goodIn_of _ (by decide +kernel)) ggX1_addVariable_X1_change
theorem dX1_addVariable_0 : decode cX1_addVariable 0 = .ok (.aload_n 0, 1) := by decide +kernel
theorem dX1_addVariable_1 : decode cX1_addVariable 1 = .ok (.invokevirtual 51, 3) := by decide +kernel
theorem dX1_addVariable_4 : decode cX1_addVariable 4 = .ok (.aload_n 0, 1) := by decide +kernel
theorem dX1_addVariable_5 : decode cX1_addVariable 5 = .ok (.getfield 25, 3) := by decide +kernel
theorem dX1_addVariable_8 : decode cX1_addVariable 8 = .ok (.aload_n 0, 1) := by decide +kernel
theorem dX1_addVariable_9 : decode cX1_addVariable 9 = .ok (.getfield 9, 3) := by decide +kernel
theorem dX1_addVariable_12 : decode cX1_addVariable 12 = .ok (.iload_n 1, 1) := by decide +kernel
theorem dX1_addVariable_13 : decode cX1_addVariable 13 = .ok (.iastore, 1) := by decide +kernel
theorem dX1_addVariable_14 : decode cX1_addVariable 14 = .ok (.aload_n 0, 1) := by decide +kernel
theorem dX1_addVariable_15 : decode cX1_addVariable 15 = .ok (.getfield 29, 3) := by decide +kernel
theorem dX1_addVariable_18 : decode cX1_addVariable 18 = .ok (.aload_n 0, 1) := by decide +kernel
theorem dX1_addVariable_19 : decode cX1_addVariable 19 = .ok (.getfield 9, 3) := by decide +kernel
theorem dX1_addVariable_22 : decode cX1_addVariable 22 = .ok (.iload_n 2, 1) := by decide +kernel
theorem dX1_addVariable_23 : decode cX1_addVariable 23 = .ok (.iastore, 1) := by decide +kernel
theorem dX1_addVariable_24 : decode cX1_addVariable 24 = .ok (.aload_n 0, 1) := by decide +kernel
theorem dX1_addVariable_25 : decode cX1_addVariable 25 = .ok (.dup, 1) := by decide +kernel
theorem dX1_addVariable_26 : decode cX1_addVariable 26 = .ok (.getfield 9, 3) := by decide +kernel
theorem dX1_addVariable_29 : decode cX1_addVariable 29 = .ok (.dup_x1, 1) := by decide +kernel
theorem dX1_addVariable_30 : decode cX1_addVariable 30 = .ok (.iconst 1, 1) := by decide +kernel
theorem dX1_addVariable_31 : decode cX1_addVariable 31 = .ok (.iadd, 1) := by decide +kernel
theorem dX1_addVariable_32 : decode cX1_addVariable 32 = .ok (.putfield 9, 3) := by decide +kernel
theorem dX1_addVariable_35 : decode cX1_addVariable 35 = .ok (.ireturn, 1) := by decide +kernel
set_option maxRecDepth 20000 in
theorem ggX1_setCost_X1_change : GoodIn wsX1_setCost wsX1_change := goodIn_g _ [(7, 12)] rfl (by decide +kernel)
set_option maxRecDepth 20000 in
theorem gX1_setCost_X1_change : GoodIn wsX1_setCost (wsV RX1 51 RX1 yX1_change wsX1_change) := goodIn_app (goodIn_of _ (by decide +kernel)) ggX1_setCost_X1_change
theorem dX1_setCost_0 : decode cX1_setCost 0 = .ok (.aload_n 0, 1) := by decide +kernel
theorem dX1_setCost_1 : decode cX1_setCost 1 = .ok (.invokevirtual 51, 3) := by decide +kernel
theorem dX1_setCost_4 : decode cX1_setCost 4 = .ok (.iload_n 3, 1) := by decide +kernel
theorem dX1_setCost_5 : decode cX1_setCost 5 = .ok (.istore 4, 2) := by decide +kernel
theorem dX1_setCost_7 : decode cX1_setCost 7 = .ok (.aload_n 0, 1) := by decide +kernel
theorem dX1_setCost_8 : decode cX1_setCost 8 = .ok (.getfield 29, 3) := by decide +kernel
theorem dX1_setCost_11 : decode cX1_setCost 11 = .ok (.iload_n 1, 1) := by decide +kernel
theorem dX1_setCost_12 : decode cX1_setCost 12 = .ok (.iaload, 1) := by decide +kernel
theorem dX1_setCost_13 : decode cX1_setCost 13 = .ok (.tableswitch 48 0 2 #[27, 34, 41], 27) := by decide +kernel
theorem dX1_setCost_40 : decode cX1_setCost 40 = .ok (.iload_n 3, 1) := by decide +kernel
theorem dX1_setCost_41 : decode cX1_setCost 41 = .ok (.i2b, 1) := by decide +kernel
theorem dX1_setCost_42 : decode cX1_setCost 42 = .ok (.istore 4, 2) := by decide +kernel
theorem dX1_setCost_44 : decode cX1_setCost 44 = .ok (.goto 17, 3) := by decide +kernel
theorem dX1_setCost_47 : decode cX1_setCost 47 = .ok (.iload_n 3, 1) := by decide +kernel
theorem dX1_setCost_48 : decode cX1_setCost 48 = .ok (.i2s, 1) := by decide +kernel
theorem dX1_setCost_49 : decode cX1_setCost 49 = .ok (.istore 4, 2) := by decide +kernel
theorem dX1_setCost_51 : decode cX1_setCost 51 = .ok (.goto 10, 3) := by decide +kernel
theorem dX1_setCost_54 : decode cX1_setCost 54 = .ok (.iload_n 3, 1) := by decide +kernel
theorem dX1_setCost_55 : decode cX1_setCost 55 = .ok (.i2c, 1) := by decide +kernel
theorem dX1_setCost_56 : decode cX1_setCost 56 = .ok (.istore 4, 2) := by decide +kernel
theorem dX1_setCost_58 : decode cX1_setCost 58 = .ok (.goto 3, 3) := by decide +kernel
theorem dX1_setCost_61 : decode cX1_setCost 61 = .ok (.aload_n 0, 1) := by decide +kernel
theorem dX1_setCost_62 : decode cX1_setCost 62 = .ok (.getfield 34, 3) := by decide +kernel
theorem dX1_setCost_65 : decode cX1_setCost 65 = .ok (.iload_n 1, 1) := by decide +kernel
theorem dX1_setCost_66 : decode cX1_setCost 66 = .ok (.aaload, 1) := by decide +kernel
theorem dX1_setCost_67 : decode cX1_setCost 67 = .ok (.iload_n 2, 1) := by decide +kernel
theorem dX1_setCost_68 : decode cX1_setCost 68 = .ok (.iload 4, 2) := by decide +kernel
theorem dX1_setCost_70 : decode cX1_setCost 70 = .ok (.iastore, 1) := by decide +kernel
theorem dX1_setCost_71 : decode cX1_setCost 71 = .ok (.iload 4, 2) := by decide +kernel
theorem dX1_setCost_73 : decode cX1_setCost 73 = .ok (.ireturn, 1) := by decide +kernel
set_option maxRecDepth 20000 in
theorem ggX1_addRule_X1_change : GoodIn wsX1_addRule wsX1_change := goodIn_g _ [(9, 12)] rfl (by decide +kernel)
set_option maxRecDepth 20000 in
theorem gX1_addRule_X1_change : GoodIn wsX1_addRule (wsV RX1 51 RX1 yX1_change wsX1_change) := goodIn_app (goodIn_of _ (by decide +kernel)) ggX1_addRule_X1_change
theorem dX1_addRule_0 : decode cX1_addRule 0 = .ok (.aload_n 0, 1) := by decide +kernel
theorem dX1_addRule_1 : decode cX1_addRule 1 = .ok (.invokevirtual 51, 3) := by decide +kernel
theorem dX1_addRule_4 : decode cX1_addRule 4 = .ok (.aload_n 0, 1) := by decide +kernel
theorem dX1_addRule_5 : decode cX1_addRule 5 = .ok (.getfield 39, 3) := by decide +kernel
theorem dX1_addRule_8 : decode cX1_addRule 8 = .ok (.aload_n 0, 1) := by decide +kernel
theorem dX1_addRule_9 : decode cX1_addRule 9 = .ok (.getfield 15, 3) := by decide +kernel
theorem dX1_addRule_12 : decode cX1_addRule 12 = .ok (.aaload, 1) := by decide +kernel
theorem dX1_addRule_13 : decode cX1_addRule 13 = .ok (.iload_n 1, 1) := by decide +kernel
theorem dX1_addRule_14 : decode cX1_addRule 14 = .ok (.putfield 54, 3) := by decide +kernel
theorem dX1_addRule_17 : decode cX1_addRule 17 = .ok (.aload_n 0, 1) := by decide +kernel
theorem dX1_addRule_18 : decode cX1_addRule 18 = .ok (.getfield 39, 3) := by decide +kernel
theorem dX1_addRule_21 : decode cX1_addRule 21 = .ok (.aload_n 0, 1) := by decide +kernel
theorem dX1_addRule_22 : decode cX1_addRule 22 = .ok (.getfield 15, 3) := by decide +kernel
theorem dX1_addRule_25 : decode cX1_addRule 25 = .ok (.aaload, 1) := by decide +kernel
theorem dX1_addRule_26 : decode cX1_addRule 26 = .ok (.iload_n 2, 1) := by decide +kernel
theorem dX1_addRule_27 : decode cX1_addRule 27 = .ok (.putfield 57, 3) := by decide +kernel
theorem dX1_addRule_30 : decode cX1_addRule 30 = .ok (.aload_n 0, 1) := by decide +kernel
theorem dX1_addRule_31 : decode cX1_addRule 31 = .ok (.dup, 1) := by decide +kernel
theorem dX1_addRule_32 : decode cX1_addRule 32 = .ok (.getfield 15, 3) := by decide +kernel
theorem dX1_addRule_35 : decode cX1_addRule 35 = .ok (.dup_x1, 1) := by decide +kernel
theorem dX1_addRule_36 : decode cX1_addRule 36 = .ok (.iconst 1, 1) := by decide +kernel
theorem dX1_addRule_37 : decode cX1_addRule 37 = .ok (.iadd, 1) := by decide +kernel
theorem dX1_addRule_38 : decode cX1_addRule 38 = .ok (.putfield 15, 3) := by decide +kernel
theorem dX1_addRule_41 : decode cX1_addRule 41 = .ok (.ireturn, 1) := by decide +kernel
set_option maxRecDepth 20000 in
theorem ggX1_addPart_X1_change : GoodIn wsX1_addPart wsX1_change := goodIn_g _ [(7, 3), (20, 9)] rfl (by decide +kernel)
set_option maxRecDepth 20000 in
theorem gX1_addPart_X1_change : GoodIn wsX1_addPart (wsV RX1 51 RX1 yX1_change wsX1_change) := goodIn_app (goodIn_of _ (by decide +kernel)) ggX1_addPart_X1_change
set_option maxRecDepth 20000 in
theorem ggX1_addPart_X2_add : GoodIn wsX1_addPart wsX2_add := goodIn_g _ [(14, 6), (29, 7)] rfl (by decide +kernel)
set_option maxRecDepth 20000 in
theorem gX1_addPart_X2_add : GoodIn wsX1_addPart (wsV RX1 60 RX2 yX2_add wsX2_add) := goodIn_app (goodIn_of _ (by decide +kernel)) ggX1_addPart_X2_add
theorem dX1_addPart_0 : decode cX1_addPart 0 = .ok (.aload_n 0, 1) := by decide +kernel
theorem dX1_addPart_1 : decode cX1_addPart 1 = .ok (.invokevirtual 51, 3) := by decide +kernel
theorem dX1_addPart_4 : decode cX1_addPart 4 = .ok (.aload_n 0, 1) := by decide +kernel
theorem dX1_addPart_5 : decode cX1_addPart 5 = .ok (.getfield 39, 3) := by decide +kernel
theorem dX1_addPart_8 : decode cX1_addPart 8 = .ok (.iload_n 1, 1) := by decide +kernel
theorem dX1_addPart_9 : decode cX1_addPart 9 = .ok (.aaload, 1) := by decide +kernel
theorem dX1_addPart_10 : decode cX1_addPart 10 = .ok (.iload_n 2, 1) := by decide +kernel
theorem dX1_addPart_11 : decode cX1_addPart 11 = .ok (.iload_n 3, 1) := by decide +kernel
theorem dX1_addPart_12 : decode cX1_addPart 12 = .ok (.invokevirtual 60, 3) := by decide +kernel
theorem dX1_addPart_15 : decode cX1_addPart 15 = .ok (.aload_n 0, 1) := by decide +kernel
theorem dX1_addPart_16 : decode cX1_addPart 16 = .ok (.getfield 39, 3) := by decide +kernel
theorem dX1_addPart_19 : decode cX1_addPart 19 = .ok (.iload_n 1, 1) := by decide +kernel
theorem dX1_addPart_20 : decode cX1_addPart 20 = .ok (.aaload, 1) := by decide +kernel
theorem dX1_addPart_21 : decode cX1_addPart 21 = .ok (.getfield 64, 3) := by decide +kernel
theorem dX1_addPart_24 : decode cX1_addPart 24 = .ok (.ireturn, 1) := by decide +kernel
set_option maxRecDepth 20000 in
theorem ggX1_setNumber_X1_change : GoodIn wsX1_setNumber wsX1_change := goodIn_g _ [(7, 12)] rfl (by decide +kernel)
set_option maxRecDepth 20000 in
theorem gX1_setNumber_X1_change : GoodIn wsX1_setNumber (wsV RX1 51 RX1 yX1_change wsX1_change) := goodIn_app (goodIn_of _ (by decide +kernel)) ggX1_setNumber_X1_change
theorem dX1_setNumber_0 : decode cX1_setNumber 0 = .ok (.aload_n 0, 1) := by decide +kernel
theorem dX1_setNumber_1 : decode cX1_setNumber 1 = .ok (.invokevirtual 51, 3) := by decide +kernel
theorem dX1_setNumber_4 : decode cX1_setNumber 4 = .ok (.aload_n 0, 1) := by decide +kernel
theorem dX1_setNumber_5 : decode cX1_setNumber 5 = .ok (.getfield 39, 3) := by decide +kernel
theorem dX1_setNumber_8 : decode cX1_setNumber 8 = .ok (.iload_n 1, 1) := by decide +kernel
theorem dX1_setNumber_9 : decode cX1_setNumber 9 = .ok (.aaload, 1) := by decide +kernel
theorem dX1_setNumber_10 : decode cX1_setNumber 10 = .ok (.getfield 57, 3) := by decide +kernel
theorem dX1_setNumber_13 : decode cX1_setNumber 13 = .ok (.istore_n 3, 1) := by decide +kernel
theorem dX1_setNumber_14 : decode cX1_setNumber 14 = .ok (.aload_n 0, 1) := by decide +kernel
theorem dX1_setNumber_15 : decode cX1_setNumber 15 = .ok (.getfield 39, 3) := by decide +kernel
theorem dX1_setNumber_18 : decode cX1_setNumber 18 = .ok (.iload_n 1, 1) := by decide +kernel
theorem dX1_setNumber_19 : decode cX1_setNumber 19 = .ok (.aaload, 1) := by decide +kernel
theorem dX1_setNumber_20 : decode cX1_setNumber 20 = .ok (.iload_n 2, 1) := by decide +kernel
theorem dX1_setNumber_21 : decode cX1_setNumber 21 = .ok (.putfield 57, 3) := by decide +kernel
theorem dX1_setNumber_24 : decode cX1_setNumber 24 = .ok (.iload_n 3, 1) := by decide +kernel
theorem dX1_setNumber_25 : decode cX1_setNumber 25 = .ok (.ireturn, 1) := by decide +kernel
set_option maxRecDepth 20000 in
theorem ggX1_firstBroken_X2_isBroken : GoodIn wsX1_firstBroken wsX2_isBroken := goodIn_g _ [(8, 10), (7, 1), (18, 30), (57, 7)] rfl (by decide +kernel)
set_option maxRecDepth 20000 in
theorem gX1_firstBroken_X2_isBroken : GoodIn wsX1_firstBroken (wsV RX1 67 RX2 yX2_isBroken wsX2_isBroken) := goodIn_app (goodIn_of _ (by decide +kernel)) ggX1_firstBroken_X2_isBroken
theorem dX1_firstBroken_0 : decode cX1_firstBroken 0 = .ok (.iconst 0, 1) := by decide +kernel
theorem dX1_firstBroken_1 : decode cX1_firstBroken 1 = .ok (.istore_n 2, 1) := by decide +kernel
theorem dX1_firstBroken_2 : decode cX1_firstBroken 2 = .ok (.iload_n 2, 1) := by decide +kernel
theorem dX1_firstBroken_3 : decode cX1_firstBroken 3 = .ok (.aload_n 0, 1) := by decide +kernel
theorem dX1_firstBroken_4 : decode cX1_firstBroken 4 = .ok (.getfield 15, 3) := by decide +kernel
theorem dX1_firstBroken_7 : decode cX1_firstBroken 7 = .ok (.if_icmp .ge 28, 3) := by decide +kernel
theorem dX1_firstBroken_10 : decode cX1_firstBroken 10 = .ok (.aload_n 0, 1) := by decide +kernel
theorem dX1_firstBroken_11 : decode cX1_firstBroken 11 = .ok (.getfield 39, 3) := by decide +kernel
theorem dX1_firstBroken_14 : decode cX1_firstBroken 14 = .ok (.iload_n 2, 1) := by decide +kernel
theorem dX1_firstBroken_15 : decode cX1_firstBroken 15 = .ok (.aaload, 1) := by decide +kernel
theorem dX1_firstBroken_16 : decode cX1_firstBroken 16 = .ok (.aload_n 1, 1) := by decide +kernel
theorem dX1_firstBroken_17 : decode cX1_firstBroken 17 = .ok (.aload_n 0, 1) := by decide +kernel
theorem dX1_firstBroken_18 : decode cX1_firstBroken 18 = .ok (.getfield 25, 3) := by decide +kernel
theorem dX1_firstBroken_21 : decode cX1_firstBroken 21 = .ok (.invokevirtual 67, 3) := by decide +kernel
theorem dX1_firstBroken_24 : decode cX1_firstBroken 24 = .ok (.ifCond .eq 5, 3) := by decide +kernel
theorem dX1_firstBroken_27 : decode cX1_firstBroken 27 = .ok (.iload_n 2, 1) := by decide +kernel
theorem dX1_firstBroken_28 : decode cX1_firstBroken 28 = .ok (.ireturn, 1) := by decide +kernel
theorem dX1_firstBroken_29 : decode cX1_firstBroken 29 = .ok (.iinc 2 1, 3) := by decide +kernel
theorem dX1_firstBroken_32 : decode cX1_firstBroken 32 = .ok (.goto (-30), 3) := by decide +kernel
theorem dX1_firstBroken_35 : decode cX1_firstBroken 35 = .ok (.bipush (-9), 2) := by decide +kernel
theorem dX1_firstBroken_37 : decode cX1_firstBroken 37 = .ok (.ireturn, 1) := by decide +kernel
set_option maxRecDepth 20000 in
theorem ggX1_isOut_X1_firstBroken : GoodIn wsX1_isOut wsX1_firstBroken := goodIn_g _ [(5, 64)] rfl (by decide +kernel)
set_option maxRecDepth 20000 in
theorem gX1_isOut_X1_firstBroken : GoodIn wsX1_isOut (wsV RX1 71 RX1 yX1_firstBroken wsX1_firstBroken) := goodIn_app (goodIn_of _ (by decide +kernel)) ggX1_isOut_X1_firstBroken
theorem dX1_isOut_0 : decode cX1_isOut 0 = .ok (.aload_n 1, 1) := by decide +kernel
theorem dX1_isOut_1 : decode cX1_isOut 1 = .ok (.iload_n 2, 1) := by decide +kernel
theorem dX1_isOut_2 : decode cX1_isOut 2 = .ok (.iaload, 1) := by decide +kernel
theorem dX1_isOut_3 : decode cX1_isOut 3 = .ok (.iconst (-1), 1) := by decide +kernel
theorem dX1_isOut_4 : decode cX1_isOut 4 = .ok (.if_icmp .eq 5, 3) := by decide +kernel
theorem dX1_isOut_7 : decode cX1_isOut 7 = .ok (.iconst 0, 1) := by decide +kernel
theorem dX1_isOut_8 : decode cX1_isOut 8 = .ok (.ireturn, 1) := by decide +kernel
theorem dX1_isOut_9 : decode cX1_isOut 9 = .ok (.aload_n 1, 1) := by decide +kernel
theorem dX1_isOut_10 : decode cX1_isOut 10 = .ok (.iload_n 2, 1) := by decide +kernel
theorem dX1_isOut_11 : decode cX1_isOut 11 = .ok (.iload_n 3, 1) := by decide +kernel
theorem dX1_isOut_12 : decode cX1_isOut 12 = .ok (.iastore, 1) := by decide +kernel
theorem dX1_isOut_13 : decode cX1_isOut 13 = .ok (.aload_n 0, 1) := by decide +kernel
theorem dX1_isOut_14 : decode cX1_isOut 14 = .ok (.aload_n 1, 1) := by decide +kernel
theorem dX1_isOut_15 : decode cX1_isOut 15 = .ok (.invokevirtual 71, 3) := by decide +kernel
theorem dX1_isOut_18 : decode cX1_isOut 18 = .ok (.bipush (-9), 2) := by decide +kernel
theorem dX1_isOut_20 : decode cX1_isOut 20 = .ok (.if_icmp .eq 7, 3) := by decide +kernel
theorem dX1_isOut_23 : decode cX1_isOut 23 = .ok (.iconst 1, 1) := by decide +kernel
theorem dX1_isOut_24 : decode cX1_isOut 24 = .ok (.goto 4, 3) := by decide +kernel
theorem dX1_isOut_27 : decode cX1_isOut 27 = .ok (.iconst 0, 1) := by decide +kernel
theorem dX1_isOut_28 : decode cX1_isOut 28 = .ok (.istore 4, 2) := by decide +kernel
theorem dX1_isOut_30 : decode cX1_isOut 30 = .ok (.aload_n 1, 1) := by decide +kernel
theorem dX1_isOut_31 : decode cX1_isOut 31 = .ok (.iload_n 2, 1) := by decide +kernel
theorem dX1_isOut_32 : decode cX1_isOut 32 = .ok (.iconst (-1), 1) := by decide +kernel
theorem dX1_isOut_33 : decode cX1_isOut 33 = .ok (.iastore, 1) := by decide +kernel
theorem dX1_isOut_34 : decode cX1_isOut 34 = .ok (.iload 4, 2) := by decide +kernel
theorem dX1_isOut_36 : decode cX1_isOut 36 = .ok (.ireturn, 1) := by decide +kernel
set_option maxRecDepth 20000 in
theorem ggX1_leastCost_X2_isBroken : GoodIn wsX1_leastCost wsX2_isBroken := goodIn_g _ [(11, 10), (10, 1), (21, 30), (60, 7)] rfl (by decide +kernel)
set_option maxRecDepth 20000 in
theorem gX1_leastCost_X2_isBroken : GoodIn wsX1_leastCost (wsV RX1 67 RX2 yX2_isBroken wsX2_isBroken) := goodIn_app (goodIn_of _ (by decide +kernel)) ggX1_leastCost_X2_isBroken
theorem dX1_leastCost_0 : decode cX1_leastCost 0 = .ok (.ldc 75, 2) := by decide +kernel
theorem dX1_leastCost_2 : decode cX1_leastCost 2 = .ok (.istore_n 3, 1) := by decide +kernel
theorem dX1_leastCost_3 : decode cX1_leastCost 3 = .ok (.iconst 0, 1) := by decide +kernel
theorem dX1_leastCost_4 : decode cX1_leastCost 4 = .ok (.istore 4, 2) := by decide +kernel
theorem dX1_leastCost_6 : decode cX1_leastCost 6 = .ok (.iload 4, 2) := by decide +kernel
theorem dX1_leastCost_8 : decode cX1_leastCost 8 = .ok (.aload_n 0, 1) := by decide +kernel
theorem dX1_leastCost_9 : decode cX1_leastCost 9 = .ok (.getfield 25, 3) := by decide +kernel
theorem dX1_leastCost_12 : decode cX1_leastCost 12 = .ok (.iload_n 2, 1) := by decide +kernel
theorem dX1_leastCost_13 : decode cX1_leastCost 13 = .ok (.iaload, 1) := by decide +kernel
theorem dX1_leastCost_14 : decode cX1_leastCost 14 = .ok (.if_icmp .ge 114, 3) := by decide +kernel
theorem dX1_leastCost_17 : decode cX1_leastCost 17 = .ok (.aload_n 1, 1) := by decide +kernel
theorem dX1_leastCost_18 : decode cX1_leastCost 18 = .ok (.iload_n 2, 1) := by decide +kernel
theorem dX1_leastCost_19 : decode cX1_leastCost 19 = .ok (.iload 4, 2) := by decide +kernel
theorem dX1_leastCost_21 : decode cX1_leastCost 21 = .ok (.iastore, 1) := by decide +kernel
theorem dX1_leastCost_22 : decode cX1_leastCost 22 = .ok (.iconst 0, 1) := by decide +kernel
theorem dX1_leastCost_23 : decode cX1_leastCost 23 = .ok (.istore 5, 2) := by decide +kernel
theorem dX1_leastCost_25 : decode cX1_leastCost 25 = .ok (.iconst 0, 1) := by decide +kernel
theorem dX1_leastCost_26 : decode cX1_leastCost 26 = .ok (.istore 6, 2) := by decide +kernel
theorem dX1_leastCost_28 : decode cX1_leastCost 28 = .ok (.iload 6, 2) := by decide +kernel
theorem dX1_leastCost_30 : decode cX1_leastCost 30 = .ok (.aload_n 0, 1) := by decide +kernel
theorem dX1_leastCost_31 : decode cX1_leastCost 31 = .ok (.getfield 15, 3) := by decide +kernel
theorem dX1_leastCost_34 : decode cX1_leastCost 34 = .ok (.if_icmp .ge 54, 3) := by decide +kernel
theorem dX1_leastCost_37 : decode cX1_leastCost 37 = .ok (.iload 5, 2) := by decide +kernel
theorem dX1_leastCost_39 : decode cX1_leastCost 39 = .ok (.ifCond .ne 49, 3) := by decide +kernel
theorem dX1_leastCost_42 : decode cX1_leastCost 42 = .ok (.aload_n 0, 1) := by decide +kernel
theorem dX1_leastCost_43 : decode cX1_leastCost 43 = .ok (.getfield 39, 3) := by decide +kernel
theorem dX1_leastCost_46 : decode cX1_leastCost 46 = .ok (.iload 6, 2) := by decide +kernel
theorem dX1_leastCost_48 : decode cX1_leastCost 48 = .ok (.aaload, 1) := by decide +kernel
theorem dX1_leastCost_49 : decode cX1_leastCost 49 = .ok (.getfield 76, 3) := by decide +kernel
theorem dX1_leastCost_52 : decode cX1_leastCost 52 = .ok (.iload_n 2, 1) := by decide +kernel
theorem dX1_leastCost_53 : decode cX1_leastCost 53 = .ok (.baload, 1) := by decide +kernel
theorem dX1_leastCost_54 : decode cX1_leastCost 54 = .ok (.ifCond .eq 25, 3) := by decide +kernel
theorem dX1_leastCost_57 : decode cX1_leastCost 57 = .ok (.aload_n 0, 1) := by decide +kernel
theorem dX1_leastCost_58 : decode cX1_leastCost 58 = .ok (.getfield 39, 3) := by decide +kernel
theorem dX1_leastCost_61 : decode cX1_leastCost 61 = .ok (.iload 6, 2) := by decide +kernel
theorem dX1_leastCost_63 : decode cX1_leastCost 63 = .ok (.aaload, 1) := by decide +kernel
theorem dX1_leastCost_64 : decode cX1_leastCost 64 = .ok (.aload_n 1, 1) := by decide +kernel
theorem dX1_leastCost_65 : decode cX1_leastCost 65 = .ok (.aload_n 0, 1) := by decide +kernel
theorem dX1_leastCost_66 : decode cX1_leastCost 66 = .ok (.getfield 25, 3) := by decide +kernel
theorem dX1_leastCost_69 : decode cX1_leastCost 69 = .ok (.invokevirtual 67, 3) := by decide +kernel
theorem dX1_leastCost_72 : decode cX1_leastCost 72 = .ok (.ifCond .eq 7, 3) := by decide +kernel
theorem dX1_leastCost_75 : decode cX1_leastCost 75 = .ok (.iconst 1, 1) := by decide +kernel
theorem dX1_leastCost_76 : decode cX1_leastCost 76 = .ok (.goto 4, 3) := by decide +kernel
theorem dX1_leastCost_79 : decode cX1_leastCost 79 = .ok (.iconst 0, 1) := by decide +kernel
theorem dX1_leastCost_80 : decode cX1_leastCost 80 = .ok (.istore 5, 2) := by decide +kernel
theorem dX1_leastCost_82 : decode cX1_leastCost 82 = .ok (.iinc 6 1, 3) := by decide +kernel
theorem dX1_leastCost_85 : decode cX1_leastCost 85 = .ok (.goto (-57), 3) := by decide +kernel
theorem dX1_leastCost_88 : decode cX1_leastCost 88 = .ok (.iload 5, 2) := by decide +kernel
theorem dX1_leastCost_90 : decode cX1_leastCost 90 = .ok (.ifCond .ne 32, 3) := by decide +kernel
theorem dX1_leastCost_93 : decode cX1_leastCost 93 = .ok (.iload_n 3, 1) := by decide +kernel
theorem dX1_leastCost_94 : decode cX1_leastCost 94 = .ok (.ldc 75, 2) := by decide +kernel
theorem dX1_leastCost_96 : decode cX1_leastCost 96 = .ok (.if_icmp .eq 16, 3) := by decide +kernel
theorem dX1_leastCost_99 : decode cX1_leastCost 99 = .ok (.aload_n 0, 1) := by decide +kernel
theorem dX1_leastCost_100 : decode cX1_leastCost 100 = .ok (.getfield 34, 3) := by decide +kernel
theorem dX1_leastCost_103 : decode cX1_leastCost 103 = .ok (.iload_n 2, 1) := by decide +kernel
theorem dX1_leastCost_104 : decode cX1_leastCost 104 = .ok (.aaload, 1) := by decide +kernel
theorem dX1_leastCost_105 : decode cX1_leastCost 105 = .ok (.iload 4, 2) := by decide +kernel
theorem dX1_leastCost_107 : decode cX1_leastCost 107 = .ok (.iaload, 1) := by decide +kernel
theorem dX1_leastCost_108 : decode cX1_leastCost 108 = .ok (.iload_n 3, 1) := by decide +kernel
theorem dX1_leastCost_109 : decode cX1_leastCost 109 = .ok (.if_icmp .ge 13, 3) := by decide +kernel
theorem dX1_leastCost_112 : decode cX1_leastCost 112 = .ok (.aload_n 0, 1) := by decide +kernel
theorem dX1_leastCost_113 : decode cX1_leastCost 113 = .ok (.getfield 34, 3) := by decide +kernel
theorem dX1_leastCost_116 : decode cX1_leastCost 116 = .ok (.iload_n 2, 1) := by decide +kernel
theorem dX1_leastCost_117 : decode cX1_leastCost 117 = .ok (.aaload, 1) := by decide +kernel
theorem dX1_leastCost_118 : decode cX1_leastCost 118 = .ok (.iload 4, 2) := by decide +kernel
theorem dX1_leastCost_120 : decode cX1_leastCost 120 = .ok (.iaload, 1) := by decide +kernel
theorem dX1_leastCost_121 : decode cX1_leastCost 121 = .ok (.istore_n 3, 1) := by decide +kernel
theorem dX1_leastCost_122 : decode cX1_leastCost 122 = .ok (.iinc 4 1, 3) := by decide +kernel
theorem dX1_leastCost_125 : decode cX1_leastCost 125 = .ok (.goto (-119), 3) := by decide +kernel
theorem dX1_leastCost_128 : decode cX1_leastCost 128 = .ok (.aload_n 1, 1) := by decide +kernel
theorem dX1_leastCost_129 : decode cX1_leastCost 129 = .ok (.iload_n 2, 1) := by decide +kernel
theorem dX1_leastCost_130 : decode cX1_leastCost 130 = .ok (.iconst (-1), 1) := by decide +kernel
theorem dX1_leastCost_131 : decode cX1_leastCost 131 = .ok (.iastore, 1) := by decide +kernel
theorem dX1_leastCost_132 : decode cX1_leastCost 132 = .ok (.iload_n 3, 1) := by decide +kernel
theorem dX1_leastCost_133 : decode cX1_leastCost 133 = .ok (.ireturn, 1) := by decide +kernel
set_option maxRecDepth 20000 in
theorem ggX1_firstTwin_X1_areTwins : GoodIn wsX1_firstTwin wsX1_areTwins := goodIn_g _ [(5, 29)] rfl (by decide +kernel)
set_option maxRecDepth 20000 in
theorem gX1_firstTwin_X1_areTwins : GoodIn wsX1_firstTwin (wsV RX1 80 RX1 yX1_areTwins wsX1_areTwins) := goodIn_app (goodIn_of _ (by decide +kernel)) ggX1_firstTwin_X1_areTwins
theorem dX1_firstTwin_0 : decode cX1_firstTwin 0 = .ok (.iconst 0, 1) := by decide +kernel
theorem dX1_firstTwin_1 : decode cX1_firstTwin 1 = .ok (.istore_n 3, 1) := by decide +kernel
theorem dX1_firstTwin_2 : decode cX1_firstTwin 2 = .ok (.iload_n 3, 1) := by decide +kernel
theorem dX1_firstTwin_3 : decode cX1_firstTwin 3 = .ok (.iload_n 2, 1) := by decide +kernel
theorem dX1_firstTwin_4 : decode cX1_firstTwin 4 = .ok (.if_icmp .ge 29, 3) := by decide +kernel
theorem dX1_firstTwin_7 : decode cX1_firstTwin 7 = .ok (.aload_n 1, 1) := by decide +kernel
theorem dX1_firstTwin_8 : decode cX1_firstTwin 8 = .ok (.iload_n 3, 1) := by decide +kernel
theorem dX1_firstTwin_9 : decode cX1_firstTwin 9 = .ok (.iaload, 1) := by decide +kernel
theorem dX1_firstTwin_10 : decode cX1_firstTwin 10 = .ok (.aload_n 1, 1) := by decide +kernel
theorem dX1_firstTwin_11 : decode cX1_firstTwin 11 = .ok (.iload_n 2, 1) := by decide +kernel
theorem dX1_firstTwin_12 : decode cX1_firstTwin 12 = .ok (.iaload, 1) := by decide +kernel
theorem dX1_firstTwin_13 : decode cX1_firstTwin 13 = .ok (.if_icmp .le 14, 3) := by decide +kernel
theorem dX1_firstTwin_16 : decode cX1_firstTwin 16 = .ok (.aload_n 0, 1) := by decide +kernel
theorem dX1_firstTwin_17 : decode cX1_firstTwin 17 = .ok (.iload_n 3, 1) := by decide +kernel
theorem dX1_firstTwin_18 : decode cX1_firstTwin 18 = .ok (.iload_n 2, 1) := by decide +kernel
theorem dX1_firstTwin_19 : decode cX1_firstTwin 19 = .ok (.invokevirtual 80, 3) := by decide +kernel
theorem dX1_firstTwin_22 : decode cX1_firstTwin 22 = .ok (.ifCond .eq 5, 3) := by decide +kernel
theorem dX1_firstTwin_25 : decode cX1_firstTwin 25 = .ok (.iload_n 3, 1) := by decide +kernel
theorem dX1_firstTwin_26 : decode cX1_firstTwin 26 = .ok (.ireturn, 1) := by decide +kernel
theorem dX1_firstTwin_27 : decode cX1_firstTwin 27 = .ok (.iinc 3 1, 3) := by decide +kernel
theorem dX1_firstTwin_30 : decode cX1_firstTwin 30 = .ok (.goto (-28), 3) := by decide +kernel
theorem dX1_firstTwin_33 : decode cX1_firstTwin 33 = .ok (.bipush (-9), 2) := by decide +kernel
theorem dX1_firstTwin_35 : decode cX1_firstTwin 35 = .ok (.ireturn, 1) := by decide +kernel
set_option maxRecDepth 20000 in
theorem ggX1_areTwins_X2_treatsAlike : GoodIn wsX1_areTwins wsX2_treatsAlike := goodIn_g _ [(9, 4), (22, 7)] rfl (by decide +kernel)
set_option maxRecDepth 20000 in
theorem gX1_areTwins_X2_treatsAlike : GoodIn wsX1_areTwins (wsV RX1 84 RX2 yX2_treatsAlike wsX2_treatsAlike) := goodIn_app (goodIn_of _ (by decide +kernel)) ggX1_areTwins_X2_treatsAlike
theorem dX1_areTwins_0 : decode cX1_areTwins 0 = .ok (.aload_n 0, 1) := by decide +kernel
theorem dX1_areTwins_1 : decode cX1_areTwins 1 = .ok (.getfield 25, 3) := by decide +kernel
theorem dX1_areTwins_4 : decode cX1_areTwins 4 = .ok (.iload_n 1, 1) := by decide +kernel
theorem dX1_areTwins_5 : decode cX1_areTwins 5 = .ok (.iaload, 1) := by decide +kernel
theorem dX1_areTwins_6 : decode cX1_areTwins 6 = .ok (.aload_n 0, 1) := by decide +kernel
theorem dX1_areTwins_7 : decode cX1_areTwins 7 = .ok (.getfield 25, 3) := by decide +kernel
theorem dX1_areTwins_10 : decode cX1_areTwins 10 = .ok (.iload_n 2, 1) := by decide +kernel
theorem dX1_areTwins_11 : decode cX1_areTwins 11 = .ok (.iaload, 1) := by decide +kernel
theorem dX1_areTwins_12 : decode cX1_areTwins 12 = .ok (.if_icmp .ne 7, 3) := by decide +kernel
theorem dX1_areTwins_15 : decode cX1_areTwins 15 = .ok (.iconst 1, 1) := by decide +kernel
theorem dX1_areTwins_16 : decode cX1_areTwins 16 = .ok (.goto 4, 3) := by decide +kernel
theorem dX1_areTwins_19 : decode cX1_areTwins 19 = .ok (.iconst 0, 1) := by decide +kernel
theorem dX1_areTwins_20 : decode cX1_areTwins 20 = .ok (.istore_n 3, 1) := by decide +kernel
theorem dX1_areTwins_21 : decode cX1_areTwins 21 = .ok (.iconst 0, 1) := by decide +kernel
theorem dX1_areTwins_22 : decode cX1_areTwins 22 = .ok (.istore 4, 2) := by decide +kernel
theorem dX1_areTwins_24 : decode cX1_areTwins 24 = .ok (.iload 4, 2) := by decide +kernel
theorem dX1_areTwins_26 : decode cX1_areTwins 26 = .ok (.aload_n 0, 1) := by decide +kernel
theorem dX1_areTwins_27 : decode cX1_areTwins 27 = .ok (.getfield 25, 3) := by decide +kernel
theorem dX1_areTwins_30 : decode cX1_areTwins 30 = .ok (.iload_n 1, 1) := by decide +kernel
theorem dX1_areTwins_31 : decode cX1_areTwins 31 = .ok (.iaload, 1) := by decide +kernel
theorem dX1_areTwins_32 : decode cX1_areTwins 32 = .ok (.if_icmp .ge 40, 3) := by decide +kernel
theorem dX1_areTwins_35 : decode cX1_areTwins 35 = .ok (.iload_n 3, 1) := by decide +kernel
theorem dX1_areTwins_36 : decode cX1_areTwins 36 = .ok (.ifCond .eq 36, 3) := by decide +kernel
theorem dX1_areTwins_39 : decode cX1_areTwins 39 = .ok (.aload_n 0, 1) := by decide +kernel
theorem dX1_areTwins_40 : decode cX1_areTwins 40 = .ok (.getfield 34, 3) := by decide +kernel
theorem dX1_areTwins_43 : decode cX1_areTwins 43 = .ok (.iload_n 1, 1) := by decide +kernel
theorem dX1_areTwins_44 : decode cX1_areTwins 44 = .ok (.aaload, 1) := by decide +kernel
theorem dX1_areTwins_45 : decode cX1_areTwins 45 = .ok (.iload 4, 2) := by decide +kernel
theorem dX1_areTwins_47 : decode cX1_areTwins 47 = .ok (.iaload, 1) := by decide +kernel
theorem dX1_areTwins_48 : decode cX1_areTwins 48 = .ok (.aload_n 0, 1) := by decide +kernel
theorem dX1_areTwins_49 : decode cX1_areTwins 49 = .ok (.getfield 34, 3) := by decide +kernel
theorem dX1_areTwins_52 : decode cX1_areTwins 52 = .ok (.iload_n 2, 1) := by decide +kernel
theorem dX1_areTwins_53 : decode cX1_areTwins 53 = .ok (.aaload, 1) := by decide +kernel
theorem dX1_areTwins_54 : decode cX1_areTwins 54 = .ok (.iload 4, 2) := by decide +kernel
theorem dX1_areTwins_56 : decode cX1_areTwins 56 = .ok (.iaload, 1) := by decide +kernel
theorem dX1_areTwins_57 : decode cX1_areTwins 57 = .ok (.if_icmp .ne 7, 3) := by decide +kernel
theorem dX1_areTwins_60 : decode cX1_areTwins 60 = .ok (.iconst 1, 1) := by decide +kernel
theorem dX1_areTwins_61 : decode cX1_areTwins 61 = .ok (.goto 4, 3) := by decide +kernel
theorem dX1_areTwins_64 : decode cX1_areTwins 64 = .ok (.iconst 0, 1) := by decide +kernel
theorem dX1_areTwins_65 : decode cX1_areTwins 65 = .ok (.istore_n 3, 1) := by decide +kernel
theorem dX1_areTwins_66 : decode cX1_areTwins 66 = .ok (.iinc 4 1, 3) := by decide +kernel
theorem dX1_areTwins_69 : decode cX1_areTwins 69 = .ok (.goto (-45), 3) := by decide +kernel
theorem dX1_areTwins_72 : decode cX1_areTwins 72 = .ok (.iconst 0, 1) := by decide +kernel
theorem dX1_areTwins_73 : decode cX1_areTwins 73 = .ok (.istore 4, 2) := by decide +kernel
theorem dX1_areTwins_75 : decode cX1_areTwins 75 = .ok (.iload 4, 2) := by decide +kernel
theorem dX1_areTwins_77 : decode cX1_areTwins 77 = .ok (.aload_n 0, 1) := by decide +kernel
theorem dX1_areTwins_78 : decode cX1_areTwins 78 = .ok (.getfield 15, 3) := by decide +kernel
theorem dX1_areTwins_81 : decode cX1_areTwins 81 = .ok (.if_icmp .ge 26, 3) := by decide +kernel
theorem dX1_areTwins_84 : decode cX1_areTwins 84 = .ok (.iload_n 3, 1) := by decide +kernel
theorem dX1_areTwins_85 : decode cX1_areTwins 85 = .ok (.ifCond .eq 22, 3) := by decide +kernel
theorem dX1_areTwins_88 : decode cX1_areTwins 88 = .ok (.aload_n 0, 1) := by decide +kernel
theorem dX1_areTwins_89 : decode cX1_areTwins 89 = .ok (.getfield 39, 3) := by decide +kernel
theorem dX1_areTwins_92 : decode cX1_areTwins 92 = .ok (.iload 4, 2) := by decide +kernel
theorem dX1_areTwins_94 : decode cX1_areTwins 94 = .ok (.aaload, 1) := by decide +kernel
theorem dX1_areTwins_95 : decode cX1_areTwins 95 = .ok (.iload_n 1, 1) := by decide +kernel
theorem dX1_areTwins_96 : decode cX1_areTwins 96 = .ok (.iload_n 2, 1) := by decide +kernel
theorem dX1_areTwins_97 : decode cX1_areTwins 97 = .ok (.invokevirtual 84, 3) := by decide +kernel
theorem dX1_areTwins_100 : decode cX1_areTwins 100 = .ok (.istore_n 3, 1) := by decide +kernel
theorem dX1_areTwins_101 : decode cX1_areTwins 101 = .ok (.iinc 4 1, 3) := by decide +kernel
theorem dX1_areTwins_104 : decode cX1_areTwins 104 = .ok (.goto (-29), 3) := by decide +kernel
theorem dX1_areTwins_107 : decode cX1_areTwins 107 = .ok (.iload_n 3, 1) := by decide +kernel
theorem dX1_areTwins_108 : decode cX1_areTwins 108 = .ok (.ireturn, 1) := by decide +kernel
