theorem dX0_init_0 : decode cX0_init 0 = .ok (.aload_n 0, 1) := by decide +kernel
theorem dX0_init_1 : decode cX0_init 1 = .ok (.invokespecial 3, 3) := by decide +kernel
theorem dX0_init_4 : decode cX0_init 4 = .ok (.aload_n 0, 1) := by decide +kernel
theorem dX0_init_5 : decode cX0_init 5 = .ok (.iload_n 1, 1) := by decide +kernel
theorem dX0_init_6 : decode cX0_init 6 = .ok (.putfield 9, 3) := by decide +kernel
theorem dX0_init_9 : decode cX0_init 9 = .ok (.aload_n 0, 1) := by decide +kernel
theorem dX0_init_10 : decode cX0_init 10 = .ok (.iload_n 2, 1) := by decide +kernel
theorem dX0_init_11 : decode cX0_init 11 = .ok (.putfield 15, 3) := by decide +kernel
theorem dX0_init_14 : decode cX0_init 14 = .ok (.aload_n 0, 1) := by decide +kernel
theorem dX0_init_15 : decode cX0_init 15 = .ok (.iload_n 3, 1) := by decide +kernel
theorem dX0_init_16 : decode cX0_init 16 = .ok (.putfield 18, 3) := by decide +kernel
theorem dX0_init_19 : decode cX0_init 19 = .ok (.aload_n 0, 1) := by decide +kernel
theorem dX0_init_20 : decode cX0_init 20 = .ok (.iload 4, 2) := by decide +kernel
theorem dX0_init_22 : decode cX0_init 22 = .ok (.putfield 21, 3) := by decide +kernel
theorem dX0_init_25 : decode cX0_init 25 = .ok (.aload_n 0, 1) := by decide +kernel
theorem dX0_init_26 : decode cX0_init 26 = .ok (.iload 5, 2) := by decide +kernel
theorem dX0_init_28 : decode cX0_init 28 = .ok (.putfield 24, 3) := by decide +kernel
theorem dX0_init_31 : decode cX0_init 31 = .ok (.aload_n 0, 1) := by decide +kernel
theorem dX0_init_32 : decode cX0_init 32 = .ok (.iload 6, 2) := by decide +kernel
theorem dX0_init_34 : decode cX0_init 34 = .ok (.putfield 27, 3) := by decide +kernel
theorem dX0_init_37 : decode cX0_init 37 = .ok (.aload_n 0, 1) := by decide +kernel
theorem dX0_init_38 : decode cX0_init 38 = .ok (.iconst 1, 1) := by decide +kernel
theorem dX0_init_39 : decode cX0_init 39 = .ok (.putfield 30, 3) := by decide +kernel
theorem dX0_init_42 : decode cX0_init 42 = .ok (.return_, 1) := by decide +kernel
set_option maxRecDepth 20000 in
theorem ggX0_appliesTo_X0_hasBit : GoodIn wsX0_appliesTo wsX0_hasBit := goodIn_r _ [8] (by decide +kernel) (by decide +kernel)
set_option maxRecDepth 20000 in
theorem gX0_appliesTo_X0_hasBit : GoodIn wsX0_appliesTo (va_wsS RX0 34 yX0_hasBit wsX0_hasBit) := goodIn_app (goodIn_of _ (by decide +kernel)) ggX0_appliesTo_X0_hasBit
set_option maxRecDepth 20000 in
theorem ggX0_appliesTo_X0_isForDay : GoodIn wsX0_appliesTo wsX0_isForDay := goodIn_r _ [12, 13, 5, 6, 7, 8, 14, 15, 16, 17, 18, 19, 20] (by decide +kernel) (by decide +kernel)
set_option maxRecDepth 20000 in
theorem gX0_appliesTo_X0_isForDay : GoodIn wsX0_appliesTo (wsV RX0 38 RX0 yX0_isForDay wsX0_isForDay) := goodIn_app (goodIn_of _ (by decide +kernel)) ggX0_appliesTo_X0_isForDay
theorem dX0_appliesTo_0 : decode cX0_appliesTo 0 = .ok (.aload_n 0, 1) := by decide +kernel
theorem dX0_appliesTo_1 : decode cX0_appliesTo 1 = .ok (.getfield 30, 3) := by decide +kernel
theorem dX0_appliesTo_4 : decode cX0_appliesTo 4 = .ok (.ifCond .eq 44, 3) := by decide +kernel
theorem dX0_appliesTo_7 : decode cX0_appliesTo 7 = .ok (.aload_n 0, 1) := by decide +kernel
theorem dX0_appliesTo_8 : decode cX0_appliesTo 8 = .ok (.getfield 24, 3) := by decide +kernel
theorem dX0_appliesTo_11 : decode cX0_appliesTo 11 = .ok (.iload_n 1, 1) := by decide +kernel
theorem dX0_appliesTo_12 : decode cX0_appliesTo 12 = .ok (.invokestatic 34, 3) := by decide +kernel
theorem dX0_appliesTo_15 : decode cX0_appliesTo 15 = .ok (.ifCond .eq 33, 3) := by decide +kernel
theorem dX0_appliesTo_18 : decode cX0_appliesTo 18 = .ok (.iload_n 3, 1) := by decide +kernel
theorem dX0_appliesTo_19 : decode cX0_appliesTo 19 = .ok (.aload_n 0, 1) := by decide +kernel
theorem dX0_appliesTo_20 : decode cX0_appliesTo 20 = .ok (.getfield 18, 3) := by decide +kernel
theorem dX0_appliesTo_23 : decode cX0_appliesTo 23 = .ok (.if_icmp .lt 25, 3) := by decide +kernel
theorem dX0_appliesTo_26 : decode cX0_appliesTo 26 = .ok (.iload_n 3, 1) := by decide +kernel
theorem dX0_appliesTo_27 : decode cX0_appliesTo 27 = .ok (.aload_n 0, 1) := by decide +kernel
theorem dX0_appliesTo_28 : decode cX0_appliesTo 28 = .ok (.getfield 21, 3) := by decide +kernel
theorem dX0_appliesTo_31 : decode cX0_appliesTo 31 = .ok (.if_icmp .ge 17, 3) := by decide +kernel
theorem dX0_appliesTo_34 : decode cX0_appliesTo 34 = .ok (.aload_n 0, 1) := by decide +kernel
theorem dX0_appliesTo_35 : decode cX0_appliesTo 35 = .ok (.iload_n 2, 1) := by decide +kernel
theorem dX0_appliesTo_36 : decode cX0_appliesTo 36 = .ok (.iload 4, 2) := by decide +kernel
theorem dX0_appliesTo_38 : decode cX0_appliesTo 38 = .ok (.invokevirtual 38, 3) := by decide +kernel
theorem dX0_appliesTo_41 : decode cX0_appliesTo 41 = .ok (.ifCond .eq 7, 3) := by decide +kernel
theorem dX0_appliesTo_44 : decode cX0_appliesTo 44 = .ok (.iconst 1, 1) := by decide +kernel
theorem dX0_appliesTo_45 : decode cX0_appliesTo 45 = .ok (.goto 4, 3) := by decide +kernel
theorem dX0_appliesTo_48 : decode cX0_appliesTo 48 = .ok (.iconst 0, 1) := by decide +kernel
theorem dX0_appliesTo_49 : decode cX0_appliesTo 49 = .ok (.ireturn, 1) := by decide +kernel
set_option maxRecDepth 20000 in
theorem ggX0_isForDay_X0_hasBit : GoodIn wsX0_isForDay wsX0_hasBit := goodIn_r _ [5] (by decide +kernel) (by decide +kernel)
set_option maxRecDepth 20000 in
theorem gX0_isForDay_X0_hasBit : GoodIn wsX0_isForDay (va_wsS RX0 34 yX0_hasBit wsX0_hasBit) := goodIn_app (goodIn_of _ (by decide +kernel)) ggX0_isForDay_X0_hasBit
theorem dX0_isForDay_0 : decode cX0_isForDay 0 = .ok (.aload_n 0, 1) := by decide +kernel
theorem dX0_isForDay_1 : decode cX0_isForDay 1 = .ok (.getfield 15, 3) := by decide +kernel
theorem dX0_isForDay_4 : decode cX0_isForDay 4 = .ok (.ifCond .ne 7, 3) := by decide +kernel
theorem dX0_isForDay_7 : decode cX0_isForDay 7 = .ok (.iload_n 2, 1) := by decide +kernel
theorem dX0_isForDay_8 : decode cX0_isForDay 8 = .ok (.goto 14, 3) := by decide +kernel
theorem dX0_isForDay_11 : decode cX0_isForDay 11 = .ok (.aload_n 0, 1) := by decide +kernel
theorem dX0_isForDay_12 : decode cX0_isForDay 12 = .ok (.getfield 15, 3) := by decide +kernel
theorem dX0_isForDay_15 : decode cX0_isForDay 15 = .ok (.iload_n 1, 1) := by decide +kernel
theorem dX0_isForDay_16 : decode cX0_isForDay 16 = .ok (.bipush 7, 2) := by decide +kernel
theorem dX0_isForDay_18 : decode cX0_isForDay 18 = .ok (.irem, 1) := by decide +kernel
theorem dX0_isForDay_19 : decode cX0_isForDay 19 = .ok (.invokestatic 34, 3) := by decide +kernel
theorem dX0_isForDay_22 : decode cX0_isForDay 22 = .ok (.ireturn, 1) := by decide +kernel
theorem dX0_hasBit_0 : decode cX0_hasBit 0 = .ok (.iload_n 0, 1) := by decide +kernel
theorem dX0_hasBit_1 : decode cX0_hasBit 1 = .ok (.iload_n 1, 1) := by decide +kernel
theorem dX0_hasBit_2 : decode cX0_hasBit 2 = .ok (.ishr, 1) := by decide +kernel
theorem dX0_hasBit_3 : decode cX0_hasBit 3 = .ok (.iconst 1, 1) := by decide +kernel
theorem dX0_hasBit_4 : decode cX0_hasBit 4 = .ok (.iand, 1) := by decide +kernel
theorem dX0_hasBit_5 : decode cX0_hasBit 5 = .ok (.iconst 1, 1) := by decide +kernel
theorem dX0_hasBit_6 : decode cX0_hasBit 6 = .ok (.if_icmp .ne 7, 3) := by decide +kernel
theorem dX0_hasBit_9 : decode cX0_hasBit 9 = .ok (.iconst 1, 1) := by decide +kernel
theorem dX0_hasBit_10 : decode cX0_hasBit 10 = .ok (.goto 4, 3) := by decide +kernel
theorem dX0_hasBit_13 : decode cX0_hasBit 13 = .ok (.iconst 0, 1) := by decide +kernel
theorem dX0_hasBit_14 : decode cX0_hasBit 14 = .ok (.ireturn, 1) := by decide +kernel
theorem dX1_init_0 : decode cX1_init 0 = .ok (.aload_n 0, 1) := by decide +kernel
theorem dX1_init_1 : decode cX1_init 1 = .ok (.invokespecial 3, 3) := by decide +kernel
theorem dX1_init_4 : decode cX1_init 4 = .ok (.aload_n 0, 1) := by decide +kernel
theorem dX1_init_5 : decode cX1_init 5 = .ok (.aload_n 1, 1) := by decide +kernel
theorem dX1_init_6 : decode cX1_init 6 = .ok (.putfield 9, 3) := by decide +kernel
theorem dX1_init_9 : decode cX1_init 9 = .ok (.aload_n 0, 1) := by decide +kernel
theorem dX1_init_10 : decode cX1_init 10 = .ok (.iload_n 2, 1) := by decide +kernel
theorem dX1_init_11 : decode cX1_init 11 = .ok (.putfield 15, 3) := by decide +kernel
theorem dX1_init_14 : decode cX1_init 14 = .ok (.aload_n 0, 1) := by decide +kernel
theorem dX1_init_15 : decode cX1_init 15 = .ok (.iload_n 3, 1) := by decide +kernel
theorem dX1_init_16 : decode cX1_init 16 = .ok (.putfield 19, 3) := by decide +kernel
theorem dX1_init_19 : decode cX1_init 19 = .ok (.aload_n 0, 1) := by decide +kernel
theorem dX1_init_20 : decode cX1_init 20 = .ok (.iconst 0, 1) := by decide +kernel
theorem dX1_init_21 : decode cX1_init 21 = .ok (.putfield 22, 3) := by decide +kernel
theorem dX1_init_24 : decode cX1_init 24 = .ok (.aload_n 0, 1) := by decide +kernel
theorem dX1_init_25 : decode cX1_init 25 = .ok (.iconst 0, 1) := by decide +kernel
theorem dX1_init_26 : decode cX1_init 26 = .ok (.putfield 25, 3) := by decide +kernel
theorem dX1_init_29 : decode cX1_init 29 = .ok (.return_, 1) := by decide +kernel
theorem dX1_paidLength_0 : decode cX1_paidLength 0 = .ok (.aload_n 0, 1) := by decide +kernel
theorem dX1_paidLength_1 : decode cX1_paidLength 1 = .ok (.getfield 25, 3) := by decide +kernel
theorem dX1_paidLength_4 : decode cX1_paidLength 4 = .ok (.ifCond .eq 7, 3) := by decide +kernel
theorem dX1_paidLength_7 : decode cX1_paidLength 7 = .ok (.iconst 0, 1) := by decide +kernel
theorem dX1_paidLength_8 : decode cX1_paidLength 8 = .ok (.goto 12, 3) := by decide +kernel
theorem dX1_paidLength_11 : decode cX1_paidLength 11 = .ok (.aload_n 0, 1) := by decide +kernel
theorem dX1_paidLength_12 : decode cX1_paidLength 12 = .ok (.getfield 19, 3) := by decide +kernel
theorem dX1_paidLength_15 : decode cX1_paidLength 15 = .ok (.bipush 12, 2) := by decide +kernel
theorem dX1_paidLength_17 : decode cX1_paidLength 17 = .ok (.invokestatic 29, 3) := by decide +kernel
theorem dX1_paidLength_20 : decode cX1_paidLength 20 = .ok (.ireturn, 1) := by decide +kernel
theorem dX1_dayOf_0 : decode cX1_dayOf 0 = .ok (.aload_n 0, 1) := by decide +kernel
theorem dX1_dayOf_1 : decode cX1_dayOf 1 = .ok (.getfield 15, 3) := by decide +kernel
theorem dX1_dayOf_4 : decode cX1_dayOf 4 = .ok (.iload_n 1, 1) := by decide +kernel
theorem dX1_dayOf_5 : decode cX1_dayOf 5 = .ok (.iadd, 1) := by decide +kernel
theorem dX1_dayOf_6 : decode cX1_dayOf 6 = .ok (.bipush 96, 2) := by decide +kernel
theorem dX1_dayOf_8 : decode cX1_dayOf 8 = .ok (.idiv, 1) := by decide +kernel
theorem dX1_dayOf_9 : decode cX1_dayOf 9 = .ok (.ireturn, 1) := by decide +kernel
theorem dX1_quarterOfDay_0 : decode cX1_quarterOfDay 0 = .ok (.aload_n 0, 1) := by decide +kernel
theorem dX1_quarterOfDay_1 : decode cX1_quarterOfDay 1 = .ok (.getfield 15, 3) := by decide +kernel
theorem dX1_quarterOfDay_4 : decode cX1_quarterOfDay 4 = .ok (.iload_n 1, 1) := by decide +kernel
theorem dX1_quarterOfDay_5 : decode cX1_quarterOfDay 5 = .ok (.iadd, 1) := by decide +kernel
theorem dX1_quarterOfDay_6 : decode cX1_quarterOfDay 6 = .ok (.bipush 96, 2) := by decide +kernel
theorem dX1_quarterOfDay_8 : decode cX1_quarterOfDay 8 = .ok (.irem, 1) := by decide +kernel
theorem dX1_quarterOfDay_9 : decode cX1_quarterOfDay 9 = .ok (.ireturn, 1) := by decide +kernel
set_option maxRecDepth 20000 in
theorem ggX1_breaksMissed_X1_breaksOwed : GoodIn wsX1_breaksMissed wsX1_breaksOwed := goodIn_r _ [11, 12, 13, 14, 15, 16, 17] (by decide +kernel) (by decide +kernel)
set_option maxRecDepth 20000 in
theorem gX1_breaksMissed_X1_breaksOwed : GoodIn wsX1_breaksMissed (wsV RX1 35 RX1 yX1_breaksOwed wsX1_breaksOwed) := goodIn_app (goodIn_of _ (by decide +kernel)) ggX1_breaksMissed_X1_breaksOwed
theorem dX1_breaksMissed_0 : decode cX1_breaksMissed 0 = .ok (.aload_n 0, 1) := by decide +kernel
theorem dX1_breaksMissed_1 : decode cX1_breaksMissed 1 = .ok (.getfield 25, 3) := by decide +kernel
theorem dX1_breaksMissed_4 : decode cX1_breaksMissed 4 = .ok (.ifCond .eq 7, 3) := by decide +kernel
theorem dX1_breaksMissed_7 : decode cX1_breaksMissed 7 = .ok (.iconst 0, 1) := by decide +kernel
theorem dX1_breaksMissed_8 : decode cX1_breaksMissed 8 = .ok (.goto 16, 3) := by decide +kernel
theorem dX1_breaksMissed_11 : decode cX1_breaksMissed 11 = .ok (.aload_n 0, 1) := by decide +kernel
theorem dX1_breaksMissed_12 : decode cX1_breaksMissed 12 = .ok (.invokevirtual 35, 3) := by decide +kernel
theorem dX1_breaksMissed_15 : decode cX1_breaksMissed 15 = .ok (.aload_n 0, 1) := by decide +kernel
theorem dX1_breaksMissed_16 : decode cX1_breaksMissed 16 = .ok (.getfield 22, 3) := by decide +kernel
theorem dX1_breaksMissed_19 : decode cX1_breaksMissed 19 = .ok (.isub, 1) := by decide +kernel
theorem dX1_breaksMissed_20 : decode cX1_breaksMissed 20 = .ok (.iconst 0, 1) := by decide +kernel
theorem dX1_breaksMissed_21 : decode cX1_breaksMissed 21 = .ok (.invokestatic 29, 3) := by decide +kernel
theorem dX1_breaksMissed_24 : decode cX1_breaksMissed 24 = .ok (.ireturn, 1) := by decide +kernel
theorem dX1_breaksOwed_0 : decode cX1_breaksOwed 0 = .ok (.aload_n 0, 1) := by decide +kernel
theorem dX1_breaksOwed_1 : decode cX1_breaksOwed 1 = .ok (.getfield 19, 3) := by decide +kernel
theorem dX1_breaksOwed_4 : decode cX1_breaksOwed 4 = .ok (.bipush 40, 2) := by decide +kernel
theorem dX1_breaksOwed_6 : decode cX1_breaksOwed 6 = .ok (.if_icmp .lt 5, 3) := by decide +kernel
theorem dX1_breaksOwed_9 : decode cX1_breaksOwed 9 = .ok (.iconst 2, 1) := by decide +kernel
theorem dX1_breaksOwed_10 : decode cX1_breaksOwed 10 = .ok (.ireturn, 1) := by decide +kernel
theorem dX1_breaksOwed_11 : decode cX1_breaksOwed 11 = .ok (.aload_n 0, 1) := by decide +kernel
theorem dX1_breaksOwed_12 : decode cX1_breaksOwed 12 = .ok (.getfield 19, 3) := by decide +kernel
theorem dX1_breaksOwed_15 : decode cX1_breaksOwed 15 = .ok (.bipush 20, 2) := by decide +kernel
theorem dX1_breaksOwed_17 : decode cX1_breaksOwed 17 = .ok (.if_icmp .lt 7, 3) := by decide +kernel
theorem dX1_breaksOwed_20 : decode cX1_breaksOwed 20 = .ok (.iconst 1, 1) := by decide +kernel
theorem dX1_breaksOwed_21 : decode cX1_breaksOwed 21 = .ok (.goto 4, 3) := by decide +kernel
theorem dX1_breaksOwed_24 : decode cX1_breaksOwed 24 = .ok (.iconst 0, 1) := by decide +kernel
theorem dX1_breaksOwed_25 : decode cX1_breaksOwed 25 = .ok (.ireturn, 1) := by decide +kernel
theorem dX1_ownBetween_0 : decode cX1_ownBetween 0 = .ok (.aload_n 0, 1) := by decide +kernel
theorem dX1_ownBetween_1 : decode cX1_ownBetween 1 = .ok (.getfield 15, 3) := by decide +kernel
theorem dX1_ownBetween_4 : decode cX1_ownBetween 4 = .ok (.aload_n 0, 1) := by decide +kernel
theorem dX1_ownBetween_5 : decode cX1_ownBetween 5 = .ok (.getfield 19, 3) := by decide +kernel
theorem dX1_ownBetween_8 : decode cX1_ownBetween 8 = .ok (.iadd, 1) := by decide +kernel
theorem dX1_ownBetween_9 : decode cX1_ownBetween 9 = .ok (.iload_n 2, 1) := by decide +kernel
theorem dX1_ownBetween_10 : decode cX1_ownBetween 10 = .ok (.invokestatic 39, 3) := by decide +kernel
theorem dX1_ownBetween_13 : decode cX1_ownBetween 13 = .ok (.aload_n 0, 1) := by decide +kernel
theorem dX1_ownBetween_14 : decode cX1_ownBetween 14 = .ok (.getfield 15, 3) := by decide +kernel
theorem dX1_ownBetween_17 : decode cX1_ownBetween 17 = .ok (.iload_n 1, 1) := by decide +kernel
theorem dX1_ownBetween_18 : decode cX1_ownBetween 18 = .ok (.invokestatic 29, 3) := by decide +kernel
theorem dX1_ownBetween_21 : decode cX1_ownBetween 21 = .ok (.isub, 1) := by decide +kernel
theorem dX1_ownBetween_22 : decode cX1_ownBetween 22 = .ok (.iconst 0, 1) := by decide +kernel
theorem dX1_ownBetween_23 : decode cX1_ownBetween 23 = .ok (.invokestatic 29, 3) := by decide +kernel
theorem dX1_ownBetween_26 : decode cX1_ownBetween 26 = .ok (.ireturn, 1) := by decide +kernel
theorem dX2_init_0 : decode cX2_init 0 = .ok (.aload_n 0, 1) := by decide +kernel
theorem dX2_init_1 : decode cX2_init 1 = .ok (.invokespecial 1, 3) := by decide +kernel
theorem dX2_init_4 : decode cX2_init 4 = .ok (.aload_n 0, 1) := by decide +kernel
theorem dX2_init_5 : decode cX2_init 5 = .ok (.iload_n 1, 1) := by decide +kernel
theorem dX2_init_6 : decode cX2_init 6 = .ok (.putfield 7, 3) := by decide +kernel
theorem dX2_init_9 : decode cX2_init 9 = .ok (.return_, 1) := by decide +kernel
set_option maxRecDepth 20000 in
theorem ggX3_init_J7_fill_53178 : GoodIn wsX3_init wsJ7_fill_53178 := goodIn_r _ [17] (by decide +kernel) (by decide +kernel)
set_option maxRecDepth 20000 in
theorem gX3_init_J7_fill_53178 : GoodIn wsX3_init (va_wsS RX3 13 yJ7_fill_53178 wsJ7_fill_53178) := goodIn_app (goodIn_of _ (by decide +kernel)) ggX3_init_J7_fill_53178
set_option maxRecDepth 20000 in
theorem ggX3_init_Jx4a65c_init_da8c8 : GoodIn wsX3_init wsJx4a65c_init_da8c8 := goodIn_r _ [20, 21, 22, 23, 24, 25, 26, 27, 28, 29, 30, 31, 32, 2, 3, 38, 39, 40] (by decide +kernel) (by decide +kernel)
set_option maxRecDepth 20000 in
theorem gX3_init_Jx4a65c_init_da8c8 : GoodIn wsX3_init (wsJx4a65c_init_da8c8) := ggX3_init_Jx4a65c_init_da8c8
theorem dX3_init_0 : decode cX3_init 0 = .ok (.aload_n 0, 1) := by decide +kernel
theorem dX3_init_1 : decode cX3_init 1 = .ok (.invokespecial 3, 3) := by decide +kernel
theorem dX3_init_4 : decode cX3_init 4 = .ok (.aload_n 0, 1) := by decide +kernel
theorem dX3_init_5 : decode cX3_init 5 = .ok (.iconst 4, 1) := by decide +kernel
theorem dX3_init_6 : decode cX3_init 6 = .ok (.newarray .int, 2) := by decide +kernel
theorem dX3_init_8 : decode cX3_init 8 = .ok (.putfield 9, 3) := by decide +kernel
theorem dX3_init_11 : decode cX3_init 11 = .ok (.aload_n 0, 1) := by decide +kernel
theorem dX3_init_12 : decode cX3_init 12 = .ok (.getfield 9, 3) := by decide +kernel
theorem dX3_init_15 : decode cX3_init 15 = .ok (.sipush 500, 3) := by decide +kernel
theorem dX3_init_18 : decode cX3_init 18 = .ok (.invokestatic 13, 3) := by decide +kernel
theorem dX3_init_21 : decode cX3_init 21 = .ok (.aload_n 0, 1) := by decide +kernel
theorem dX3_init_22 : decode cX3_init 22 = .ok (.sipush 364, 3) := by decide +kernel
theorem dX3_init_25 : decode cX3_init 25 = .ok (.newarray .boolean, 2) := by decide +kernel
theorem dX3_init_27 : decode cX3_init 27 = .ok (.putfield 19, 3) := by decide +kernel
theorem dX3_init_30 : decode cX3_init 30 = .ok (.aload_n 0, 1) := by decide +kernel
theorem dX3_init_31 : decode cX3_init 31 = .ok (.new 23, 3) := by decide +kernel
theorem dX3_init_34 : decode cX3_init 34 = .ok (.dup, 1) := by decide +kernel
theorem dX3_init_35 : decode cX3_init 35 = .ok (.invokespecial 25, 3) := by decide +kernel
theorem dX3_init_38 : decode cX3_init 38 = .ok (.putfield 26, 3) := by decide +kernel
theorem dX3_init_41 : decode cX3_init 41 = .ok (.aload_n 0, 1) := by decide +kernel
theorem dX3_init_42 : decode cX3_init 42 = .ok (.new 23, 3) := by decide +kernel
theorem dX3_init_45 : decode cX3_init 45 = .ok (.dup, 1) := by decide +kernel
theorem dX3_init_46 : decode cX3_init 46 = .ok (.invokespecial 25, 3) := by decide +kernel
theorem dX3_init_49 : decode cX3_init 49 = .ok (.putfield 30, 3) := by decide +kernel
theorem dX3_init_52 : decode cX3_init 52 = .ok (.aload_n 0, 1) := by decide +kernel
theorem dX3_init_53 : decode cX3_init 53 = .ok (.new 23, 3) := by decide +kernel
theorem dX3_init_56 : decode cX3_init 56 = .ok (.dup, 1) := by decide +kernel
theorem dX3_init_57 : decode cX3_init 57 = .ok (.invokespecial 25, 3) := by decide +kernel
theorem dX3_init_60 : decode cX3_init 60 = .ok (.putfield 33, 3) := by decide +kernel
theorem dX3_init_63 : decode cX3_init 63 = .ok (.return_, 1) := by decide +kernel
set_option maxRecDepth 20000 in
theorem ggX3_setBase_X3_checkArgument : GoodIn wsX3_setBase wsX3_checkArgument := goodIn_ca (goodIn_r _ [7, 1, 2] (by decide +kernel) (by decide +kernel)) (goodIn_sub (fun _ h => List.mem_cons_of_mem _ (List.mem_append_right _ h)) (by decide +kernel))
set_option maxRecDepth 20000 in
theorem gX3_setBase_X3_checkArgument : GoodIn wsX3_setBase (va_wsS RX3 43 yX3_checkArgument wsX3_checkArgument) := goodIn_app (goodIn_of _ (by decide +kernel)) ggX3_setBase_X3_checkArgument
theorem dX3_setBase_0 : decode cX3_setBase 0 = .ok (.iload_n 1, 1) := by decide +kernel
theorem dX3_setBase_1 : decode cX3_setBase 1 = .ok (.ifCond .lt 12, 3) := by decide +kernel
theorem dX3_setBase_4 : decode cX3_setBase 4 = .ok (.iload_n 1, 1) := by decide +kernel
theorem dX3_setBase_5 : decode cX3_setBase 5 = .ok (.aload_n 0, 1) := by decide +kernel
theorem dX3_setBase_6 : decode cX3_setBase 6 = .ok (.getfield 9, 3) := by decide +kernel
theorem dX3_setBase_9 : decode cX3_setBase 9 = .ok (.arraylength, 1) := by decide +kernel
theorem dX3_setBase_10 : decode cX3_setBase 10 = .ok (.if_icmp .lt 13, 3) := by decide +kernel
theorem dX3_setBase_13 : decode cX3_setBase 13 = .ok (.new 36, 3) := by decide +kernel
theorem dX3_setBase_16 : decode cX3_setBase 16 = .ok (.dup, 1) := by decide +kernel
theorem dX3_setBase_17 : decode cX3_setBase 17 = .ok (.ldc 38, 2) := by decide +kernel
theorem dX3_setBase_19 : decode cX3_setBase 19 = .ok (.invokespecial 40, 3) := by decide +kernel
theorem dX3_setBase_22 : decode cX3_setBase 22 = .ok (.athrow, 1) := by decide +kernel
theorem dX3_setBase_23 : decode cX3_setBase 23 = .ok (.iload_n 2, 1) := by decide +kernel
theorem dX3_setBase_24 : decode cX3_setBase 24 = .ok (.iconst 1, 1) := by decide +kernel
theorem dX3_setBase_25 : decode cX3_setBase 25 = .ok (.sipush 10000, 3) := by decide +kernel
theorem dX3_setBase_28 : decode cX3_setBase 28 = .ok (.invokestatic 43, 3) := by decide +kernel
theorem dX3_setBase_31 : decode cX3_setBase 31 = .ok (.aload_n 0, 1) := by decide +kernel
theorem dX3_setBase_32 : decode cX3_setBase 32 = .ok (.getfield 9, 3) := by decide +kernel
theorem dX3_setBase_35 : decode cX3_setBase 35 = .ok (.iload_n 1, 1) := by decide +kernel
theorem dX3_setBase_36 : decode cX3_setBase 36 = .ok (.iaload, 1) := by decide +kernel
theorem dX3_setBase_37 : decode cX3_setBase 37 = .ok (.istore_n 3, 1) := by decide +kernel
theorem dX3_setBase_38 : decode cX3_setBase 38 = .ok (.aload_n 0, 1) := by decide +kernel
theorem dX3_setBase_39 : decode cX3_setBase 39 = .ok (.getfield 9, 3) := by decide +kernel
theorem dX3_setBase_42 : decode cX3_setBase 42 = .ok (.iload_n 1, 1) := by decide +kernel
theorem dX3_setBase_43 : decode cX3_setBase 43 = .ok (.iload_n 2, 1) := by decide +kernel
theorem dX3_setBase_44 : decode cX3_setBase 44 = .ok (.iastore, 1) := by decide +kernel
theorem dX3_setBase_45 : decode cX3_setBase 45 = .ok (.iload_n 3, 1) := by decide +kernel
theorem dX3_setBase_46 : decode cX3_setBase 46 = .ok (.ireturn, 1) := by decide +kernel
set_option maxRecDepth 20000 in
theorem ggX3_addRule_X3_checkArgument : GoodIn wsX3_addRule wsX3_checkArgument := goodIn_ca (goodIn_r _ [10, 11, 12] (by decide +kernel) (by decide +kernel)) (goodIn_sub (fun _ h => List.mem_cons_of_mem _ (List.mem_append_right _ h)) (by decide +kernel))
set_option maxRecDepth 20000 in
theorem gX3_addRule_X3_checkArgument : GoodIn wsX3_addRule (va_wsS RX3 43 yX3_checkArgument wsX3_checkArgument) := goodIn_app (goodIn_of _ (by decide +kernel)) ggX3_addRule_X3_checkArgument
set_option maxRecDepth 20000 in
theorem ggX3_addRule_Jx4a65c_size_8abf5 : GoodIn wsX3_addRule wsJx4a65c_size_8abf5 := goodIn_r _ [17, 18, 98, 99, 100] (by decide +kernel) (by decide +kernel)
set_option maxRecDepth 20000 in
theorem gX3_addRule_Jx4a65c_size_8abf5 : GoodIn wsX3_addRule (wsV RX3 47 RJx4a65c yJx4a65c_size_8abf5 wsJx4a65c_size_8abf5) := goodIn_app (goodIn_of _ (by decide +kernel)) ggX3_addRule_Jx4a65c_size_8abf5
set_option maxRecDepth 20000 in
theorem ggX3_addRule_X0_init : GoodIn wsX3_addRule wsX0_init := goodIn_r _ [21, 22, 23, 24, 25, 26, 27, 28, 29, 30, 31, 91, 92, 93, 94, 95, 96, 97] (by decide +kernel) (by decide +kernel)
set_option maxRecDepth 20000 in
theorem gX3_addRule_X0_init : GoodIn wsX3_addRule (wsX0_init) := ggX3_addRule_X0_init
set_option maxRecDepth 20000 in
theorem ggX3_addRule_Jx4a65c_add_9ea2d : GoodIn wsX3_addRule wsJx4a65c_add_9ea2d := goodIn_r _ [35, 36, 37, 38, 18, 39, 40, 41, 16, 42, 43, 44, 45, 46, 47, 48, 49, 50, 51, 52, 53, 54, 55, 56, 57, 58, 59, 60, 61, 62, 63, 64, 65, 66, 67, 68, 69, 70, 71, 72, 73, 74, 75, 76, 77, 78, 79, 80, 81, 82, 83, 84, 85, 98, 99, 100] (by decide +kernel) (by decide +kernel)
set_option maxRecDepth 20000 in
theorem gX3_addRule_Jx4a65c_add_9ea2d : GoodIn wsX3_addRule (wsV RX3 61 RJx4a65c yJx4a65c_add_9ea2d wsJx4a65c_add_9ea2d) := goodIn_app (goodIn_of _ (by decide +kernel)) ggX3_addRule_Jx4a65c_add_9ea2d
theorem dX3_addRule_0 : decode cX3_addRule 0 = .ok (.iload_n 1, 1) := by decide +kernel
theorem dX3_addRule_1 : decode cX3_addRule 1 = .ok (.iconst 0, 1) := by decide +kernel
theorem dX3_addRule_2 : decode cX3_addRule 2 = .ok (.bipush 127, 2) := by decide +kernel
theorem dX3_addRule_4 : decode cX3_addRule 4 = .ok (.invokestatic 43, 3) := by decide +kernel
theorem dX3_addRule_7 : decode cX3_addRule 7 = .ok (.iload_n 2, 1) := by decide +kernel
theorem dX3_addRule_8 : decode cX3_addRule 8 = .ok (.iconst 0, 1) := by decide +kernel
theorem dX3_addRule_9 : decode cX3_addRule 9 = .ok (.bipush 95, 2) := by decide +kernel
theorem dX3_addRule_11 : decode cX3_addRule 11 = .ok (.invokestatic 43, 3) := by decide +kernel
theorem dX3_addRule_14 : decode cX3_addRule 14 = .ok (.iload_n 3, 1) := by decide +kernel
theorem dX3_addRule_15 : decode cX3_addRule 15 = .ok (.iload_n 2, 1) := by decide +kernel
theorem dX3_addRule_16 : decode cX3_addRule 16 = .ok (.iconst 1, 1) := by decide +kernel
theorem dX3_addRule_17 : decode cX3_addRule 17 = .ok (.iadd, 1) := by decide +kernel
theorem dX3_addRule_18 : decode cX3_addRule 18 = .ok (.bipush 96, 2) := by decide +kernel
theorem dX3_addRule_20 : decode cX3_addRule 20 = .ok (.invokestatic 43, 3) := by decide +kernel
theorem dX3_addRule_23 : decode cX3_addRule 23 = .ok (.iload 4, 2) := by decide +kernel
theorem dX3_addRule_25 : decode cX3_addRule 25 = .ok (.iconst 1, 1) := by decide +kernel
theorem dX3_addRule_26 : decode cX3_addRule 26 = .ok (.bipush 15, 2) := by decide +kernel
theorem dX3_addRule_28 : decode cX3_addRule 28 = .ok (.invokestatic 43, 3) := by decide +kernel
theorem dX3_addRule_31 : decode cX3_addRule 31 = .ok (.iload 5, 2) := by decide +kernel
theorem dX3_addRule_33 : decode cX3_addRule 33 = .ok (.bipush 100, 2) := by decide +kernel
theorem dX3_addRule_35 : decode cX3_addRule 35 = .ok (.sipush 400, 3) := by decide +kernel
theorem dX3_addRule_38 : decode cX3_addRule 38 = .ok (.invokestatic 43, 3) := by decide +kernel
theorem dX3_addRule_41 : decode cX3_addRule 41 = .ok (.aload_n 0, 1) := by decide +kernel
theorem dX3_addRule_42 : decode cX3_addRule 42 = .ok (.getfield 26, 3) := by decide +kernel
theorem dX3_addRule_45 : decode cX3_addRule 45 = .ok (.invokevirtual 47, 3) := by decide +kernel
theorem dX3_addRule_48 : decode cX3_addRule 48 = .ok (.istore 6, 2) := by decide +kernel
theorem dX3_addRule_50 : decode cX3_addRule 50 = .ok (.iload 6, 2) := by decide +kernel
theorem dX3_addRule_52 : decode cX3_addRule 52 = .ok (.bipush 16, 2) := by decide +kernel
theorem dX3_addRule_54 : decode cX3_addRule 54 = .ok (.if_icmp .lt 13, 3) := by decide +kernel
theorem dX3_addRule_57 : decode cX3_addRule 57 = .ok (.new 51, 3) := by decide +kernel
theorem dX3_addRule_60 : decode cX3_addRule 60 = .ok (.dup, 1) := by decide +kernel
theorem dX3_addRule_61 : decode cX3_addRule 61 = .ok (.ldc 53, 2) := by decide +kernel
theorem dX3_addRule_63 : decode cX3_addRule 63 = .ok (.invokespecial 55, 3) := by decide +kernel
theorem dX3_addRule_66 : decode cX3_addRule 66 = .ok (.athrow, 1) := by decide +kernel
theorem dX3_addRule_67 : decode cX3_addRule 67 = .ok (.aload_n 0, 1) := by decide +kernel
theorem dX3_addRule_68 : decode cX3_addRule 68 = .ok (.getfield 26, 3) := by decide +kernel
theorem dX3_addRule_71 : decode cX3_addRule 71 = .ok (.new 56, 3) := by decide +kernel
theorem dX3_addRule_74 : decode cX3_addRule 74 = .ok (.dup, 1) := by decide +kernel
theorem dX3_addRule_75 : decode cX3_addRule 75 = .ok (.iload 6, 2) := by decide +kernel
theorem dX3_addRule_77 : decode cX3_addRule 77 = .ok (.iload_n 1, 1) := by decide +kernel
theorem dX3_addRule_78 : decode cX3_addRule 78 = .ok (.iload_n 2, 1) := by decide +kernel
theorem dX3_addRule_79 : decode cX3_addRule 79 = .ok (.iload_n 3, 1) := by decide +kernel
theorem dX3_addRule_80 : decode cX3_addRule 80 = .ok (.iload 4, 2) := by decide +kernel
theorem dX3_addRule_82 : decode cX3_addRule 82 = .ok (.iload 5, 2) := by decide +kernel
theorem dX3_addRule_84 : decode cX3_addRule 84 = .ok (.invokespecial 58, 3) := by decide +kernel
theorem dX3_addRule_87 : decode cX3_addRule 87 = .ok (.invokevirtual 61, 3) := by decide +kernel
theorem dX3_addRule_90 : decode cX3_addRule 90 = .ok (.pop, 1) := by decide +kernel
theorem dX3_addRule_91 : decode cX3_addRule 91 = .ok (.iload 6, 2) := by decide +kernel
theorem dX3_addRule_93 : decode cX3_addRule 93 = .ok (.ireturn, 1) := by decide +kernel
set_option maxRecDepth 20000 in
theorem ggX3_setRule_X3_findRule : GoodIn wsX3_setRule wsX3_findRule := goodIn_ca (goodIn_r _ [6, 7, 8, 9, 10, 11, 12, 13, 14, 15, 16, 17, 18, 19, 20, 21, 22, 23, 24, 25, 26, 27, 28, 29, 30, 31, 32, 33, 41, 42, 43, 44, 45, 46, 47, 48] (by decide +kernel) (by decide +kernel)) (goodIn_sub (fun _ h => List.mem_cons_of_mem _ (List.mem_append_right _ h)) (by decide +kernel))
set_option maxRecDepth 20000 in
theorem gX3_setRule_X3_findRule : GoodIn wsX3_setRule (wsV RX3 65 RX3 yX3_findRule wsX3_findRule) := goodIn_app (goodIn_of _ (by decide +kernel)) ggX3_setRule_X3_findRule
theorem dX3_setRule_0 : decode cX3_setRule 0 = .ok (.aload_n 0, 1) := by decide +kernel
theorem dX3_setRule_1 : decode cX3_setRule 1 = .ok (.iload_n 1, 1) := by decide +kernel
theorem dX3_setRule_2 : decode cX3_setRule 2 = .ok (.invokevirtual 65, 3) := by decide +kernel
theorem dX3_setRule_5 : decode cX3_setRule 5 = .ok (.astore_n 3, 1) := by decide +kernel
theorem dX3_setRule_6 : decode cX3_setRule 6 = .ok (.aload_n 3, 1) := by decide +kernel
theorem dX3_setRule_7 : decode cX3_setRule 7 = .ok (.getfield 69, 3) := by decide +kernel
theorem dX3_setRule_10 : decode cX3_setRule 10 = .ok (.istore 4, 2) := by decide +kernel
theorem dX3_setRule_12 : decode cX3_setRule 12 = .ok (.aload_n 3, 1) := by decide +kernel
theorem dX3_setRule_13 : decode cX3_setRule 13 = .ok (.iload_n 2, 1) := by decide +kernel
theorem dX3_setRule_14 : decode cX3_setRule 14 = .ok (.putfield 69, 3) := by decide +kernel
theorem dX3_setRule_17 : decode cX3_setRule 17 = .ok (.iload 4, 2) := by decide +kernel
theorem dX3_setRule_19 : decode cX3_setRule 19 = .ok (.ireturn, 1) := by decide +kernel
theorem dX3_setHoliday_0 : decode cX3_setHoliday 0 = .ok (.iload_n 1, 1) := by decide +kernel
theorem dX3_setHoliday_1 : decode cX3_setHoliday 1 = .ok (.ifCond .lt 12, 3) := by decide +kernel
theorem dX3_setHoliday_4 : decode cX3_setHoliday 4 = .ok (.iload_n 1, 1) := by decide +kernel
theorem dX3_setHoliday_5 : decode cX3_setHoliday 5 = .ok (.aload_n 0, 1) := by decide +kernel
theorem dX3_setHoliday_6 : decode cX3_setHoliday 6 = .ok (.getfield 19, 3) := by decide +kernel
theorem dX3_setHoliday_9 : decode cX3_setHoliday 9 = .ok (.arraylength, 1) := by decide +kernel
theorem dX3_setHoliday_10 : decode cX3_setHoliday 10 = .ok (.if_icmp .lt 13, 3) := by decide +kernel
theorem dX3_setHoliday_13 : decode cX3_setHoliday 13 = .ok (.new 36, 3) := by decide +kernel
theorem dX3_setHoliday_16 : decode cX3_setHoliday 16 = .ok (.dup, 1) := by decide +kernel
theorem dX3_setHoliday_17 : decode cX3_setHoliday 17 = .ok (.ldc 73, 2) := by decide +kernel
theorem dX3_setHoliday_19 : decode cX3_setHoliday 19 = .ok (.invokespecial 40, 3) := by decide +kernel
theorem dX3_setHoliday_22 : decode cX3_setHoliday 22 = .ok (.athrow, 1) := by decide +kernel
theorem dX3_setHoliday_23 : decode cX3_setHoliday 23 = .ok (.aload_n 0, 1) := by decide +kernel
theorem dX3_setHoliday_24 : decode cX3_setHoliday 24 = .ok (.getfield 19, 3) := by decide +kernel
theorem dX3_setHoliday_27 : decode cX3_setHoliday 27 = .ok (.iload_n 1, 1) := by decide +kernel
theorem dX3_setHoliday_28 : decode cX3_setHoliday 28 = .ok (.baload, 1) := by decide +kernel
theorem dX3_setHoliday_29 : decode cX3_setHoliday 29 = .ok (.istore_n 3, 1) := by decide +kernel
theorem dX3_setHoliday_30 : decode cX3_setHoliday 30 = .ok (.aload_n 0, 1) := by decide +kernel
theorem dX3_setHoliday_31 : decode cX3_setHoliday 31 = .ok (.getfield 19, 3) := by decide +kernel
theorem dX3_setHoliday_34 : decode cX3_setHoliday 34 = .ok (.iload_n 1, 1) := by decide +kernel
theorem dX3_setHoliday_35 : decode cX3_setHoliday 35 = .ok (.iload_n 2, 1) := by decide +kernel
theorem dX3_setHoliday_36 : decode cX3_setHoliday 36 = .ok (.bastore, 1) := by decide +kernel
theorem dX3_setHoliday_37 : decode cX3_setHoliday 37 = .ok (.iload_n 3, 1) := by decide +kernel
theorem dX3_setHoliday_38 : decode cX3_setHoliday 38 = .ok (.ireturn, 1) := by decide +kernel
set_option maxRecDepth 20000 in
theorem ggX3_addWorker_X3_checkArgument : GoodIn wsX3_addWorker wsX3_checkArgument := goodIn_ca (goodIn_r _ [10, 11, 12] (by decide +kernel) (by decide +kernel)) (goodIn_sub (fun _ h => List.mem_cons_of_mem _ (List.mem_append_right _ h)) (by decide +kernel))
set_option maxRecDepth 20000 in
theorem gX3_addWorker_X3_checkArgument : GoodIn wsX3_addWorker (va_wsS RX3 43 yX3_checkArgument wsX3_checkArgument) := goodIn_app (goodIn_of _ (by decide +kernel)) ggX3_addWorker_X3_checkArgument
set_option maxRecDepth 20000 in
theorem ggX3_addWorker_Jx4a65c_size_8abf5 : GoodIn wsX3_addWorker wsJx4a65c_size_8abf5 := goodIn_r _ [17, 18, 86, 87, 88] (by decide +kernel) (by decide +kernel)
set_option maxRecDepth 20000 in
theorem gX3_addWorker_Jx4a65c_size_8abf5 : GoodIn wsX3_addWorker (wsV RX3 47 RJx4a65c yJx4a65c_size_8abf5 wsJx4a65c_size_8abf5) := goodIn_app (goodIn_of _ (by decide +kernel)) ggX3_addWorker_Jx4a65c_size_8abf5
set_option maxRecDepth 20000 in
theorem ggX3_addWorker_X2_init : GoodIn wsX3_addWorker wsX2_init := goodIn_r _ [21, 22, 23, 24, 25, 85] (by decide +kernel) (by decide +kernel)
set_option maxRecDepth 20000 in
theorem gX3_addWorker_X2_init : GoodIn wsX3_addWorker (wsX2_init) := ggX3_addWorker_X2_init
set_option maxRecDepth 20000 in
theorem ggX3_addWorker_Jx4a65c_add_9ea2d : GoodIn wsX3_addWorker wsJx4a65c_add_9ea2d := goodIn_r _ [29, 30, 31, 32, 18, 33, 34, 35, 16, 36, 37, 38, 39, 40, 41, 42, 43, 44, 45, 46, 47, 48, 49, 50, 51, 52, 53, 54, 55, 56, 57, 58, 59, 60, 61, 62, 63, 64, 65, 66, 67, 68, 69, 70, 71, 72, 73, 74, 75, 76, 77, 78, 79, 86, 87, 88] (by decide +kernel) (by decide +kernel)
set_option maxRecDepth 20000 in
theorem gX3_addWorker_Jx4a65c_add_9ea2d : GoodIn wsX3_addWorker (wsV RX3 61 RJx4a65c yJx4a65c_add_9ea2d wsJx4a65c_add_9ea2d) := goodIn_app (goodIn_of _ (by decide +kernel)) ggX3_addWorker_Jx4a65c_add_9ea2d
theorem dX3_addWorker_0 : decode cX3_addWorker 0 = .ok (.iload_n 1, 1) := by decide +kernel
theorem dX3_addWorker_1 : decode cX3_addWorker 1 = .ok (.iconst 0, 1) := by decide +kernel
theorem dX3_addWorker_2 : decode cX3_addWorker 2 = .ok (.iconst 3, 1) := by decide +kernel
theorem dX3_addWorker_3 : decode cX3_addWorker 3 = .ok (.invokestatic 43, 3) := by decide +kernel
theorem dX3_addWorker_6 : decode cX3_addWorker 6 = .ok (.aload_n 0, 1) := by decide +kernel
theorem dX3_addWorker_7 : decode cX3_addWorker 7 = .ok (.getfield 30, 3) := by decide +kernel
theorem dX3_addWorker_10 : decode cX3_addWorker 10 = .ok (.invokevirtual 47, 3) := by decide +kernel
theorem dX3_addWorker_13 : decode cX3_addWorker 13 = .ok (.istore_n 2, 1) := by decide +kernel
theorem dX3_addWorker_14 : decode cX3_addWorker 14 = .ok (.iload_n 2, 1) := by decide +kernel
theorem dX3_addWorker_15 : decode cX3_addWorker 15 = .ok (.bipush 12, 2) := by decide +kernel
theorem dX3_addWorker_17 : decode cX3_addWorker 17 = .ok (.if_icmp .lt 13, 3) := by decide +kernel
theorem dX3_addWorker_20 : decode cX3_addWorker 20 = .ok (.new 51, 3) := by decide +kernel
theorem dX3_addWorker_23 : decode cX3_addWorker 23 = .ok (.dup, 1) := by decide +kernel
theorem dX3_addWorker_24 : decode cX3_addWorker 24 = .ok (.ldc 75, 2) := by decide +kernel
theorem dX3_addWorker_26 : decode cX3_addWorker 26 = .ok (.invokespecial 55, 3) := by decide +kernel
theorem dX3_addWorker_29 : decode cX3_addWorker 29 = .ok (.athrow, 1) := by decide +kernel
theorem dX3_addWorker_30 : decode cX3_addWorker 30 = .ok (.aload_n 0, 1) := by decide +kernel
theorem dX3_addWorker_31 : decode cX3_addWorker 31 = .ok (.getfield 30, 3) := by decide +kernel
theorem dX3_addWorker_34 : decode cX3_addWorker 34 = .ok (.new 77, 3) := by decide +kernel
theorem dX3_addWorker_37 : decode cX3_addWorker 37 = .ok (.dup, 1) := by decide +kernel
theorem dX3_addWorker_38 : decode cX3_addWorker 38 = .ok (.iload_n 1, 1) := by decide +kernel
theorem dX3_addWorker_39 : decode cX3_addWorker 39 = .ok (.invokespecial 79, 3) := by decide +kernel
theorem dX3_addWorker_42 : decode cX3_addWorker 42 = .ok (.invokevirtual 61, 3) := by decide +kernel
theorem dX3_addWorker_45 : decode cX3_addWorker 45 = .ok (.pop, 1) := by decide +kernel
theorem dX3_addWorker_46 : decode cX3_addWorker 46 = .ok (.iload_n 2, 1) := by decide +kernel
theorem dX3_addWorker_47 : decode cX3_addWorker 47 = .ok (.ireturn, 1) := by decide +kernel
set_option maxRecDepth 20000 in
theorem ggX3_setRank_X3_findWorker : GoodIn wsX3_setRank wsX3_findWorker := goodIn_ca (goodIn_r _ [6, 7, 8, 9, 10, 11, 12, 13, 14, 15, 16, 17, 18, 19, 20, 21, 22, 23, 24, 25, 26, 27, 28, 29, 30, 31, 32, 33, 40, 41, 42, 43, 44, 45, 46, 47] (by decide +kernel) (by decide +kernel)) (goodIn_sub (fun _ h => List.mem_cons_of_mem _ (List.mem_append_left _ (List.mem_append_right _ h))) (by decide +kernel))
set_option maxRecDepth 20000 in
theorem gX3_setRank_X3_findWorker : GoodIn wsX3_setRank (wsV RX3 82 RX3 yX3_findWorker wsX3_findWorker) := goodIn_app (goodIn_of _ (by decide +kernel)) ggX3_setRank_X3_findWorker
set_option maxRecDepth 20000 in
theorem ggX3_setRank_X3_checkArgument : GoodIn wsX3_setRank wsX3_checkArgument := goodIn_ca (goodIn_r _ [36, 37, 38] (by decide +kernel) (by decide +kernel)) (goodIn_sub (fun _ h => List.mem_cons_of_mem _ (List.mem_append_right _ h)) (by decide +kernel))
set_option maxRecDepth 20000 in
theorem gX3_setRank_X3_checkArgument : GoodIn wsX3_setRank (va_wsS RX3 43 yX3_checkArgument wsX3_checkArgument) := goodIn_app (goodIn_of _ (by decide +kernel)) ggX3_setRank_X3_checkArgument
theorem dX3_setRank_0 : decode cX3_setRank 0 = .ok (.aload_n 0, 1) := by decide +kernel
theorem dX3_setRank_1 : decode cX3_setRank 1 = .ok (.iload_n 1, 1) := by decide +kernel
theorem dX3_setRank_2 : decode cX3_setRank 2 = .ok (.invokevirtual 82, 3) := by decide +kernel
theorem dX3_setRank_5 : decode cX3_setRank 5 = .ok (.astore_n 3, 1) := by decide +kernel
theorem dX3_setRank_6 : decode cX3_setRank 6 = .ok (.iload_n 2, 1) := by decide +kernel
theorem dX3_setRank_7 : decode cX3_setRank 7 = .ok (.iconst 0, 1) := by decide +kernel
theorem dX3_setRank_8 : decode cX3_setRank 8 = .ok (.iconst 3, 1) := by decide +kernel
theorem dX3_setRank_9 : decode cX3_setRank 9 = .ok (.invokestatic 43, 3) := by decide +kernel
theorem dX3_setRank_12 : decode cX3_setRank 12 = .ok (.aload_n 3, 1) := by decide +kernel
theorem dX3_setRank_13 : decode cX3_setRank 13 = .ok (.getfield 86, 3) := by decide +kernel
theorem dX3_setRank_16 : decode cX3_setRank 16 = .ok (.istore 4, 2) := by decide +kernel
theorem dX3_setRank_18 : decode cX3_setRank 18 = .ok (.aload_n 3, 1) := by decide +kernel
theorem dX3_setRank_19 : decode cX3_setRank 19 = .ok (.iload_n 2, 1) := by decide +kernel
theorem dX3_setRank_20 : decode cX3_setRank 20 = .ok (.putfield 86, 3) := by decide +kernel
theorem dX3_setRank_23 : decode cX3_setRank 23 = .ok (.iload 4, 2) := by decide +kernel
theorem dX3_setRank_25 : decode cX3_setRank 25 = .ok (.ireturn, 1) := by decide +kernel
set_option maxRecDepth 20000 in
theorem ggX3_addShift_X3_findWorker : GoodIn wsX3_addShift wsX3_findWorker := goodIn_ca (goodIn_r _ [11, 12, 13, 14, 15, 16, 17, 18, 19, 20, 21, 22, 23, 24, 25, 26, 27, 28, 29, 30, 31, 32, 33, 34, 35, 36, 37, 38, 125, 126, 127, 128, 129, 135, 136, 137] (by decide +kernel) (by decide +kernel)) (goodIn_sub (fun _ h => List.mem_cons_of_mem _ (List.mem_append_left _ (List.mem_append_right _ h))) (by decide +kernel))
set_option maxRecDepth 20000 in
theorem gX3_addShift_X3_findWorker : GoodIn wsX3_addShift (wsV RX3 82 RX3 yX3_findWorker wsX3_findWorker) := goodIn_app (goodIn_of _ (by decide +kernel)) ggX3_addShift_X3_findWorker
set_option maxRecDepth 20000 in
theorem ggX3_addShift_X3_checkArgument : GoodIn wsX3_addShift wsX3_checkArgument := goodIn_ca (goodIn_r _ [41, 42, 43] (by decide +kernel) (by decide +kernel)) (goodIn_sub (fun _ h => List.mem_cons_of_mem _ (List.mem_append_right _ h)) (by decide +kernel))
set_option maxRecDepth 20000 in
theorem gX3_addShift_X3_checkArgument : GoodIn wsX3_addShift (va_wsS RX3 43 yX3_checkArgument wsX3_checkArgument) := goodIn_app (goodIn_of _ (by decide +kernel)) ggX3_addShift_X3_checkArgument
set_option maxRecDepth 20000 in
theorem ggX3_addShift_Jx4a65c_size_8abf5 : GoodIn wsX3_addShift wsJx4a65c_size_8abf5 := goodIn_r _ [20, 21, 135, 136, 137] (by decide +kernel) (by decide +kernel)
set_option maxRecDepth 20000 in
theorem gX3_addShift_Jx4a65c_size_8abf5 : GoodIn wsX3_addShift (wsV RX3 47 RJx4a65c yJx4a65c_size_8abf5 wsJx4a65c_size_8abf5) := goodIn_app (goodIn_of _ (by decide +kernel)) ggX3_addShift_Jx4a65c_size_8abf5
set_option maxRecDepth 20000 in
theorem ggX3_addShift_X3_overlapsAnother : GoodIn wsX3_addShift wsX3_overlapsAnother := goodIn_r _ [47, 48, 49, 50, 10, 51, 3, 52, 53, 54, 16, 17, 18, 19, 20, 21, 22, 23, 24, 25, 26, 27, 28, 29, 30, 31, 32, 33, 34, 35, 36, 37, 38, 55, 56, 57, 6, 58, 59, 60, 61, 62, 63, 64, 65, 66, 67, 125, 126, 127, 128, 129, 130, 131, 132, 133, 134, 135, 136, 137] (by decide +kernel) (by decide +kernel)
set_option maxRecDepth 20000 in
theorem gX3_addShift_X3_overlapsAnother : GoodIn wsX3_addShift (wsV RX3 90 RX3 yX3_overlapsAnother wsX3_overlapsAnother) := goodIn_app (goodIn_of _ (by decide +kernel)) ggX3_addShift_X3_overlapsAnother
set_option maxRecDepth 20000 in
theorem ggX3_addShift_X1_init : GoodIn wsX3_addShift wsX1_init := goodIn_r _ [70, 71, 72, 73, 74, 59, 60, 75, 76, 130, 131, 132, 133, 134] (by decide +kernel) (by decide +kernel)
set_option maxRecDepth 20000 in
theorem gX3_addShift_X1_init : GoodIn wsX3_addShift (wsX1_init) := ggX3_addShift_X1_init
set_option maxRecDepth 20000 in
theorem ggX3_addShift_Jx4a65c_add_9ea2d : GoodIn wsX3_addShift wsJx4a65c_add_9ea2d := goodIn_r _ [80, 81, 82, 38, 21, 83, 84, 85, 19, 86, 87, 88, 89, 90, 91, 92, 93, 94, 95, 96, 66, 63, 67, 97, 98, 99, 100, 101, 102, 103, 104, 105, 106, 107, 108, 109, 110, 111, 112, 113, 114, 115, 116, 117, 118, 119, 120, 62, 64, 121, 122, 123, 124, 135, 136, 137] (by decide +kernel) (by decide +kernel)
set_option maxRecDepth 20000 in
theorem gX3_addShift_Jx4a65c_add_9ea2d : GoodIn wsX3_addShift (wsV RX3 61 RJx4a65c yJx4a65c_add_9ea2d wsJx4a65c_add_9ea2d) := goodIn_app (goodIn_of _ (by decide +kernel)) ggX3_addShift_Jx4a65c_add_9ea2d
theorem dX3_addShift_0 : decode cX3_addShift 0 = .ok (.aload_n 0, 1) := by decide +kernel
theorem dX3_addShift_1 : decode cX3_addShift 1 = .ok (.iload_n 1, 1) := by decide +kernel
theorem dX3_addShift_2 : decode cX3_addShift 2 = .ok (.invokevirtual 82, 3) := by decide +kernel
theorem dX3_addShift_5 : decode cX3_addShift 5 = .ok (.astore 5, 2) := by decide +kernel
theorem dX3_addShift_7 : decode cX3_addShift 7 = .ok (.iload_n 2, 1) := by decide +kernel
theorem dX3_addShift_8 : decode cX3_addShift 8 = .ok (.iconst 0, 1) := by decide +kernel
theorem dX3_addShift_9 : decode cX3_addShift 9 = .ok (.sipush 362, 3) := by decide +kernel
theorem dX3_addShift_12 : decode cX3_addShift 12 = .ok (.invokestatic 43, 3) := by decide +kernel
theorem dX3_addShift_15 : decode cX3_addShift 15 = .ok (.iload_n 3, 1) := by decide +kernel
theorem dX3_addShift_16 : decode cX3_addShift 16 = .ok (.iconst 0, 1) := by decide +kernel
theorem dX3_addShift_17 : decode cX3_addShift 17 = .ok (.bipush 95, 2) := by decide +kernel
theorem dX3_addShift_19 : decode cX3_addShift 19 = .ok (.invokestatic 43, 3) := by decide +kernel
theorem dX3_addShift_22 : decode cX3_addShift 22 = .ok (.iload 4, 2) := by decide +kernel
theorem dX3_addShift_24 : decode cX3_addShift 24 = .ok (.iconst 1, 1) := by decide +kernel
theorem dX3_addShift_25 : decode cX3_addShift 25 = .ok (.bipush 64, 2) := by decide +kernel
theorem dX3_addShift_27 : decode cX3_addShift 27 = .ok (.invokestatic 43, 3) := by decide +kernel
theorem dX3_addShift_30 : decode cX3_addShift 30 = .ok (.iload_n 2, 1) := by decide +kernel
theorem dX3_addShift_31 : decode cX3_addShift 31 = .ok (.bipush 96, 2) := by decide +kernel
theorem dX3_addShift_33 : decode cX3_addShift 33 = .ok (.imul, 1) := by decide +kernel
theorem dX3_addShift_34 : decode cX3_addShift 34 = .ok (.iload_n 3, 1) := by decide +kernel
theorem dX3_addShift_35 : decode cX3_addShift 35 = .ok (.iadd, 1) := by decide +kernel
theorem dX3_addShift_36 : decode cX3_addShift 36 = .ok (.istore 6, 2) := by decide +kernel
theorem dX3_addShift_38 : decode cX3_addShift 38 = .ok (.aload_n 0, 1) := by decide +kernel
theorem dX3_addShift_39 : decode cX3_addShift 39 = .ok (.getfield 33, 3) := by decide +kernel
theorem dX3_addShift_42 : decode cX3_addShift 42 = .ok (.invokevirtual 47, 3) := by decide +kernel
theorem dX3_addShift_45 : decode cX3_addShift 45 = .ok (.istore 7, 2) := by decide +kernel
theorem dX3_addShift_47 : decode cX3_addShift 47 = .ok (.iload 7, 2) := by decide +kernel
theorem dX3_addShift_49 : decode cX3_addShift 49 = .ok (.bipush 80, 2) := by decide +kernel
theorem dX3_addShift_51 : decode cX3_addShift 51 = .ok (.if_icmp .ge 19, 3) := by decide +kernel
theorem dX3_addShift_54 : decode cX3_addShift 54 = .ok (.aload_n 0, 1) := by decide +kernel
theorem dX3_addShift_55 : decode cX3_addShift 55 = .ok (.aload 5, 2) := by decide +kernel
theorem dX3_addShift_57 : decode cX3_addShift 57 = .ok (.iload 6, 2) := by decide +kernel
theorem dX3_addShift_59 : decode cX3_addShift 59 = .ok (.iload 6, 2) := by decide +kernel
theorem dX3_addShift_61 : decode cX3_addShift 61 = .ok (.iload 4, 2) := by decide +kernel
theorem dX3_addShift_63 : decode cX3_addShift 63 = .ok (.iadd, 1) := by decide +kernel
theorem dX3_addShift_64 : decode cX3_addShift 64 = .ok (.invokevirtual 90, 3) := by decide +kernel
theorem dX3_addShift_67 : decode cX3_addShift 67 = .ok (.ifCond .eq 13, 3) := by decide +kernel
theorem dX3_addShift_70 : decode cX3_addShift 70 = .ok (.new 51, 3) := by decide +kernel
theorem dX3_addShift_73 : decode cX3_addShift 73 = .ok (.dup, 1) := by decide +kernel
theorem dX3_addShift_74 : decode cX3_addShift 74 = .ok (.ldc 94, 2) := by decide +kernel
theorem dX3_addShift_76 : decode cX3_addShift 76 = .ok (.invokespecial 55, 3) := by decide +kernel
theorem dX3_addShift_79 : decode cX3_addShift 79 = .ok (.athrow, 1) := by decide +kernel
theorem dX3_addShift_80 : decode cX3_addShift 80 = .ok (.aload_n 0, 1) := by decide +kernel
theorem dX3_addShift_81 : decode cX3_addShift 81 = .ok (.getfield 33, 3) := by decide +kernel
theorem dX3_addShift_84 : decode cX3_addShift 84 = .ok (.new 96, 3) := by decide +kernel
theorem dX3_addShift_87 : decode cX3_addShift 87 = .ok (.dup, 1) := by decide +kernel
theorem dX3_addShift_88 : decode cX3_addShift 88 = .ok (.aload 5, 2) := by decide +kernel
theorem dX3_addShift_90 : decode cX3_addShift 90 = .ok (.iload 6, 2) := by decide +kernel
theorem dX3_addShift_92 : decode cX3_addShift 92 = .ok (.iload 4, 2) := by decide +kernel
theorem dX3_addShift_94 : decode cX3_addShift 94 = .ok (.invokespecial 98, 3) := by decide +kernel
theorem dX3_addShift_97 : decode cX3_addShift 97 = .ok (.invokevirtual 61, 3) := by decide +kernel
theorem dX3_addShift_100 : decode cX3_addShift 100 = .ok (.pop, 1) := by decide +kernel
theorem dX3_addShift_101 : decode cX3_addShift 101 = .ok (.iload 7, 2) := by decide +kernel
theorem dX3_addShift_103 : decode cX3_addShift 103 = .ok (.ireturn, 1) := by decide +kernel
set_option maxRecDepth 20000 in
theorem ggX3_cancel_X3_findShift : GoodIn wsX3_cancel wsX3_findShift := goodIn_ca (goodIn_r _ [6, 7, 8, 9, 10, 11, 12, 13, 14, 15, 16, 17, 18, 19, 20, 21, 22, 23, 24, 25, 26, 27, 28, 29, 30, 31, 32, 33, 123, 124, 125, 126, 127, 128, 129, 130] (by decide +kernel) (by decide +kernel)) (goodIn_sub (fun _ h => List.mem_cons_of_mem _ (List.mem_append_left _ (List.mem_append_right _ h))) (by decide +kernel))
set_option maxRecDepth 20000 in
theorem gX3_cancel_X3_findShift : GoodIn wsX3_cancel (wsV RX3 101 RX3 yX3_findShift wsX3_findShift) := goodIn_app (goodIn_of _ (by decide +kernel)) ggX3_cancel_X3_findShift
set_option maxRecDepth 20000 in
theorem ggX3_cancel_X3_checkNotCancelled : GoodIn wsX3_cancel wsX3_checkNotCancelled := goodIn_ca (goodIn_r _ [36, 37, 38, 1, 118, 119, 120, 121, 122] (by decide +kernel) (by decide +kernel)) (goodIn_sub (fun _ h => List.mem_cons_of_mem _ (List.mem_append_right _ h)) (by decide +kernel))
set_option maxRecDepth 20000 in
theorem gX3_cancel_X3_checkNotCancelled : GoodIn wsX3_cancel (va_wsS RX3 105 yX3_checkNotCancelled wsX3_checkNotCancelled) := goodIn_app (goodIn_of _ (by decide +kernel)) ggX3_cancel_X3_checkNotCancelled
set_option maxRecDepth 20000 in
theorem ggX3_cancel_X3_payFor : GoodIn wsX3_cancel wsX3_payFor := goodIn_r _ [42, 43, 44, 45, 46, 47, 5, 48, 49, 50, 51, 52, 53, 54, 55, 56, 57, 58, 59, 60, 61, 62, 63, 64, 65, 66, 67, 68, 69, 70, 71, 72, 73, 74, 75, 76, 77, 78, 79, 80, 81, 82, 83, 84, 85, 86, 87, 88, 89, 90, 91, 92, 93, 94, 95, 96, 97, 11, 12, 13, 14, 15, 16, 17, 18, 19, 20, 21, 22, 23, 24, 25, 26, 27, 28, 29, 30, 31, 32, 33, 98, 99, 100, 101, 102, 103, 104, 105, 106, 107, 108, 109, 110, 111, 112, 113, 114, 115, 116, 117, 118, 119, 120, 121, 122, 131, 123, 124, 125, 126, 127, 132, 133, 134, 135, 136, 137, 138, 128, 129, 130] (by decide +kernel) (by decide +kernel)
set_option maxRecDepth 20000 in
theorem gX3_cancel_X3_payFor : GoodIn wsX3_cancel (wsV RX3 109 RX3 yX3_payFor wsX3_payFor) := goodIn_app (goodIn_of _ (by decide +kernel)) ggX3_cancel_X3_payFor
theorem dX3_cancel_0 : decode cX3_cancel 0 = .ok (.aload_n 0, 1) := by decide +kernel
theorem dX3_cancel_1 : decode cX3_cancel 1 = .ok (.iload_n 1, 1) := by decide +kernel
theorem dX3_cancel_2 : decode cX3_cancel 2 = .ok (.invokevirtual 101, 3) := by decide +kernel
theorem dX3_cancel_5 : decode cX3_cancel 5 = .ok (.astore_n 2, 1) := by decide +kernel
theorem dX3_cancel_6 : decode cX3_cancel 6 = .ok (.aload_n 2, 1) := by decide +kernel
theorem dX3_cancel_7 : decode cX3_cancel 7 = .ok (.invokestatic 105, 3) := by decide +kernel
theorem dX3_cancel_10 : decode cX3_cancel 10 = .ok (.aload_n 0, 1) := by decide +kernel
theorem dX3_cancel_11 : decode cX3_cancel 11 = .ok (.aload_n 2, 1) := by decide +kernel
theorem dX3_cancel_12 : decode cX3_cancel 12 = .ok (.invokevirtual 109, 3) := by decide +kernel
theorem dX3_cancel_15 : decode cX3_cancel 15 = .ok (.istore_n 3, 1) := by decide +kernel
theorem dX3_cancel_16 : decode cX3_cancel 16 = .ok (.aload_n 2, 1) := by decide +kernel
theorem dX3_cancel_17 : decode cX3_cancel 17 = .ok (.iconst 1, 1) := by decide +kernel
theorem dX3_cancel_18 : decode cX3_cancel 18 = .ok (.putfield 113, 3) := by decide +kernel
theorem dX3_cancel_21 : decode cX3_cancel 21 = .ok (.iload_n 3, 1) := by decide +kernel
theorem dX3_cancel_22 : decode cX3_cancel 22 = .ok (.ireturn, 1) := by decide +kernel
set_option maxRecDepth 20000 in
theorem ggX3_takeBreaks_X3_findShift : GoodIn wsX3_takeBreaks wsX3_findShift := goodIn_ca (goodIn_r _ [6, 7, 8, 9, 10, 11, 12, 13, 14, 15, 16, 17, 18, 19, 20, 21, 22, 23, 24, 25, 26, 27, 28, 29, 30, 31, 32, 33, 50, 51, 52, 53, 54, 55, 56, 57] (by decide +kernel) (by decide +kernel)) (goodIn_sub (fun _ h => List.mem_cons_of_mem _ (List.mem_append_left _ (List.mem_append_left _ (List.mem_append_right _ h)))) (by decide +kernel))
set_option maxRecDepth 20000 in
theorem gX3_takeBreaks_X3_findShift : GoodIn wsX3_takeBreaks (wsV RX3 101 RX3 yX3_findShift wsX3_findShift) := goodIn_app (goodIn_of _ (by decide +kernel)) ggX3_takeBreaks_X3_findShift
set_option maxRecDepth 20000 in
theorem ggX3_takeBreaks_X3_checkArgument : GoodIn wsX3_takeBreaks wsX3_checkArgument := goodIn_ca (goodIn_r _ [36, 37, 38] (by decide +kernel) (by decide +kernel)) (goodIn_sub (fun _ h => List.mem_cons_of_mem _ (List.mem_append_left _ (List.mem_append_right _ h))) (by decide +kernel))
set_option maxRecDepth 20000 in
theorem gX3_takeBreaks_X3_checkArgument : GoodIn wsX3_takeBreaks (va_wsS RX3 43 yX3_checkArgument wsX3_checkArgument) := goodIn_app (goodIn_of _ (by decide +kernel)) ggX3_takeBreaks_X3_checkArgument
set_option maxRecDepth 20000 in
theorem ggX3_takeBreaks_X3_checkNotCancelled : GoodIn wsX3_takeBreaks wsX3_checkNotCancelled := goodIn_ca (goodIn_r _ [41, 42, 43, 44, 45, 46, 47, 48, 49] (by decide +kernel) (by decide +kernel)) (goodIn_sub (fun _ h => List.mem_cons_of_mem _ (List.mem_append_right _ h)) (by decide +kernel))
set_option maxRecDepth 20000 in
theorem gX3_takeBreaks_X3_checkNotCancelled : GoodIn wsX3_takeBreaks (va_wsS RX3 105 yX3_checkNotCancelled wsX3_checkNotCancelled) := goodIn_app (goodIn_of _ (by decide +kernel)) ggX3_takeBreaks_X3_checkNotCancelled
theorem dX3_takeBreaks_0 : decode cX3_takeBreaks 0 = .ok (.aload_n 0, 1) := by decide +kernel
theorem dX3_takeBreaks_1 : decode cX3_takeBreaks 1 = .ok (.iload_n 1, 1) := by decide +kernel
theorem dX3_takeBreaks_2 : decode cX3_takeBreaks 2 = .ok (.invokevirtual 101, 3) := by decide +kernel
theorem dX3_takeBreaks_5 : decode cX3_takeBreaks 5 = .ok (.astore_n 3, 1) := by decide +kernel
theorem dX3_takeBreaks_6 : decode cX3_takeBreaks 6 = .ok (.iload_n 2, 1) := by decide +kernel
theorem dX3_takeBreaks_7 : decode cX3_takeBreaks 7 = .ok (.iconst 0, 1) := by decide +kernel
theorem dX3_takeBreaks_8 : decode cX3_takeBreaks 8 = .ok (.iconst 5, 1) := by decide +kernel
theorem dX3_takeBreaks_9 : decode cX3_takeBreaks 9 = .ok (.invokestatic 43, 3) := by decide +kernel
theorem dX3_takeBreaks_12 : decode cX3_takeBreaks 12 = .ok (.aload_n 3, 1) := by decide +kernel
theorem dX3_takeBreaks_13 : decode cX3_takeBreaks 13 = .ok (.invokestatic 105, 3) := by decide +kernel
theorem dX3_takeBreaks_16 : decode cX3_takeBreaks 16 = .ok (.aload_n 3, 1) := by decide +kernel
theorem dX3_takeBreaks_17 : decode cX3_takeBreaks 17 = .ok (.getfield 116, 3) := by decide +kernel
theorem dX3_takeBreaks_20 : decode cX3_takeBreaks 20 = .ok (.istore 4, 2) := by decide +kernel
theorem dX3_takeBreaks_22 : decode cX3_takeBreaks 22 = .ok (.aload_n 3, 1) := by decide +kernel
theorem dX3_takeBreaks_23 : decode cX3_takeBreaks 23 = .ok (.iload_n 2, 1) := by decide +kernel
theorem dX3_takeBreaks_24 : decode cX3_takeBreaks 24 = .ok (.putfield 116, 3) := by decide +kernel
theorem dX3_takeBreaks_27 : decode cX3_takeBreaks 27 = .ok (.iload 4, 2) := by decide +kernel
theorem dX3_takeBreaks_29 : decode cX3_takeBreaks 29 = .ok (.ireturn, 1) := by decide +kernel
set_option maxRecDepth 20000 in
theorem ggX3_shifts_Jx4a65c_size_8abf5 : GoodIn wsX3_shifts wsJx4a65c_size_8abf5 := goodIn_r _ [6, 7, 13, 14, 15] (by decide +kernel) (by decide +kernel)
set_option maxRecDepth 20000 in
theorem gX3_shifts_Jx4a65c_size_8abf5 : GoodIn wsX3_shifts (wsV RX3 47 RJx4a65c yJx4a65c_size_8abf5 wsJx4a65c_size_8abf5) := goodIn_app (goodIn_of _ (by decide +kernel)) ggX3_shifts_Jx4a65c_size_8abf5
theorem dX3_shifts_0 : decode cX3_shifts 0 = .ok (.aload_n 0, 1) := by decide +kernel
theorem dX3_shifts_1 : decode cX3_shifts 1 = .ok (.getfield 33, 3) := by decide +kernel
theorem dX3_shifts_4 : decode cX3_shifts 4 = .ok (.invokevirtual 47, 3) := by decide +kernel
theorem dX3_shifts_7 : decode cX3_shifts 7 = .ok (.ireturn, 1) := by decide +kernel
set_option maxRecDepth 20000 in
theorem ggX3_paidQuarters_X3_findShift : GoodIn wsX3_paidQuarters wsX3_findShift := goodIn_ca (goodIn_r _ [5, 6, 7, 8, 9, 10, 11, 12, 13, 14, 15, 16, 17, 18, 19, 20, 21, 22, 23, 24, 25, 26, 27, 28, 29, 30, 31, 32, 44, 45, 46, 47, 48, 49, 50, 51] (by decide +kernel) (by decide +kernel)) (goodIn_sub (fun _ h => List.mem_cons_of_mem _ (List.mem_append_right _ h)) (by decide +kernel))
set_option maxRecDepth 20000 in
theorem gX3_paidQuarters_X3_findShift : GoodIn wsX3_paidQuarters (wsV RX3 101 RX3 yX3_findShift wsX3_findShift) := goodIn_app (goodIn_of _ (by decide +kernel)) ggX3_paidQuarters_X3_findShift
set_option maxRecDepth 20000 in
theorem ggX3_paidQuarters_X1_paidLength : GoodIn wsX3_paidQuarters wsX1_paidLength := goodIn_r _ [37, 38, 39, 40, 41, 42, 43, 52, 53, 54, 55, 56] (by decide +kernel) (by decide +kernel)
set_option maxRecDepth 20000 in
theorem gX3_paidQuarters_X1_paidLength : GoodIn wsX3_paidQuarters (wsV RX3 119 RX1 yX1_paidLength wsX1_paidLength) := goodIn_app (goodIn_of _ (by decide +kernel)) ggX3_paidQuarters_X1_paidLength
theorem dX3_paidQuarters_0 : decode cX3_paidQuarters 0 = .ok (.aload_n 0, 1) := by decide +kernel
theorem dX3_paidQuarters_1 : decode cX3_paidQuarters 1 = .ok (.iload_n 1, 1) := by decide +kernel
theorem dX3_paidQuarters_2 : decode cX3_paidQuarters 2 = .ok (.invokevirtual 101, 3) := by decide +kernel
theorem dX3_paidQuarters_5 : decode cX3_paidQuarters 5 = .ok (.invokevirtual 119, 3) := by decide +kernel
theorem dX3_paidQuarters_8 : decode cX3_paidQuarters 8 = .ok (.ireturn, 1) := by decide +kernel
set_option maxRecDepth 20000 in
theorem ggX3_percentAt_X3_findShift : GoodIn wsX3_percentAt wsX3_findShift := goodIn_ca (goodIn_r _ [5, 6, 7, 8, 9, 10, 11, 12, 13, 14, 15, 16, 17, 18, 19, 20, 21, 22, 23, 24, 25, 26, 27, 28, 29, 30, 31, 32, 94, 95, 96, 97, 98, 99, 100, 101] (by decide +kernel) (by decide +kernel)) (goodIn_sub (fun _ h => List.mem_cons_of_mem _ (List.mem_append_right _ h)) (by decide +kernel))
set_option maxRecDepth 20000 in
theorem gX3_percentAt_X3_findShift : GoodIn wsX3_percentAt (wsV RX3 101 RX3 yX3_findShift wsX3_findShift) := goodIn_app (goodIn_of _ (by decide +kernel)) ggX3_percentAt_X3_findShift
set_option maxRecDepth 20000 in
theorem ggX3_percentAt_X3_checkPaidQuarter : GoodIn wsX3_percentAt wsX3_checkPaidQuarter := goodIn_ca (goodIn_r _ [35, 6, 7, 36, 37, 38, 39, 40, 41, 42, 43, 44, 45, 46, 102, 103, 104, 105, 106] (by decide +kernel) (by decide +kernel)) (goodIn_sub (fun _ h => List.mem_cons_of_mem _ (List.mem_append_right _ h)) (by decide +kernel))
set_option maxRecDepth 20000 in
theorem gX3_percentAt_X3_checkPaidQuarter : GoodIn wsX3_percentAt (va_wsS RX3 122 yX3_checkPaidQuarter wsX3_checkPaidQuarter) := goodIn_app (goodIn_of _ (by decide +kernel)) ggX3_percentAt_X3_checkPaidQuarter
set_option maxRecDepth 20000 in
theorem ggX3_percentAt_X3_percentOf : GoodIn wsX3_percentAt wsX3_percentOf := goodIn_r _ [50, 51, 52, 53, 54, 4, 55, 56, 57, 58, 59, 60, 61, 62, 39, 63, 64, 65, 66, 67, 68, 69, 70, 71, 72, 73, 74, 75, 76, 10, 11, 12, 13, 14, 15, 16, 17, 18, 19, 20, 21, 22, 23, 24, 25, 26, 27, 28, 29, 30, 31, 32, 77, 78, 79, 80, 81, 82, 83, 84, 85, 86, 87, 88, 89, 90, 91, 92, 93, 107, 108, 109, 110, 111, 112, 113, 94, 95, 96, 97, 98, 102, 103, 104, 105, 106, 114, 99, 100, 101] (by decide +kernel) (by decide +kernel)
set_option maxRecDepth 20000 in
theorem gX3_percentAt_X3_percentOf : GoodIn wsX3_percentAt (wsV RX3 126 RX3 yX3_percentOf wsX3_percentOf) := goodIn_app (goodIn_of _ (by decide +kernel)) ggX3_percentAt_X3_percentOf
theorem dX3_percentAt_0 : decode cX3_percentAt 0 = .ok (.aload_n 0, 1) := by decide +kernel
theorem dX3_percentAt_1 : decode cX3_percentAt 1 = .ok (.iload_n 1, 1) := by decide +kernel
theorem dX3_percentAt_2 : decode cX3_percentAt 2 = .ok (.invokevirtual 101, 3) := by decide +kernel
theorem dX3_percentAt_5 : decode cX3_percentAt 5 = .ok (.astore_n 3, 1) := by decide +kernel
theorem dX3_percentAt_6 : decode cX3_percentAt 6 = .ok (.aload_n 3, 1) := by decide +kernel
theorem dX3_percentAt_7 : decode cX3_percentAt 7 = .ok (.iload_n 2, 1) := by decide +kernel
theorem dX3_percentAt_8 : decode cX3_percentAt 8 = .ok (.invokestatic 122, 3) := by decide +kernel
theorem dX3_percentAt_11 : decode cX3_percentAt 11 = .ok (.aload_n 0, 1) := by decide +kernel
theorem dX3_percentAt_12 : decode cX3_percentAt 12 = .ok (.aload_n 3, 1) := by decide +kernel
theorem dX3_percentAt_13 : decode cX3_percentAt 13 = .ok (.iload_n 2, 1) := by decide +kernel
theorem dX3_percentAt_14 : decode cX3_percentAt 14 = .ok (.invokevirtual 126, 3) := by decide +kernel
theorem dX3_percentAt_17 : decode cX3_percentAt 17 = .ok (.ireturn, 1) := by decide +kernel
set_option maxRecDepth 20000 in
theorem ggX3_reasonAt_X3_findShift : GoodIn wsX3_reasonAt wsX3_findShift := goodIn_ca (goodIn_r _ [6, 7, 8, 9, 10, 11, 12, 13, 14, 15, 16, 17, 18, 19, 20, 21, 22, 23, 24, 25, 26, 27, 28, 29, 30, 31, 32, 33, 98, 99, 100, 101, 102, 103, 104, 105] (by decide +kernel) (by decide +kernel)) (goodIn_sub (fun _ h => List.mem_cons_of_mem _ (List.mem_append_right _ h)) (by decide +kernel))
set_option maxRecDepth 20000 in
theorem gX3_reasonAt_X3_findShift : GoodIn wsX3_reasonAt (wsV RX3 101 RX3 yX3_findShift wsX3_findShift) := goodIn_app (goodIn_of _ (by decide +kernel)) ggX3_reasonAt_X3_findShift
set_option maxRecDepth 20000 in
theorem ggX3_reasonAt_X3_checkPaidQuarter : GoodIn wsX3_reasonAt wsX3_checkPaidQuarter := goodIn_ca (goodIn_r _ [36, 7, 8, 37, 38, 39, 40, 41, 42, 43, 44, 45, 46, 47, 106, 107, 108, 109, 110] (by decide +kernel) (by decide +kernel)) (goodIn_sub (fun _ h => List.mem_cons_of_mem _ (List.mem_append_right _ h)) (by decide +kernel))
set_option maxRecDepth 20000 in
theorem gX3_reasonAt_X3_checkPaidQuarter : GoodIn wsX3_reasonAt (va_wsS RX3 122 yX3_checkPaidQuarter wsX3_checkPaidQuarter) := goodIn_app (goodIn_of _ (by decide +kernel)) ggX3_reasonAt_X3_checkPaidQuarter
set_option maxRecDepth 20000 in
theorem ggX3_reasonAt_X3_decidingRule : GoodIn wsX3_reasonAt wsX3_decidingRule := goodIn_r _ [51, 52, 53, 54, 55, 56, 57, 58, 59, 40, 60, 61, 62, 63, 64, 65, 66, 67, 68, 5, 69, 70, 71, 72, 73, 11, 12, 13, 14, 15, 16, 17, 18, 19, 20, 21, 22, 23, 24, 25, 26, 27, 28, 29, 30, 31, 32, 33, 74, 75, 76, 77, 78, 79, 80, 81, 82, 83, 84, 85, 86, 87, 88, 89, 90, 98, 99, 100, 101, 102, 91, 92, 93, 94, 95, 96, 97, 106, 107, 108, 109, 110, 111, 103, 104, 105] (by decide +kernel) (by decide +kernel)
set_option maxRecDepth 20000 in
theorem gX3_reasonAt_X3_decidingRule : GoodIn wsX3_reasonAt (wsV RX3 130 RX3 yX3_decidingRule wsX3_decidingRule) := goodIn_app (goodIn_of _ (by decide +kernel)) ggX3_reasonAt_X3_decidingRule
theorem dX3_reasonAt_0 : decode cX3_reasonAt 0 = .ok (.aload_n 0, 1) := by decide +kernel
theorem dX3_reasonAt_1 : decode cX3_reasonAt 1 = .ok (.iload_n 1, 1) := by decide +kernel
theorem dX3_reasonAt_2 : decode cX3_reasonAt 2 = .ok (.invokevirtual 101, 3) := by decide +kernel
theorem dX3_reasonAt_5 : decode cX3_reasonAt 5 = .ok (.astore_n 3, 1) := by decide +kernel
theorem dX3_reasonAt_6 : decode cX3_reasonAt 6 = .ok (.aload_n 3, 1) := by decide +kernel
theorem dX3_reasonAt_7 : decode cX3_reasonAt 7 = .ok (.iload_n 2, 1) := by decide +kernel
theorem dX3_reasonAt_8 : decode cX3_reasonAt 8 = .ok (.invokestatic 122, 3) := by decide +kernel
theorem dX3_reasonAt_11 : decode cX3_reasonAt 11 = .ok (.aload_n 0, 1) := by decide +kernel
theorem dX3_reasonAt_12 : decode cX3_reasonAt 12 = .ok (.aload_n 3, 1) := by decide +kernel
theorem dX3_reasonAt_13 : decode cX3_reasonAt 13 = .ok (.iload_n 2, 1) := by decide +kernel
theorem dX3_reasonAt_14 : decode cX3_reasonAt 14 = .ok (.invokevirtual 130, 3) := by decide +kernel
theorem dX3_reasonAt_17 : decode cX3_reasonAt 17 = .ok (.astore 4, 2) := by decide +kernel
theorem dX3_reasonAt_19 : decode cX3_reasonAt 19 = .ok (.aload 4, 2) := by decide +kernel
theorem dX3_reasonAt_21 : decode cX3_reasonAt 21 = .ok (.ifnull 9, 3) := by decide +kernel
theorem dX3_reasonAt_24 : decode cX3_reasonAt 24 = .ok (.aload 4, 2) := by decide +kernel
theorem dX3_reasonAt_26 : decode cX3_reasonAt 26 = .ok (.getfield 134, 3) := by decide +kernel
theorem dX3_reasonAt_29 : decode cX3_reasonAt 29 = .ok (.ireturn, 1) := by decide +kernel
theorem dX3_reasonAt_30 : decode cX3_reasonAt 30 = .ok (.iload_n 2, 1) := by decide +kernel
theorem dX3_reasonAt_31 : decode cX3_reasonAt 31 = .ok (.bipush 32, 2) := by decide +kernel
theorem dX3_reasonAt_33 : decode cX3_reasonAt 33 = .ok (.if_icmp .lt 8, 3) := by decide +kernel
theorem dX3_reasonAt_36 : decode cX3_reasonAt 36 = .ok (.bipush (-2), 2) := by decide +kernel
theorem dX3_reasonAt_38 : decode cX3_reasonAt 38 = .ok (.goto 4, 3) := by decide +kernel
theorem dX3_reasonAt_41 : decode cX3_reasonAt 41 = .ok (.iconst (-1), 1) := by decide +kernel
theorem dX3_reasonAt_42 : decode cX3_reasonAt 42 = .ok (.ireturn, 1) := by decide +kernel
set_option maxRecDepth 20000 in
theorem ggX3_missed_X3_findShift : GoodIn wsX3_missed wsX3_findShift := goodIn_ca (goodIn_r _ [5, 6, 7, 8, 9, 10, 11, 12, 13, 14, 15, 16, 17, 18, 19, 20, 21, 22, 23, 24, 25, 26, 27, 28, 29, 30, 31, 32, 49, 50, 51, 52, 53, 54, 55, 56] (by decide +kernel) (by decide +kernel)) (goodIn_sub (fun _ h => List.mem_cons_of_mem _ (List.mem_append_right _ h)) (by decide +kernel))
set_option maxRecDepth 20000 in
theorem gX3_missed_X3_findShift : GoodIn wsX3_missed (wsV RX3 101 RX3 yX3_findShift wsX3_findShift) := goodIn_app (goodIn_of _ (by decide +kernel)) ggX3_missed_X3_findShift
set_option maxRecDepth 20000 in
theorem ggX3_missed_X1_breaksMissed : GoodIn wsX3_missed wsX1_breaksMissed := goodIn_r _ [37, 38, 39, 40, 41, 42, 43, 44, 45, 46, 36, 47, 48, 57, 58, 59, 60, 61] (by decide +kernel) (by decide +kernel)
set_option maxRecDepth 20000 in
theorem gX3_missed_X1_breaksMissed : GoodIn wsX3_missed (wsV RX3 137 RX1 yX1_breaksMissed wsX1_breaksMissed) := goodIn_app (goodIn_of _ (by decide +kernel)) ggX3_missed_X1_breaksMissed
theorem dX3_missed_0 : decode cX3_missed 0 = .ok (.aload_n 0, 1) := by decide +kernel
theorem dX3_missed_1 : decode cX3_missed 1 = .ok (.iload_n 1, 1) := by decide +kernel
theorem dX3_missed_2 : decode cX3_missed 2 = .ok (.invokevirtual 101, 3) := by decide +kernel
theorem dX3_missed_5 : decode cX3_missed 5 = .ok (.invokevirtual 137, 3) := by decide +kernel
theorem dX3_missed_8 : decode cX3_missed 8 = .ok (.ireturn, 1) := by decide +kernel
set_option maxRecDepth 20000 in
theorem ggX3_pay_X3_findShift : GoodIn wsX3_pay wsX3_findShift := goodIn_ca (goodIn_r _ [5, 6, 7, 8, 9, 10, 11, 12, 13, 14, 15, 16, 17, 18, 19, 20, 21, 22, 23, 24, 25, 26, 27, 28, 29, 30, 31, 32, 112, 113, 114, 115, 116, 117, 118, 119] (by decide +kernel) (by decide +kernel)) (goodIn_sub (fun _ h => List.mem_cons_of_mem _ (List.mem_append_right _ h)) (by decide +kernel))
set_option maxRecDepth 20000 in
theorem gX3_pay_X3_findShift : GoodIn wsX3_pay (wsV RX3 101 RX3 yX3_findShift wsX3_findShift) := goodIn_app (goodIn_of _ (by decide +kernel)) ggX3_pay_X3_findShift
set_option maxRecDepth 20000 in
theorem ggX3_pay_X3_payFor : GoodIn wsX3_pay wsX3_payFor := goodIn_r _ [36, 37, 38, 39, 40, 41, 4, 42, 43, 44, 45, 46, 47, 48, 49, 50, 51, 52, 53, 54, 55, 56, 57, 58, 59, 60, 61, 62, 63, 64, 65, 66, 67, 68, 69, 70, 71, 72, 73, 74, 75, 76, 77, 78, 79, 80, 81, 82, 83, 84, 85, 86, 87, 88, 89, 90, 91, 10, 11, 12, 13, 14, 15, 16, 17, 18, 19, 20, 21, 22, 23, 24, 25, 26, 27, 28, 29, 30, 31, 32, 92, 93, 94, 95, 96, 97, 98, 99, 100, 101, 102, 103, 104, 105, 106, 107, 108, 109, 110, 111, 120, 121, 122, 123, 124, 125, 112, 113, 114, 115, 116, 126, 127, 128, 129, 130, 131, 132, 117, 118, 119] (by decide +kernel) (by decide +kernel)
set_option maxRecDepth 20000 in
theorem gX3_pay_X3_payFor : GoodIn wsX3_pay (wsV RX3 109 RX3 yX3_payFor wsX3_payFor) := goodIn_app (goodIn_of _ (by decide +kernel)) ggX3_pay_X3_payFor
theorem dX3_pay_0 : decode cX3_pay 0 = .ok (.aload_n 0, 1) := by decide +kernel
theorem dX3_pay_1 : decode cX3_pay 1 = .ok (.aload_n 0, 1) := by decide +kernel
theorem dX3_pay_2 : decode cX3_pay 2 = .ok (.iload_n 1, 1) := by decide +kernel
theorem dX3_pay_3 : decode cX3_pay 3 = .ok (.invokevirtual 101, 3) := by decide +kernel
theorem dX3_pay_6 : decode cX3_pay 6 = .ok (.invokevirtual 109, 3) := by decide +kernel
theorem dX3_pay_9 : decode cX3_pay 9 = .ok (.ireturn, 1) := by decide +kernel
set_option maxRecDepth 20000 in
theorem ggX3_payOf_X3_findWorker : GoodIn wsX3_payOf wsX3_findWorker := goodIn_ca (goodIn_r _ [8, 9, 10, 11, 12, 13, 14, 15, 16, 17, 18, 19, 20, 21, 22, 23, 24, 25, 26, 27, 28, 29, 30, 31, 32, 33, 34, 35, 119, 120, 121, 122, 123, 129, 130, 131] (by decide +kernel) (by decide +kernel)) (goodIn_sub (fun _ h => List.mem_cons_of_mem _ (List.mem_append_left _ (List.mem_append_right _ h))) (by decide +kernel))
set_option maxRecDepth 20000 in
theorem gX3_payOf_X3_findWorker : GoodIn wsX3_payOf (wsV RX3 82 RX3 yX3_findWorker wsX3_findWorker) := goodIn_app (goodIn_of _ (by decide +kernel)) ggX3_payOf_X3_findWorker
set_option maxRecDepth 20000 in
theorem ggX3_payOf_X3_checkArgument : GoodIn wsX3_payOf wsX3_checkArgument := goodIn_ca (goodIn_r _ [38, 39, 40] (by decide +kernel) (by decide +kernel)) (goodIn_sub (fun _ h => List.mem_cons_of_mem _ (List.mem_append_right _ h)) (by decide +kernel))
set_option maxRecDepth 20000 in
theorem gX3_payOf_X3_checkArgument : GoodIn wsX3_payOf (va_wsS RX3 43 yX3_checkArgument wsX3_checkArgument) := goodIn_app (goodIn_of _ (by decide +kernel)) ggX3_payOf_X3_checkArgument
set_option maxRecDepth 20000 in
theorem ggX3_payOf_Jx4a65c_size_8abf5 : GoodIn wsX3_payOf wsJx4a65c_size_8abf5 := goodIn_r _ [17, 18, 129, 130, 131] (by decide +kernel) (by decide +kernel)
set_option maxRecDepth 20000 in
theorem gX3_payOf_Jx4a65c_size_8abf5 : GoodIn wsX3_payOf (wsV RX3 47 RJx4a65c yJx4a65c_size_8abf5 wsJx4a65c_size_8abf5) := goodIn_app (goodIn_of _ (by decide +kernel)) ggX3_payOf_Jx4a65c_size_8abf5
set_option maxRecDepth 20000 in
theorem ggX3_payOf_Jx4a65c_get_915e3 : GoodIn wsX3_payOf wsJx4a65c_get_915e3 := goodIn_r _ [22, 18, 23, 24, 25, 26, 27, 28, 29, 30, 31, 32, 33, 16, 34, 35, 129, 130, 131] (by decide +kernel) (by decide +kernel)
set_option maxRecDepth 20000 in
theorem gX3_payOf_Jx4a65c_get_915e3 : GoodIn wsX3_payOf (wsV RX3 140 RJx4a65c yJx4a65c_get_915e3 wsJx4a65c_get_915e3) := goodIn_app (goodIn_of _ (by decide +kernel)) ggX3_payOf_Jx4a65c_get_915e3
set_option maxRecDepth 20000 in
theorem ggX3_payOf_X1_dayOf : GoodIn wsX3_payOf wsX1_dayOf := goodIn_r _ [45, 46, 124, 125, 126, 127, 128] (by decide +kernel) (by decide +kernel)
set_option maxRecDepth 20000 in
theorem gX3_payOf_X1_dayOf : GoodIn wsX3_payOf (wsV RX3 144 RX1 yX1_dayOf wsX1_dayOf) := goodIn_app (goodIn_of _ (by decide +kernel)) ggX3_payOf_X1_dayOf
set_option maxRecDepth 20000 in
theorem ggX3_payOf_X3_payFor : GoodIn wsX3_payOf wsX3_payFor := goodIn_r _ [50, 3, 51, 52, 53, 54, 7, 55, 56, 57, 58, 59, 44, 60, 61, 62, 63, 64, 65, 66, 67, 68, 69, 70, 71, 72, 73, 74, 75, 76, 77, 78, 79, 80, 81, 82, 83, 84, 85, 86, 41, 42, 43, 45, 46, 87, 88, 89, 90, 91, 92, 93, 94, 95, 96, 97, 98, 13, 14, 15, 16, 17, 18, 19, 20, 21, 22, 23, 24, 25, 26, 27, 28, 29, 30, 31, 32, 33, 34, 35, 99, 100, 101, 102, 103, 104, 105, 106, 107, 108, 109, 110, 111, 112, 113, 114, 115, 116, 117, 118, 124, 125, 126, 127, 128, 132, 119, 120, 121, 122, 123, 133, 134, 135, 136, 137, 138, 139, 129, 130, 131] (by decide +kernel) (by decide +kernel)
set_option maxRecDepth 20000 in
theorem gX3_payOf_X3_payFor : GoodIn wsX3_payOf (wsV RX3 109 RX3 yX3_payFor wsX3_payFor) := goodIn_app (goodIn_of _ (by decide +kernel)) ggX3_payOf_X3_payFor
theorem dX3_payOf_0 : decode cX3_payOf 0 = .ok (.aload_n 0, 1) := by decide +kernel
theorem dX3_payOf_1 : decode cX3_payOf 1 = .ok (.iload_n 1, 1) := by decide +kernel
theorem dX3_payOf_2 : decode cX3_payOf 2 = .ok (.invokevirtual 82, 3) := by decide +kernel
theorem dX3_payOf_5 : decode cX3_payOf 5 = .ok (.astore 4, 2) := by decide +kernel
theorem dX3_payOf_7 : decode cX3_payOf 7 = .ok (.iload_n 2, 1) := by decide +kernel
theorem dX3_payOf_8 : decode cX3_payOf 8 = .ok (.iconst 0, 1) := by decide +kernel
theorem dX3_payOf_9 : decode cX3_payOf 9 = .ok (.sipush 363, 3) := by decide +kernel
theorem dX3_payOf_12 : decode cX3_payOf 12 = .ok (.invokestatic 43, 3) := by decide +kernel
theorem dX3_payOf_15 : decode cX3_payOf 15 = .ok (.iload_n 3, 1) := by decide +kernel
theorem dX3_payOf_16 : decode cX3_payOf 16 = .ok (.iload_n 2, 1) := by decide +kernel
theorem dX3_payOf_17 : decode cX3_payOf 17 = .ok (.sipush 363, 3) := by decide +kernel
theorem dX3_payOf_20 : decode cX3_payOf 20 = .ok (.invokestatic 43, 3) := by decide +kernel
theorem dX3_payOf_23 : decode cX3_payOf 23 = .ok (.iconst 0, 1) := by decide +kernel
theorem dX3_payOf_24 : decode cX3_payOf 24 = .ok (.istore 5, 2) := by decide +kernel
theorem dX3_payOf_26 : decode cX3_payOf 26 = .ok (.iconst 0, 1) := by decide +kernel
theorem dX3_payOf_27 : decode cX3_payOf 27 = .ok (.istore 6, 2) := by decide +kernel
theorem dX3_payOf_29 : decode cX3_payOf 29 = .ok (.iload 6, 2) := by decide +kernel
theorem dX3_payOf_31 : decode cX3_payOf 31 = .ok (.aload_n 0, 1) := by decide +kernel
theorem dX3_payOf_32 : decode cX3_payOf 32 = .ok (.getfield 33, 3) := by decide +kernel
theorem dX3_payOf_35 : decode cX3_payOf 35 = .ok (.invokevirtual 47, 3) := by decide +kernel
theorem dX3_payOf_38 : decode cX3_payOf 38 = .ok (.if_icmp .ge 64, 3) := by decide +kernel
theorem dX3_payOf_41 : decode cX3_payOf 41 = .ok (.aload_n 0, 1) := by decide +kernel
theorem dX3_payOf_42 : decode cX3_payOf 42 = .ok (.getfield 33, 3) := by decide +kernel
theorem dX3_payOf_45 : decode cX3_payOf 45 = .ok (.iload 6, 2) := by decide +kernel
theorem dX3_payOf_47 : decode cX3_payOf 47 = .ok (.invokevirtual 140, 3) := by decide +kernel
theorem dX3_payOf_50 : decode cX3_payOf 50 = .ok (.checkcast 96, 3) := by decide +kernel
theorem dX3_payOf_53 : decode cX3_payOf 53 = .ok (.astore 7, 2) := by decide +kernel
theorem dX3_payOf_55 : decode cX3_payOf 55 = .ok (.aload 7, 2) := by decide +kernel
theorem dX3_payOf_57 : decode cX3_payOf 57 = .ok (.iconst 0, 1) := by decide +kernel
theorem dX3_payOf_58 : decode cX3_payOf 58 = .ok (.invokevirtual 144, 3) := by decide +kernel
theorem dX3_payOf_61 : decode cX3_payOf 61 = .ok (.istore 8, 2) := by decide +kernel
theorem dX3_payOf_63 : decode cX3_payOf 63 = .ok (.aload 7, 2) := by decide +kernel
theorem dX3_payOf_65 : decode cX3_payOf 65 = .ok (.getfield 148, 3) := by decide +kernel
theorem dX3_payOf_68 : decode cX3_payOf 68 = .ok (.aload 4, 2) := by decide +kernel
theorem dX3_payOf_70 : decode cX3_payOf 70 = .ok (.if_acmp .ne 26, 3) := by decide +kernel
theorem dX3_payOf_73 : decode cX3_payOf 73 = .ok (.iload 8, 2) := by decide +kernel
theorem dX3_payOf_75 : decode cX3_payOf 75 = .ok (.iload_n 2, 1) := by decide +kernel
theorem dX3_payOf_76 : decode cX3_payOf 76 = .ok (.if_icmp .lt 20, 3) := by decide +kernel
theorem dX3_payOf_79 : decode cX3_payOf 79 = .ok (.iload 8, 2) := by decide +kernel
theorem dX3_payOf_81 : decode cX3_payOf 81 = .ok (.iload_n 3, 1) := by decide +kernel
theorem dX3_payOf_82 : decode cX3_payOf 82 = .ok (.if_icmp .gt 14, 3) := by decide +kernel
theorem dX3_payOf_85 : decode cX3_payOf 85 = .ok (.iload 5, 2) := by decide +kernel
theorem dX3_payOf_87 : decode cX3_payOf 87 = .ok (.aload_n 0, 1) := by decide +kernel
theorem dX3_payOf_88 : decode cX3_payOf 88 = .ok (.aload 7, 2) := by decide +kernel
theorem dX3_payOf_90 : decode cX3_payOf 90 = .ok (.invokevirtual 109, 3) := by decide +kernel
theorem dX3_payOf_93 : decode cX3_payOf 93 = .ok (.iadd, 1) := by decide +kernel
theorem dX3_payOf_94 : decode cX3_payOf 94 = .ok (.istore 5, 2) := by decide +kernel
theorem dX3_payOf_96 : decode cX3_payOf 96 = .ok (.iinc 6 1, 3) := by decide +kernel
theorem dX3_payOf_99 : decode cX3_payOf 99 = .ok (.goto (-70), 3) := by decide +kernel
theorem dX3_payOf_102 : decode cX3_payOf 102 = .ok (.iload 5, 2) := by decide +kernel
theorem dX3_payOf_104 : decode cX3_payOf 104 = .ok (.ireturn, 1) := by decide +kernel
set_option maxRecDepth 20000 in
theorem ggX3_paidBy_X3_findRule : GoodIn wsX3_paidBy wsX3_findRule := goodIn_ca (goodIn_r _ [7, 8, 9, 10, 11, 12, 13, 14, 15, 16, 17, 18, 19, 20, 21, 22, 23, 24, 25, 26, 27, 28, 29, 30, 31, 32, 33, 34, 100, 101, 102, 103, 104, 105, 106, 107] (by decide +kernel) (by decide +kernel)) (goodIn_sub (fun _ h => List.mem_cons_of_mem _ (List.mem_append_right _ h)) (by decide +kernel))
set_option maxRecDepth 20000 in
theorem gX3_paidBy_X3_findRule : GoodIn wsX3_paidBy (wsV RX3 65 RX3 yX3_findRule wsX3_findRule) := goodIn_app (goodIn_of _ (by decide +kernel)) ggX3_paidBy_X3_findRule
set_option maxRecDepth 20000 in
theorem ggX3_paidBy_Jx4a65c_size_8abf5 : GoodIn wsX3_paidBy wsJx4a65c_size_8abf5 := goodIn_r _ [16, 17, 105, 106, 107] (by decide +kernel) (by decide +kernel)
set_option maxRecDepth 20000 in
theorem gX3_paidBy_Jx4a65c_size_8abf5 : GoodIn wsX3_paidBy (wsV RX3 47 RJx4a65c yJx4a65c_size_8abf5 wsJx4a65c_size_8abf5) := goodIn_app (goodIn_of _ (by decide +kernel)) ggX3_paidBy_Jx4a65c_size_8abf5
set_option maxRecDepth 20000 in
theorem ggX3_paidBy_Jx4a65c_get_915e3 : GoodIn wsX3_paidBy wsJx4a65c_get_915e3 := goodIn_r _ [21, 17, 22, 23, 24, 25, 26, 27, 28, 29, 30, 31, 32, 15, 33, 34, 105, 106, 107] (by decide +kernel) (by decide +kernel)
set_option maxRecDepth 20000 in
theorem gX3_paidBy_Jx4a65c_get_915e3 : GoodIn wsX3_paidBy (wsV RX3 140 RJx4a65c yJx4a65c_get_915e3 wsJx4a65c_get_915e3) := goodIn_app (goodIn_of _ (by decide +kernel)) ggX3_paidBy_Jx4a65c_get_915e3
set_option maxRecDepth 20000 in
theorem ggX3_paidBy_X3_payByRule : GoodIn wsX3_paidBy wsX3_payByRule := goodIn_r _ [38, 39, 40, 41, 42, 43, 44, 45, 6, 46, 47, 48, 49, 50, 51, 52, 53, 54, 55, 56, 57, 58, 59, 60, 61, 62, 10, 11, 63, 64, 65, 66, 67, 68, 69, 70, 71, 72, 73, 74, 75, 76, 77, 78, 79, 12, 13, 14, 15, 16, 17, 18, 19, 20, 21, 22, 23, 24, 25, 26, 27, 28, 29, 30, 31, 32, 33, 34, 80, 81, 82, 83, 84, 85, 86, 87, 88, 89, 90, 91, 92, 93, 94, 95, 96, 97, 98, 99, 108, 109, 110, 111, 112, 113, 114, 115, 116, 117, 118, 119, 120, 100, 101, 102, 103, 104, 105, 106, 107] (by decide +kernel) (by decide +kernel)
set_option maxRecDepth 20000 in
theorem gX3_paidBy_X3_payByRule : GoodIn wsX3_paidBy (wsV RX3 152 RX3 yX3_payByRule wsX3_payByRule) := goodIn_app (goodIn_of _ (by decide +kernel)) ggX3_paidBy_X3_payByRule
theorem dX3_paidBy_0 : decode cX3_paidBy 0 = .ok (.aload_n 0, 1) := by decide +kernel
theorem dX3_paidBy_1 : decode cX3_paidBy 1 = .ok (.iload_n 1, 1) := by decide +kernel
theorem dX3_paidBy_2 : decode cX3_paidBy 2 = .ok (.invokevirtual 65, 3) := by decide +kernel
theorem dX3_paidBy_5 : decode cX3_paidBy 5 = .ok (.astore_n 2, 1) := by decide +kernel
theorem dX3_paidBy_6 : decode cX3_paidBy 6 = .ok (.iconst 0, 1) := by decide +kernel
theorem dX3_paidBy_7 : decode cX3_paidBy 7 = .ok (.istore_n 3, 1) := by decide +kernel
theorem dX3_paidBy_8 : decode cX3_paidBy 8 = .ok (.iconst 0, 1) := by decide +kernel
theorem dX3_paidBy_9 : decode cX3_paidBy 9 = .ok (.istore 4, 2) := by decide +kernel
theorem dX3_paidBy_11 : decode cX3_paidBy 11 = .ok (.iload 4, 2) := by decide +kernel
theorem dX3_paidBy_13 : decode cX3_paidBy 13 = .ok (.aload_n 0, 1) := by decide +kernel
theorem dX3_paidBy_14 : decode cX3_paidBy 14 = .ok (.getfield 33, 3) := by decide +kernel
theorem dX3_paidBy_17 : decode cX3_paidBy 17 = .ok (.invokevirtual 47, 3) := by decide +kernel
theorem dX3_paidBy_20 : decode cX3_paidBy 20 = .ok (.if_icmp .ge 29, 3) := by decide +kernel
theorem dX3_paidBy_23 : decode cX3_paidBy 23 = .ok (.iload_n 3, 1) := by decide +kernel
theorem dX3_paidBy_24 : decode cX3_paidBy 24 = .ok (.aload_n 0, 1) := by decide +kernel
theorem dX3_paidBy_25 : decode cX3_paidBy 25 = .ok (.aload_n 0, 1) := by decide +kernel
theorem dX3_paidBy_26 : decode cX3_paidBy 26 = .ok (.getfield 33, 3) := by decide +kernel
theorem dX3_paidBy_29 : decode cX3_paidBy 29 = .ok (.iload 4, 2) := by decide +kernel
theorem dX3_paidBy_31 : decode cX3_paidBy 31 = .ok (.invokevirtual 140, 3) := by decide +kernel
theorem dX3_paidBy_34 : decode cX3_paidBy 34 = .ok (.checkcast 96, 3) := by decide +kernel
theorem dX3_paidBy_37 : decode cX3_paidBy 37 = .ok (.aload_n 2, 1) := by decide +kernel
theorem dX3_paidBy_38 : decode cX3_paidBy 38 = .ok (.invokevirtual 152, 3) := by decide +kernel
theorem dX3_paidBy_41 : decode cX3_paidBy 41 = .ok (.iadd, 1) := by decide +kernel
theorem dX3_paidBy_42 : decode cX3_paidBy 42 = .ok (.istore_n 3, 1) := by decide +kernel
theorem dX3_paidBy_43 : decode cX3_paidBy 43 = .ok (.iinc 4 1, 3) := by decide +kernel
theorem dX3_paidBy_46 : decode cX3_paidBy 46 = .ok (.goto (-35), 3) := by decide +kernel
theorem dX3_paidBy_49 : decode cX3_paidBy 49 = .ok (.iload_n 3, 1) := by decide +kernel
theorem dX3_paidBy_50 : decode cX3_paidBy 50 = .ok (.ireturn, 1) := by decide +kernel
set_option maxRecDepth 20000 in
theorem ggX3_worked_X3_findWorker : GoodIn wsX3_worked wsX3_findWorker := goodIn_ca (goodIn_r _ [5, 6, 7, 8, 9, 10, 11, 12, 13, 14, 15, 16, 17, 18, 19, 20, 21, 22, 23, 24, 25, 26, 27, 28, 29, 30, 31, 32, 64, 65, 66, 67, 68, 69, 70, 71] (by decide +kernel) (by decide +kernel)) (goodIn_sub (fun _ h => List.mem_cons_of_mem _ (List.mem_append_left _ (List.mem_append_right _ h))) (by decide +kernel))
set_option maxRecDepth 20000 in
theorem gX3_worked_X3_findWorker : GoodIn wsX3_worked (wsV RX3 82 RX3 yX3_findWorker wsX3_findWorker) := goodIn_app (goodIn_of _ (by decide +kernel)) ggX3_worked_X3_findWorker
set_option maxRecDepth 20000 in
theorem ggX3_worked_X3_checkArgument : GoodIn wsX3_worked wsX3_checkArgument := goodIn_ca (goodIn_r _ [35, 36, 37] (by decide +kernel) (by decide +kernel)) (goodIn_sub (fun _ h => List.mem_cons_of_mem _ (List.mem_append_right _ h)) (by decide +kernel))
set_option maxRecDepth 20000 in
theorem gX3_worked_X3_checkArgument : GoodIn wsX3_worked (va_wsS RX3 43 yX3_checkArgument wsX3_checkArgument) := goodIn_app (goodIn_of _ (by decide +kernel)) ggX3_worked_X3_checkArgument
set_option maxRecDepth 20000 in
theorem ggX3_worked_X3_workedInWeeks : GoodIn wsX3_worked wsX3_workedInWeeks := goodIn_r _ [41, 42, 43, 44, 4, 45, 46, 47, 48, 49, 10, 11, 12, 13, 14, 15, 16, 17, 18, 19, 20, 21, 22, 23, 24, 25, 26, 27, 28, 29, 30, 31, 32, 50, 51, 52, 53, 54, 55, 56, 57, 58, 59, 60, 61, 62, 63, 64, 65, 66, 67, 68, 72, 73, 74, 75, 76, 69, 70, 71] (by decide +kernel) (by decide +kernel)
set_option maxRecDepth 20000 in
theorem gX3_worked_X3_workedInWeeks : GoodIn wsX3_worked (wsV RX3 156 RX3 yX3_workedInWeeks wsX3_workedInWeeks) := goodIn_app (goodIn_of _ (by decide +kernel)) ggX3_worked_X3_workedInWeeks
theorem dX3_worked_0 : decode cX3_worked 0 = .ok (.aload_n 0, 1) := by decide +kernel
theorem dX3_worked_1 : decode cX3_worked 1 = .ok (.iload_n 1, 1) := by decide +kernel
theorem dX3_worked_2 : decode cX3_worked 2 = .ok (.invokevirtual 82, 3) := by decide +kernel
theorem dX3_worked_5 : decode cX3_worked 5 = .ok (.astore_n 3, 1) := by decide +kernel
theorem dX3_worked_6 : decode cX3_worked 6 = .ok (.iload_n 2, 1) := by decide +kernel
theorem dX3_worked_7 : decode cX3_worked 7 = .ok (.iconst 0, 1) := by decide +kernel
theorem dX3_worked_8 : decode cX3_worked 8 = .ok (.bipush 51, 2) := by decide +kernel
theorem dX3_worked_10 : decode cX3_worked 10 = .ok (.invokestatic 43, 3) := by decide +kernel
theorem dX3_worked_13 : decode cX3_worked 13 = .ok (.aload_n 0, 1) := by decide +kernel
theorem dX3_worked_14 : decode cX3_worked 14 = .ok (.aload_n 3, 1) := by decide +kernel
theorem dX3_worked_15 : decode cX3_worked 15 = .ok (.iload_n 2, 1) := by decide +kernel
theorem dX3_worked_16 : decode cX3_worked 16 = .ok (.iconst 1, 1) := by decide +kernel
theorem dX3_worked_17 : decode cX3_worked 17 = .ok (.invokevirtual 156, 3) := by decide +kernel
theorem dX3_worked_20 : decode cX3_worked 20 = .ok (.ireturn, 1) := by decide +kernel
set_option maxRecDepth 20000 in
theorem ggX3_excess_X3_findWorker : GoodIn wsX3_excess wsX3_findWorker := goodIn_ca (goodIn_r _ [9, 10, 11, 12, 13, 14, 15, 16, 17, 18, 19, 20, 21, 22, 23, 24, 25, 26, 27, 28, 29, 30, 31, 32, 33, 34, 35, 36, 65, 66, 67, 68, 69, 70, 71, 72] (by decide +kernel) (by decide +kernel)) (goodIn_sub (fun _ h => List.mem_cons_of_mem _ (List.mem_append_left _ (List.mem_append_right _ h))) (by decide +kernel))
set_option maxRecDepth 20000 in
theorem gX3_excess_X3_findWorker : GoodIn wsX3_excess (wsV RX3 82 RX3 yX3_findWorker wsX3_findWorker) := goodIn_app (goodIn_of _ (by decide +kernel)) ggX3_excess_X3_findWorker
set_option maxRecDepth 20000 in
theorem ggX3_excess_X3_checkArgument : GoodIn wsX3_excess wsX3_checkArgument := goodIn_ca (goodIn_r _ [39, 40, 41] (by decide +kernel) (by decide +kernel)) (goodIn_sub (fun _ h => List.mem_cons_of_mem _ (List.mem_append_right _ h)) (by decide +kernel))
set_option maxRecDepth 20000 in
theorem gX3_excess_X3_checkArgument : GoodIn wsX3_excess (va_wsS RX3 43 yX3_checkArgument wsX3_checkArgument) := goodIn_app (goodIn_of _ (by decide +kernel)) ggX3_excess_X3_checkArgument
set_option maxRecDepth 20000 in
theorem ggX3_excess_X3_workedInWeeks : GoodIn wsX3_excess wsX3_workedInWeeks := goodIn_r _ [45, 46, 47, 48, 8, 49, 50, 51, 52, 53, 14, 15, 16, 17, 18, 19, 20, 21, 22, 23, 24, 25, 26, 27, 28, 29, 30, 31, 32, 33, 34, 35, 36, 54, 55, 56, 57, 58, 59, 60, 61, 62, 3, 63, 64, 2, 4, 65, 66, 67, 68, 69, 73, 74, 75, 76, 77, 70, 71, 72] (by decide +kernel) (by decide +kernel)
set_option maxRecDepth 20000 in
theorem gX3_excess_X3_workedInWeeks : GoodIn wsX3_excess (wsV RX3 156 RX3 yX3_workedInWeeks wsX3_workedInWeeks) := goodIn_app (goodIn_of _ (by decide +kernel)) ggX3_excess_X3_workedInWeeks
theorem dX3_excess_0 : decode cX3_excess 0 = .ok (.aload_n 0, 1) := by decide +kernel
theorem dX3_excess_1 : decode cX3_excess 1 = .ok (.iload_n 1, 1) := by decide +kernel
theorem dX3_excess_2 : decode cX3_excess 2 = .ok (.invokevirtual 82, 3) := by decide +kernel
theorem dX3_excess_5 : decode cX3_excess 5 = .ok (.astore_n 3, 1) := by decide +kernel
theorem dX3_excess_6 : decode cX3_excess 6 = .ok (.iload_n 2, 1) := by decide +kernel
theorem dX3_excess_7 : decode cX3_excess 7 = .ok (.iconst 0, 1) := by decide +kernel
theorem dX3_excess_8 : decode cX3_excess 8 = .ok (.bipush 12, 2) := by decide +kernel
theorem dX3_excess_10 : decode cX3_excess 10 = .ok (.invokestatic 43, 3) := by decide +kernel
theorem dX3_excess_13 : decode cX3_excess 13 = .ok (.aload_n 0, 1) := by decide +kernel
theorem dX3_excess_14 : decode cX3_excess 14 = .ok (.aload_n 3, 1) := by decide +kernel
theorem dX3_excess_15 : decode cX3_excess 15 = .ok (.iload_n 2, 1) := by decide +kernel
theorem dX3_excess_16 : decode cX3_excess 16 = .ok (.iconst 4, 1) := by decide +kernel
theorem dX3_excess_17 : decode cX3_excess 17 = .ok (.imul, 1) := by decide +kernel
theorem dX3_excess_18 : decode cX3_excess 18 = .ok (.iconst 4, 1) := by decide +kernel
theorem dX3_excess_19 : decode cX3_excess 19 = .ok (.invokevirtual 156, 3) := by decide +kernel
theorem dX3_excess_22 : decode cX3_excess 22 = .ok (.istore 4, 2) := by decide +kernel
theorem dX3_excess_24 : decode cX3_excess 24 = .ok (.iload 4, 2) := by decide +kernel
theorem dX3_excess_26 : decode cX3_excess 26 = .ok (.sipush 608, 3) := by decide +kernel
theorem dX3_excess_29 : decode cX3_excess 29 = .ok (.isub, 1) := by decide +kernel
theorem dX3_excess_30 : decode cX3_excess 30 = .ok (.iconst 0, 1) := by decide +kernel
theorem dX3_excess_31 : decode cX3_excess 31 = .ok (.invokestatic 160, 3) := by decide +kernel
theorem dX3_excess_34 : decode cX3_excess 34 = .ok (.ireturn, 1) := by decide +kernel
theorem dX3_checkArgument_0 : decode cX3_checkArgument 0 = .ok (.iload_n 0, 1) := by decide +kernel
theorem dX3_checkArgument_1 : decode cX3_checkArgument 1 = .ok (.iload_n 1, 1) := by decide +kernel
theorem dX3_checkArgument_2 : decode cX3_checkArgument 2 = .ok (.if_icmp .lt 8, 3) := by decide +kernel
theorem dX3_checkArgument_5 : decode cX3_checkArgument 5 = .ok (.iload_n 0, 1) := by decide +kernel
theorem dX3_checkArgument_6 : decode cX3_checkArgument 6 = .ok (.iload_n 2, 1) := by decide +kernel
theorem dX3_checkArgument_7 : decode cX3_checkArgument 7 = .ok (.if_icmp .le 13, 3) := by decide +kernel
theorem dX3_checkArgument_10 : decode cX3_checkArgument 10 = .ok (.new 36, 3) := by decide +kernel
theorem dX3_checkArgument_13 : decode cX3_checkArgument 13 = .ok (.dup, 1) := by decide +kernel
theorem dX3_checkArgument_14 : decode cX3_checkArgument 14 = .ok (.ldc 166, 2) := by decide +kernel
theorem dX3_checkArgument_16 : decode cX3_checkArgument 16 = .ok (.invokespecial 40, 3) := by decide +kernel
theorem dX3_checkArgument_19 : decode cX3_checkArgument 19 = .ok (.athrow, 1) := by decide +kernel
theorem dX3_checkArgument_20 : decode cX3_checkArgument 20 = .ok (.return_, 1) := by decide +kernel
theorem dX3_checkNotCancelled_0 : decode cX3_checkNotCancelled 0 = .ok (.aload_n 0, 1) := by decide +kernel
theorem dX3_checkNotCancelled_1 : decode cX3_checkNotCancelled 1 = .ok (.getfield 113, 3) := by decide +kernel
theorem dX3_checkNotCancelled_4 : decode cX3_checkNotCancelled 4 = .ok (.ifCond .eq 13, 3) := by decide +kernel
theorem dX3_checkNotCancelled_7 : decode cX3_checkNotCancelled 7 = .ok (.new 51, 3) := by decide +kernel
theorem dX3_checkNotCancelled_10 : decode cX3_checkNotCancelled 10 = .ok (.dup, 1) := by decide +kernel
theorem dX3_checkNotCancelled_11 : decode cX3_checkNotCancelled 11 = .ok (.ldc 168, 2) := by decide +kernel
theorem dX3_checkNotCancelled_13 : decode cX3_checkNotCancelled 13 = .ok (.invokespecial 55, 3) := by decide +kernel
theorem dX3_checkNotCancelled_16 : decode cX3_checkNotCancelled 16 = .ok (.athrow, 1) := by decide +kernel
theorem dX3_checkNotCancelled_17 : decode cX3_checkNotCancelled 17 = .ok (.return_, 1) := by decide +kernel
set_option maxRecDepth 20000 in
theorem ggX3_checkPaidQuarter_X1_paidLength : GoodIn wsX3_checkPaidQuarter wsX1_paidLength := goodIn_r _ [7, 8, 9, 10, 11, 12, 13, 14, 15, 16, 17, 18] (by decide +kernel) (by decide +kernel)
set_option maxRecDepth 20000 in
theorem gX3_checkPaidQuarter_X1_paidLength : GoodIn wsX3_checkPaidQuarter (wsV RX3 119 RX1 yX1_paidLength wsX1_paidLength) := goodIn_app (goodIn_of _ (by decide +kernel)) ggX3_checkPaidQuarter_X1_paidLength
theorem dX3_checkPaidQuarter_0 : decode cX3_checkPaidQuarter 0 = .ok (.iload_n 1, 1) := by decide +kernel
theorem dX3_checkPaidQuarter_1 : decode cX3_checkPaidQuarter 1 = .ok (.ifCond .lt 11, 3) := by decide +kernel
theorem dX3_checkPaidQuarter_4 : decode cX3_checkPaidQuarter 4 = .ok (.iload_n 1, 1) := by decide +kernel
theorem dX3_checkPaidQuarter_5 : decode cX3_checkPaidQuarter 5 = .ok (.aload_n 0, 1) := by decide +kernel
theorem dX3_checkPaidQuarter_6 : decode cX3_checkPaidQuarter 6 = .ok (.invokevirtual 119, 3) := by decide +kernel
theorem dX3_checkPaidQuarter_9 : decode cX3_checkPaidQuarter 9 = .ok (.if_icmp .lt 13, 3) := by decide +kernel
theorem dX3_checkPaidQuarter_12 : decode cX3_checkPaidQuarter 12 = .ok (.new 170, 3) := by decide +kernel
theorem dX3_checkPaidQuarter_15 : decode cX3_checkPaidQuarter 15 = .ok (.dup, 1) := by decide +kernel
theorem dX3_checkPaidQuarter_16 : decode cX3_checkPaidQuarter 16 = .ok (.ldc 172, 2) := by decide +kernel
theorem dX3_checkPaidQuarter_18 : decode cX3_checkPaidQuarter 18 = .ok (.invokespecial 174, 3) := by decide +kernel
theorem dX3_checkPaidQuarter_21 : decode cX3_checkPaidQuarter 21 = .ok (.athrow, 1) := by decide +kernel
theorem dX3_checkPaidQuarter_22 : decode cX3_checkPaidQuarter 22 = .ok (.return_, 1) := by decide +kernel
set_option maxRecDepth 20000 in
theorem ggX3_findRule_Jx4a65c_size_8abf5 : GoodIn wsX3_findRule wsJx4a65c_size_8abf5 := goodIn_r _ [9, 10, 33, 34, 35] (by decide +kernel) (by decide +kernel)
set_option maxRecDepth 20000 in
theorem gX3_findRule_Jx4a65c_size_8abf5 : GoodIn wsX3_findRule (wsV RX3 47 RJx4a65c yJx4a65c_size_8abf5 wsJx4a65c_size_8abf5) := goodIn_app (goodIn_of _ (by decide +kernel)) ggX3_findRule_Jx4a65c_size_8abf5
set_option maxRecDepth 20000 in
theorem ggX3_findRule_Jx4a65c_get_915e3 : GoodIn wsX3_findRule wsJx4a65c_get_915e3 := goodIn_r _ [14, 10, 15, 16, 17, 18, 19, 20, 21, 22, 23, 24, 25, 8, 26, 27, 33, 34, 35] (by decide +kernel) (by decide +kernel)
set_option maxRecDepth 20000 in
theorem gX3_findRule_Jx4a65c_get_915e3 : GoodIn wsX3_findRule (wsV RX3 140 RJx4a65c yJx4a65c_get_915e3 wsJx4a65c_get_915e3) := goodIn_app (goodIn_of _ (by decide +kernel)) ggX3_findRule_Jx4a65c_get_915e3
theorem dX3_findRule_0 : decode cX3_findRule 0 = .ok (.iload_n 1, 1) := by decide +kernel
theorem dX3_findRule_1 : decode cX3_findRule 1 = .ok (.ifCond .lt 14, 3) := by decide +kernel
theorem dX3_findRule_4 : decode cX3_findRule 4 = .ok (.iload_n 1, 1) := by decide +kernel
theorem dX3_findRule_5 : decode cX3_findRule 5 = .ok (.aload_n 0, 1) := by decide +kernel
theorem dX3_findRule_6 : decode cX3_findRule 6 = .ok (.getfield 26, 3) := by decide +kernel
theorem dX3_findRule_9 : decode cX3_findRule 9 = .ok (.invokevirtual 47, 3) := by decide +kernel
theorem dX3_findRule_12 : decode cX3_findRule 12 = .ok (.if_icmp .lt 13, 3) := by decide +kernel
theorem dX3_findRule_15 : decode cX3_findRule 15 = .ok (.new 170, 3) := by decide +kernel
theorem dX3_findRule_18 : decode cX3_findRule 18 = .ok (.dup, 1) := by decide +kernel
theorem dX3_findRule_19 : decode cX3_findRule 19 = .ok (.ldc 175, 2) := by decide +kernel
theorem dX3_findRule_21 : decode cX3_findRule 21 = .ok (.invokespecial 174, 3) := by decide +kernel
theorem dX3_findRule_24 : decode cX3_findRule 24 = .ok (.athrow, 1) := by decide +kernel
theorem dX3_findRule_25 : decode cX3_findRule 25 = .ok (.aload_n 0, 1) := by decide +kernel
theorem dX3_findRule_26 : decode cX3_findRule 26 = .ok (.getfield 26, 3) := by decide +kernel
theorem dX3_findRule_29 : decode cX3_findRule 29 = .ok (.iload_n 1, 1) := by decide +kernel
theorem dX3_findRule_30 : decode cX3_findRule 30 = .ok (.invokevirtual 140, 3) := by decide +kernel
theorem dX3_findRule_33 : decode cX3_findRule 33 = .ok (.checkcast 56, 3) := by decide +kernel
theorem dX3_findRule_36 : decode cX3_findRule 36 = .ok (.areturn, 1) := by decide +kernel
set_option maxRecDepth 20000 in
theorem ggX3_findWorker_Jx4a65c_size_8abf5 : GoodIn wsX3_findWorker wsJx4a65c_size_8abf5 := goodIn_r _ [9, 10, 33, 34, 35] (by decide +kernel) (by decide +kernel)
set_option maxRecDepth 20000 in
theorem gX3_findWorker_Jx4a65c_size_8abf5 : GoodIn wsX3_findWorker (wsV RX3 47 RJx4a65c yJx4a65c_size_8abf5 wsJx4a65c_size_8abf5) := goodIn_app (goodIn_of _ (by decide +kernel)) ggX3_findWorker_Jx4a65c_size_8abf5
set_option maxRecDepth 20000 in
theorem ggX3_findWorker_Jx4a65c_get_915e3 : GoodIn wsX3_findWorker wsJx4a65c_get_915e3 := goodIn_r _ [14, 10, 15, 16, 17, 18, 19, 20, 21, 22, 23, 24, 25, 8, 26, 27, 33, 34, 35] (by decide +kernel) (by decide +kernel)
set_option maxRecDepth 20000 in
theorem gX3_findWorker_Jx4a65c_get_915e3 : GoodIn wsX3_findWorker (wsV RX3 140 RJx4a65c yJx4a65c_get_915e3 wsJx4a65c_get_915e3) := goodIn_app (goodIn_of _ (by decide +kernel)) ggX3_findWorker_Jx4a65c_get_915e3
theorem dX3_findWorker_0 : decode cX3_findWorker 0 = .ok (.iload_n 1, 1) := by decide +kernel
theorem dX3_findWorker_1 : decode cX3_findWorker 1 = .ok (.ifCond .lt 14, 3) := by decide +kernel
theorem dX3_findWorker_4 : decode cX3_findWorker 4 = .ok (.iload_n 1, 1) := by decide +kernel
theorem dX3_findWorker_5 : decode cX3_findWorker 5 = .ok (.aload_n 0, 1) := by decide +kernel
theorem dX3_findWorker_6 : decode cX3_findWorker 6 = .ok (.getfield 30, 3) := by decide +kernel
theorem dX3_findWorker_9 : decode cX3_findWorker 9 = .ok (.invokevirtual 47, 3) := by decide +kernel
theorem dX3_findWorker_12 : decode cX3_findWorker 12 = .ok (.if_icmp .lt 13, 3) := by decide +kernel
theorem dX3_findWorker_15 : decode cX3_findWorker 15 = .ok (.new 170, 3) := by decide +kernel
theorem dX3_findWorker_18 : decode cX3_findWorker 18 = .ok (.dup, 1) := by decide +kernel
theorem dX3_findWorker_19 : decode cX3_findWorker 19 = .ok (.ldc 177, 2) := by decide +kernel
theorem dX3_findWorker_21 : decode cX3_findWorker 21 = .ok (.invokespecial 174, 3) := by decide +kernel
theorem dX3_findWorker_24 : decode cX3_findWorker 24 = .ok (.athrow, 1) := by decide +kernel
theorem dX3_findWorker_25 : decode cX3_findWorker 25 = .ok (.aload_n 0, 1) := by decide +kernel
theorem dX3_findWorker_26 : decode cX3_findWorker 26 = .ok (.getfield 30, 3) := by decide +kernel
theorem dX3_findWorker_29 : decode cX3_findWorker 29 = .ok (.iload_n 1, 1) := by decide +kernel
theorem dX3_findWorker_30 : decode cX3_findWorker 30 = .ok (.invokevirtual 140, 3) := by decide +kernel
theorem dX3_findWorker_33 : decode cX3_findWorker 33 = .ok (.checkcast 77, 3) := by decide +kernel
theorem dX3_findWorker_36 : decode cX3_findWorker 36 = .ok (.areturn, 1) := by decide +kernel
set_option maxRecDepth 20000 in
theorem ggX3_findShift_Jx4a65c_size_8abf5 : GoodIn wsX3_findShift wsJx4a65c_size_8abf5 := goodIn_r _ [9, 10, 33, 34, 35] (by decide +kernel) (by decide +kernel)
set_option maxRecDepth 20000 in
theorem gX3_findShift_Jx4a65c_size_8abf5 : GoodIn wsX3_findShift (wsV RX3 47 RJx4a65c yJx4a65c_size_8abf5 wsJx4a65c_size_8abf5) := goodIn_app (goodIn_of _ (by decide +kernel)) ggX3_findShift_Jx4a65c_size_8abf5
set_option maxRecDepth 20000 in
theorem ggX3_findShift_Jx4a65c_get_915e3 : GoodIn wsX3_findShift wsJx4a65c_get_915e3 := goodIn_r _ [14, 10, 15, 16, 17, 18, 19, 20, 21, 22, 23, 24, 25, 8, 26, 27, 33, 34, 35] (by decide +kernel) (by decide +kernel)
set_option maxRecDepth 20000 in
theorem gX3_findShift_Jx4a65c_get_915e3 : GoodIn wsX3_findShift (wsV RX3 140 RJx4a65c yJx4a65c_get_915e3 wsJx4a65c_get_915e3) := goodIn_app (goodIn_of _ (by decide +kernel)) ggX3_findShift_Jx4a65c_get_915e3
theorem dX3_findShift_0 : decode cX3_findShift 0 = .ok (.iload_n 1, 1) := by decide +kernel
theorem dX3_findShift_1 : decode cX3_findShift 1 = .ok (.ifCond .lt 14, 3) := by decide +kernel
theorem dX3_findShift_4 : decode cX3_findShift 4 = .ok (.iload_n 1, 1) := by decide +kernel
theorem dX3_findShift_5 : decode cX3_findShift 5 = .ok (.aload_n 0, 1) := by decide +kernel
theorem dX3_findShift_6 : decode cX3_findShift 6 = .ok (.getfield 33, 3) := by decide +kernel
theorem dX3_findShift_9 : decode cX3_findShift 9 = .ok (.invokevirtual 47, 3) := by decide +kernel
theorem dX3_findShift_12 : decode cX3_findShift 12 = .ok (.if_icmp .lt 13, 3) := by decide +kernel
theorem dX3_findShift_15 : decode cX3_findShift 15 = .ok (.new 170, 3) := by decide +kernel
theorem dX3_findShift_18 : decode cX3_findShift 18 = .ok (.dup, 1) := by decide +kernel
theorem dX3_findShift_19 : decode cX3_findShift 19 = .ok (.ldc 179, 2) := by decide +kernel
theorem dX3_findShift_21 : decode cX3_findShift 21 = .ok (.invokespecial 174, 3) := by decide +kernel
theorem dX3_findShift_24 : decode cX3_findShift 24 = .ok (.athrow, 1) := by decide +kernel
theorem dX3_findShift_25 : decode cX3_findShift 25 = .ok (.aload_n 0, 1) := by decide +kernel
theorem dX3_findShift_26 : decode cX3_findShift 26 = .ok (.getfield 33, 3) := by decide +kernel
theorem dX3_findShift_29 : decode cX3_findShift 29 = .ok (.iload_n 1, 1) := by decide +kernel
theorem dX3_findShift_30 : decode cX3_findShift 30 = .ok (.invokevirtual 140, 3) := by decide +kernel
theorem dX3_findShift_33 : decode cX3_findShift 33 = .ok (.checkcast 96, 3) := by decide +kernel
theorem dX3_findShift_36 : decode cX3_findShift 36 = .ok (.areturn, 1) := by decide +kernel
theorem dX3_overtimePercent_0 : decode cX3_overtimePercent 0 = .ok (.iload_n 0, 1) := by decide +kernel
theorem dX3_overtimePercent_1 : decode cX3_overtimePercent 1 = .ok (.bipush 40, 2) := by decide +kernel
theorem dX3_overtimePercent_3 : decode cX3_overtimePercent 3 = .ok (.if_icmp .lt 7, 3) := by decide +kernel
theorem dX3_overtimePercent_6 : decode cX3_overtimePercent 6 = .ok (.sipush 200, 3) := by decide +kernel
theorem dX3_overtimePercent_9 : decode cX3_overtimePercent 9 = .ok (.ireturn, 1) := by decide +kernel
theorem dX3_overtimePercent_10 : decode cX3_overtimePercent 10 = .ok (.iload_n 0, 1) := by decide +kernel
theorem dX3_overtimePercent_11 : decode cX3_overtimePercent 11 = .ok (.bipush 32, 2) := by decide +kernel
theorem dX3_overtimePercent_13 : decode cX3_overtimePercent 13 = .ok (.if_icmp .lt 9, 3) := by decide +kernel
theorem dX3_overtimePercent_16 : decode cX3_overtimePercent 16 = .ok (.sipush 150, 3) := by decide +kernel
theorem dX3_overtimePercent_19 : decode cX3_overtimePercent 19 = .ok (.goto 5, 3) := by decide +kernel
theorem dX3_overtimePercent_22 : decode cX3_overtimePercent 22 = .ok (.bipush 100, 2) := by decide +kernel
theorem dX3_overtimePercent_24 : decode cX3_overtimePercent 24 = .ok (.ireturn, 1) := by decide +kernel
set_option maxRecDepth 20000 in
theorem ggX3_decidingRule_X1_dayOf : GoodIn wsX3_decidingRule wsX1_dayOf := goodIn_r _ [10, 11, 77, 78, 79, 80, 81] (by decide +kernel) (by decide +kernel)
set_option maxRecDepth 20000 in
theorem gX3_decidingRule_X1_dayOf : GoodIn wsX3_decidingRule (wsV RX3 144 RX1 yX1_dayOf wsX1_dayOf) := goodIn_app (goodIn_of _ (by decide +kernel)) ggX3_decidingRule_X1_dayOf
set_option maxRecDepth 20000 in
theorem ggX3_decidingRule_X1_quarterOfDay : GoodIn wsX3_decidingRule wsX1_quarterOfDay := goodIn_r _ [15, 11, 77, 78, 79, 80, 81] (by decide +kernel) (by decide +kernel)
set_option maxRecDepth 20000 in
theorem gX3_decidingRule_X1_quarterOfDay : GoodIn wsX3_decidingRule (wsV RX3 181 RX1 yX1_quarterOfDay wsX1_quarterOfDay) := goodIn_app (goodIn_of _ (by decide +kernel)) ggX3_decidingRule_X1_quarterOfDay
set_option maxRecDepth 20000 in
theorem ggX3_decidingRule_X3_isHoliday : GoodIn wsX3_decidingRule wsX3_isHoliday := goodIn_r _ [20, 21, 65, 66, 67, 68, 69] (by decide +kernel) (by decide +kernel)
set_option maxRecDepth 20000 in
theorem gX3_decidingRule_X3_isHoliday : GoodIn wsX3_decidingRule (wsV RX3 184 RX3 yX3_isHoliday wsX3_isHoliday) := goodIn_app (goodIn_of _ (by decide +kernel)) ggX3_decidingRule_X3_isHoliday
set_option maxRecDepth 20000 in
theorem ggX3_decidingRule_X3_overtimePercent : GoodIn wsX3_decidingRule wsX3_overtimePercent := goodIn_r _ [24] (by decide +kernel) (by decide +kernel)
set_option maxRecDepth 20000 in
theorem gX3_decidingRule_X3_overtimePercent : GoodIn wsX3_decidingRule (va_wsS RX3 188 yX3_overtimePercent wsX3_overtimePercent) := goodIn_app (goodIn_of _ (by decide +kernel)) ggX3_decidingRule_X3_overtimePercent
set_option maxRecDepth 20000 in
theorem ggX3_decidingRule_Jx4a65c_size_8abf5 : GoodIn wsX3_decidingRule wsJx4a65c_size_8abf5 := goodIn_r _ [29, 30, 83, 84, 85] (by decide +kernel) (by decide +kernel)
set_option maxRecDepth 20000 in
theorem gX3_decidingRule_Jx4a65c_size_8abf5 : GoodIn wsX3_decidingRule (wsV RX3 47 RJx4a65c yJx4a65c_size_8abf5 wsJx4a65c_size_8abf5) := goodIn_app (goodIn_of _ (by decide +kernel)) ggX3_decidingRule_Jx4a65c_size_8abf5
set_option maxRecDepth 20000 in
theorem ggX3_decidingRule_Jx4a65c_get_915e3 : GoodIn wsX3_decidingRule wsJx4a65c_get_915e3 := goodIn_r _ [34, 30, 35, 36, 37, 38, 39, 40, 41, 42, 43, 44, 45, 28, 46, 47, 83, 84, 85] (by decide +kernel) (by decide +kernel)
set_option maxRecDepth 20000 in
theorem gX3_decidingRule_Jx4a65c_get_915e3 : GoodIn wsX3_decidingRule (wsV RX3 140 RJx4a65c yJx4a65c_get_915e3 wsJx4a65c_get_915e3) := goodIn_app (goodIn_of _ (by decide +kernel)) ggX3_decidingRule_Jx4a65c_get_915e3
set_option maxRecDepth 20000 in
theorem ggX3_decidingRule_X0_appliesTo : GoodIn wsX3_decidingRule wsX0_appliesTo := goodIn_r _ [52, 53, 54, 55, 56, 57, 58, 51, 59, 60, 61, 62, 63, 64, 70, 71, 72, 73, 74, 75, 76] (by decide +kernel) (by decide +kernel)
set_option maxRecDepth 20000 in
theorem gX3_decidingRule_X0_appliesTo : GoodIn wsX3_decidingRule (wsV RX3 194 RX0 yX0_appliesTo wsX0_appliesTo) := goodIn_app (goodIn_of _ (by decide +kernel)) ggX3_decidingRule_X0_appliesTo
theorem dX3_decidingRule_0 : decode cX3_decidingRule 0 = .ok (.aload_n 1, 1) := by decide +kernel
theorem dX3_decidingRule_1 : decode cX3_decidingRule 1 = .ok (.iload_n 2, 1) := by decide +kernel
theorem dX3_decidingRule_2 : decode cX3_decidingRule 2 = .ok (.invokevirtual 144, 3) := by decide +kernel
theorem dX3_decidingRule_5 : decode cX3_decidingRule 5 = .ok (.istore_n 3, 1) := by decide +kernel
theorem dX3_decidingRule_6 : decode cX3_decidingRule 6 = .ok (.aload_n 1, 1) := by decide +kernel
theorem dX3_decidingRule_7 : decode cX3_decidingRule 7 = .ok (.iload_n 2, 1) := by decide +kernel
theorem dX3_decidingRule_8 : decode cX3_decidingRule 8 = .ok (.invokevirtual 181, 3) := by decide +kernel
theorem dX3_decidingRule_11 : decode cX3_decidingRule 11 = .ok (.istore 4, 2) := by decide +kernel
theorem dX3_decidingRule_13 : decode cX3_decidingRule 13 = .ok (.aload_n 0, 1) := by decide +kernel
theorem dX3_decidingRule_14 : decode cX3_decidingRule 14 = .ok (.iload_n 3, 1) := by decide +kernel
theorem dX3_decidingRule_15 : decode cX3_decidingRule 15 = .ok (.invokevirtual 184, 3) := by decide +kernel
theorem dX3_decidingRule_18 : decode cX3_decidingRule 18 = .ok (.istore 5, 2) := by decide +kernel
theorem dX3_decidingRule_20 : decode cX3_decidingRule 20 = .ok (.iload_n 2, 1) := by decide +kernel
theorem dX3_decidingRule_21 : decode cX3_decidingRule 21 = .ok (.invokestatic 188, 3) := by decide +kernel
theorem dX3_decidingRule_24 : decode cX3_decidingRule 24 = .ok (.istore 6, 2) := by decide +kernel
theorem dX3_decidingRule_26 : decode cX3_decidingRule 26 = .ok (.aconst_null, 1) := by decide +kernel
theorem dX3_decidingRule_27 : decode cX3_decidingRule 27 = .ok (.astore 7, 2) := by decide +kernel
theorem dX3_decidingRule_29 : decode cX3_decidingRule 29 = .ok (.iconst 0, 1) := by decide +kernel
theorem dX3_decidingRule_30 : decode cX3_decidingRule 30 = .ok (.istore 8, 2) := by decide +kernel
theorem dX3_decidingRule_32 : decode cX3_decidingRule 32 = .ok (.iload 8, 2) := by decide +kernel
theorem dX3_decidingRule_34 : decode cX3_decidingRule 34 = .ok (.aload_n 0, 1) := by decide +kernel
theorem dX3_decidingRule_35 : decode cX3_decidingRule 35 = .ok (.getfield 26, 3) := by decide +kernel
theorem dX3_decidingRule_38 : decode cX3_decidingRule 38 = .ok (.invokevirtual 47, 3) := by decide +kernel
theorem dX3_decidingRule_41 : decode cX3_decidingRule 41 = .ok (.if_icmp .ge 91, 3) := by decide +kernel
theorem dX3_decidingRule_44 : decode cX3_decidingRule 44 = .ok (.aload_n 0, 1) := by decide +kernel
theorem dX3_decidingRule_45 : decode cX3_decidingRule 45 = .ok (.getfield 26, 3) := by decide +kernel
theorem dX3_decidingRule_48 : decode cX3_decidingRule 48 = .ok (.iload 8, 2) := by decide +kernel
theorem dX3_decidingRule_50 : decode cX3_decidingRule 50 = .ok (.invokevirtual 140, 3) := by decide +kernel
theorem dX3_decidingRule_53 : decode cX3_decidingRule 53 = .ok (.checkcast 56, 3) := by decide +kernel
theorem dX3_decidingRule_56 : decode cX3_decidingRule 56 = .ok (.astore 9, 2) := by decide +kernel
theorem dX3_decidingRule_58 : decode cX3_decidingRule 58 = .ok (.aload 9, 2) := by decide +kernel
theorem dX3_decidingRule_60 : decode cX3_decidingRule 60 = .ok (.getfield 191, 3) := by decide +kernel
theorem dX3_decidingRule_63 : decode cX3_decidingRule 63 = .ok (.iload 6, 2) := by decide +kernel
theorem dX3_decidingRule_65 : decode cX3_decidingRule 65 = .ok (.if_icmp .gt 18, 3) := by decide +kernel
theorem dX3_decidingRule_68 : decode cX3_decidingRule 68 = .ok (.aload 9, 2) := by decide +kernel
theorem dX3_decidingRule_70 : decode cX3_decidingRule 70 = .ok (.getfield 191, 3) := by decide +kernel
theorem dX3_decidingRule_73 : decode cX3_decidingRule 73 = .ok (.iload 6, 2) := by decide +kernel
theorem dX3_decidingRule_75 : decode cX3_decidingRule 75 = .ok (.if_icmp .ne 12, 3) := by decide +kernel
theorem dX3_decidingRule_78 : decode cX3_decidingRule 78 = .ok (.aload 7, 2) := by decide +kernel
theorem dX3_decidingRule_80 : decode cX3_decidingRule 80 = .ok (.ifnonnull 7, 3) := by decide +kernel
theorem dX3_decidingRule_83 : decode cX3_decidingRule 83 = .ok (.iconst 1, 1) := by decide +kernel
theorem dX3_decidingRule_84 : decode cX3_decidingRule 84 = .ok (.goto 4, 3) := by decide +kernel
theorem dX3_decidingRule_87 : decode cX3_decidingRule 87 = .ok (.iconst 0, 1) := by decide +kernel
theorem dX3_decidingRule_88 : decode cX3_decidingRule 88 = .ok (.istore 10, 2) := by decide +kernel
theorem dX3_decidingRule_90 : decode cX3_decidingRule 90 = .ok (.iload 10, 2) := by decide +kernel
theorem dX3_decidingRule_92 : decode cX3_decidingRule 92 = .ok (.ifCond .eq 34, 3) := by decide +kernel
theorem dX3_decidingRule_95 : decode cX3_decidingRule 95 = .ok (.aload 9, 2) := by decide +kernel
theorem dX3_decidingRule_97 : decode cX3_decidingRule 97 = .ok (.aload_n 1, 1) := by decide +kernel
theorem dX3_decidingRule_98 : decode cX3_decidingRule 98 = .ok (.getfield 148, 3) := by decide +kernel
theorem dX3_decidingRule_101 : decode cX3_decidingRule 101 = .ok (.getfield 86, 3) := by decide +kernel
theorem dX3_decidingRule_104 : decode cX3_decidingRule 104 = .ok (.iload_n 3, 1) := by decide +kernel
theorem dX3_decidingRule_105 : decode cX3_decidingRule 105 = .ok (.iload 4, 2) := by decide +kernel
theorem dX3_decidingRule_107 : decode cX3_decidingRule 107 = .ok (.iload 5, 2) := by decide +kernel
theorem dX3_decidingRule_109 : decode cX3_decidingRule 109 = .ok (.invokevirtual 194, 3) := by decide +kernel
theorem dX3_decidingRule_112 : decode cX3_decidingRule 112 = .ok (.ifCond .eq 14, 3) := by decide +kernel
theorem dX3_decidingRule_115 : decode cX3_decidingRule 115 = .ok (.aload 9, 2) := by decide +kernel
theorem dX3_decidingRule_117 : decode cX3_decidingRule 117 = .ok (.getfield 191, 3) := by decide +kernel
theorem dX3_decidingRule_120 : decode cX3_decidingRule 120 = .ok (.istore 6, 2) := by decide +kernel
theorem dX3_decidingRule_122 : decode cX3_decidingRule 122 = .ok (.aload 9, 2) := by decide +kernel
theorem dX3_decidingRule_124 : decode cX3_decidingRule 124 = .ok (.astore 7, 2) := by decide +kernel
theorem dX3_decidingRule_126 : decode cX3_decidingRule 126 = .ok (.iinc 8 1, 3) := by decide +kernel
theorem dX3_decidingRule_129 : decode cX3_decidingRule 129 = .ok (.goto (-97), 3) := by decide +kernel
theorem dX3_decidingRule_132 : decode cX3_decidingRule 132 = .ok (.aload 7, 2) := by decide +kernel
theorem dX3_decidingRule_134 : decode cX3_decidingRule 134 = .ok (.areturn, 1) := by decide +kernel
set_option maxRecDepth 20000 in
theorem ggX3_percentOf_X3_decidingRule : GoodIn wsX3_percentOf wsX3_decidingRule := goodIn_r _ [6, 7, 8, 1, 9, 10, 11, 12, 13, 14, 15, 16, 17, 18, 19, 20, 21, 22, 23, 5, 24, 25, 26, 27, 28, 29, 30, 31, 32, 33, 34, 35, 36, 37, 38, 39, 40, 41, 42, 43, 44, 45, 46, 47, 48, 49, 50, 51, 52, 53, 54, 55, 56, 57, 58, 59, 60, 61, 62, 63, 64, 65, 66, 67, 68, 76, 77, 78, 79, 80, 69, 70, 71, 72, 73, 74, 75, 81, 82, 83, 84, 85, 86, 87, 88, 89] (by decide +kernel) (by decide +kernel)
set_option maxRecDepth 20000 in
theorem gX3_percentOf_X3_decidingRule : GoodIn wsX3_percentOf (wsV RX3 130 RX3 yX3_decidingRule wsX3_decidingRule) := goodIn_app (goodIn_of _ (by decide +kernel)) ggX3_percentOf_X3_decidingRule
set_option maxRecDepth 20000 in
theorem ggX3_percentOf_X3_overtimePercent : GoodIn wsX3_percentOf wsX3_overtimePercent := goodIn_r _ [28] (by decide +kernel) (by decide +kernel)
set_option maxRecDepth 20000 in
theorem gX3_percentOf_X3_overtimePercent : GoodIn wsX3_percentOf (va_wsS RX3 188 yX3_overtimePercent wsX3_overtimePercent) := goodIn_app (goodIn_of _ (by decide +kernel)) ggX3_percentOf_X3_overtimePercent
theorem dX3_percentOf_0 : decode cX3_percentOf 0 = .ok (.aload_n 0, 1) := by decide +kernel
theorem dX3_percentOf_1 : decode cX3_percentOf 1 = .ok (.aload_n 1, 1) := by decide +kernel
theorem dX3_percentOf_2 : decode cX3_percentOf 2 = .ok (.iload_n 2, 1) := by decide +kernel
theorem dX3_percentOf_3 : decode cX3_percentOf 3 = .ok (.invokevirtual 130, 3) := by decide +kernel
theorem dX3_percentOf_6 : decode cX3_percentOf 6 = .ok (.astore_n 3, 1) := by decide +kernel
theorem dX3_percentOf_7 : decode cX3_percentOf 7 = .ok (.aload_n 3, 1) := by decide +kernel
theorem dX3_percentOf_8 : decode cX3_percentOf 8 = .ok (.ifnull 10, 3) := by decide +kernel
theorem dX3_percentOf_11 : decode cX3_percentOf 11 = .ok (.aload_n 3, 1) := by decide +kernel
theorem dX3_percentOf_12 : decode cX3_percentOf 12 = .ok (.getfield 191, 3) := by decide +kernel
theorem dX3_percentOf_15 : decode cX3_percentOf 15 = .ok (.goto 7, 3) := by decide +kernel
theorem dX3_percentOf_18 : decode cX3_percentOf 18 = .ok (.iload_n 2, 1) := by decide +kernel
theorem dX3_percentOf_19 : decode cX3_percentOf 19 = .ok (.invokestatic 188, 3) := by decide +kernel
theorem dX3_percentOf_22 : decode cX3_percentOf 22 = .ok (.ireturn, 1) := by decide +kernel
set_option maxRecDepth 20000 in
theorem ggX3_payFor_X3_baseOf : GoodIn wsX3_payFor wsX3_baseOf := goodIn_r _ [7, 8, 106, 107, 108, 109, 110] (by decide +kernel) (by decide +kernel)
set_option maxRecDepth 20000 in
theorem gX3_payFor_X3_baseOf : GoodIn wsX3_payFor (wsV RX3 198 RX3 yX3_baseOf wsX3_baseOf) := goodIn_app (goodIn_of _ (by decide +kernel)) ggX3_payFor_X3_baseOf
set_option maxRecDepth 20000 in
theorem ggX3_payFor_X1_breaksMissed : GoodIn wsX3_payFor wsX1_breaksMissed := goodIn_r _ [13, 14, 15, 16, 17, 18, 19, 20, 21, 22, 12, 23, 24, 100, 101, 102, 103, 104] (by decide +kernel) (by decide +kernel)
set_option maxRecDepth 20000 in
theorem gX3_payFor_X1_breaksMissed : GoodIn wsX3_payFor (wsV RX3 137 RX1 yX1_breaksMissed wsX1_breaksMissed) := goodIn_app (goodIn_of _ (by decide +kernel)) ggX3_payFor_X1_breaksMissed
set_option maxRecDepth 20000 in
theorem ggX3_payFor_X1_paidLength : GoodIn wsX3_payFor wsX1_paidLength := goodIn_r _ [28, 14, 24, 16, 17, 18, 19, 100, 101, 102, 103, 104] (by decide +kernel) (by decide +kernel)
set_option maxRecDepth 20000 in
theorem gX3_payFor_X1_paidLength : GoodIn wsX3_payFor (wsV RX3 119 RX1 yX1_paidLength wsX1_paidLength) := goodIn_app (goodIn_of _ (by decide +kernel)) ggX3_payFor_X1_paidLength
set_option maxRecDepth 20000 in
theorem ggX3_payFor_X3_percentOf : GoodIn wsX3_payFor wsX3_percentOf := goodIn_r _ [32, 33, 34, 35, 36, 6, 37, 38, 39, 1, 2, 40, 41, 42, 12, 43, 44, 45, 46, 47, 48, 49, 50, 51, 52, 53, 54, 55, 56, 57, 58, 59, 60, 61, 62, 63, 64, 65, 66, 67, 68, 69, 70, 71, 72, 73, 74, 75, 76, 77, 78, 79, 80, 81, 82, 83, 84, 85, 86, 87, 88, 89, 90, 91, 92, 93, 94, 95, 96, 111, 112, 113, 114, 115, 116, 117, 106, 107, 108, 109, 110, 100, 101, 102, 103, 104, 105, 118, 119, 120] (by decide +kernel) (by decide +kernel)
set_option maxRecDepth 20000 in
theorem gX3_payFor_X3_percentOf : GoodIn wsX3_payFor (wsV RX3 126 RX3 yX3_percentOf wsX3_percentOf) := goodIn_app (goodIn_of _ (by decide +kernel)) ggX3_payFor_X3_percentOf
set_option maxRecDepth 20000 in
theorem ggX3_payFor_X3_amount : GoodIn wsX3_payFor wsX3_amount := goodIn_r _ [99] (by decide +kernel) (by decide +kernel)
set_option maxRecDepth 20000 in
theorem gX3_payFor_X3_amount : GoodIn wsX3_payFor (va_wsS RX3 201 yX3_amount wsX3_amount) := goodIn_app (goodIn_of _ (by decide +kernel)) ggX3_payFor_X3_amount
theorem dX3_payFor_0 : decode cX3_payFor 0 = .ok (.aload_n 0, 1) := by decide +kernel
theorem dX3_payFor_1 : decode cX3_payFor 1 = .ok (.aload_n 1, 1) := by decide +kernel
theorem dX3_payFor_2 : decode cX3_payFor 2 = .ok (.getfield 148, 3) := by decide +kernel
theorem dX3_payFor_5 : decode cX3_payFor 5 = .ok (.getfield 86, 3) := by decide +kernel
theorem dX3_payFor_8 : decode cX3_payFor 8 = .ok (.invokevirtual 198, 3) := by decide +kernel
theorem dX3_payFor_11 : decode cX3_payFor 11 = .ok (.istore_n 2, 1) := by decide +kernel
theorem dX3_payFor_12 : decode cX3_payFor 12 = .ok (.aload_n 1, 1) := by decide +kernel
theorem dX3_payFor_13 : decode cX3_payFor 13 = .ok (.invokevirtual 137, 3) := by decide +kernel
theorem dX3_payFor_16 : decode cX3_payFor 16 = .ok (.iconst 2, 1) := by decide +kernel
theorem dX3_payFor_17 : decode cX3_payFor 17 = .ok (.imul, 1) := by decide +kernel
theorem dX3_payFor_18 : decode cX3_payFor 18 = .ok (.iload_n 2, 1) := by decide +kernel
theorem dX3_payFor_19 : decode cX3_payFor 19 = .ok (.imul, 1) := by decide +kernel
theorem dX3_payFor_20 : decode cX3_payFor 20 = .ok (.istore_n 3, 1) := by decide +kernel
theorem dX3_payFor_21 : decode cX3_payFor 21 = .ok (.iconst 0, 1) := by decide +kernel
theorem dX3_payFor_22 : decode cX3_payFor 22 = .ok (.istore 4, 2) := by decide +kernel
theorem dX3_payFor_24 : decode cX3_payFor 24 = .ok (.iload 4, 2) := by decide +kernel
theorem dX3_payFor_26 : decode cX3_payFor 26 = .ok (.aload_n 1, 1) := by decide +kernel
theorem dX3_payFor_27 : decode cX3_payFor 27 = .ok (.invokevirtual 119, 3) := by decide +kernel
theorem dX3_payFor_30 : decode cX3_payFor 30 = .ok (.if_icmp .ge 23, 3) := by decide +kernel
theorem dX3_payFor_33 : decode cX3_payFor 33 = .ok (.iload_n 3, 1) := by decide +kernel
theorem dX3_payFor_34 : decode cX3_payFor 34 = .ok (.iload_n 2, 1) := by decide +kernel
theorem dX3_payFor_35 : decode cX3_payFor 35 = .ok (.aload_n 0, 1) := by decide +kernel
theorem dX3_payFor_36 : decode cX3_payFor 36 = .ok (.aload_n 1, 1) := by decide +kernel
theorem dX3_payFor_37 : decode cX3_payFor 37 = .ok (.iload 4, 2) := by decide +kernel
theorem dX3_payFor_39 : decode cX3_payFor 39 = .ok (.invokevirtual 126, 3) := by decide +kernel
theorem dX3_payFor_42 : decode cX3_payFor 42 = .ok (.invokestatic 201, 3) := by decide +kernel
theorem dX3_payFor_45 : decode cX3_payFor 45 = .ok (.iadd, 1) := by decide +kernel
theorem dX3_payFor_46 : decode cX3_payFor 46 = .ok (.istore_n 3, 1) := by decide +kernel
theorem dX3_payFor_47 : decode cX3_payFor 47 = .ok (.iinc 4 1, 3) := by decide +kernel
theorem dX3_payFor_50 : decode cX3_payFor 50 = .ok (.goto (-26), 3) := by decide +kernel
theorem dX3_payFor_53 : decode cX3_payFor 53 = .ok (.iload_n 3, 1) := by decide +kernel
theorem dX3_payFor_54 : decode cX3_payFor 54 = .ok (.ireturn, 1) := by decide +kernel
set_option maxRecDepth 20000 in
theorem ggX3_payByRule_X3_baseOf : GoodIn wsX3_payByRule wsX3_baseOf := goodIn_r _ [9, 10, 101, 102, 103, 104, 105] (by decide +kernel) (by decide +kernel)
set_option maxRecDepth 20000 in
theorem gX3_payByRule_X3_baseOf : GoodIn wsX3_payByRule (wsV RX3 198 RX3 yX3_baseOf wsX3_baseOf) := goodIn_app (goodIn_of _ (by decide +kernel)) ggX3_payByRule_X3_baseOf
set_option maxRecDepth 20000 in
theorem ggX3_payByRule_X1_paidLength : GoodIn wsX3_payByRule wsX1_paidLength := goodIn_r _ [15, 16, 17, 18, 19, 20, 21, 88, 89, 90, 91, 92] (by decide +kernel) (by decide +kernel)
set_option maxRecDepth 20000 in
theorem gX3_payByRule_X1_paidLength : GoodIn wsX3_payByRule (wsV RX3 119 RX1 yX1_paidLength wsX1_paidLength) := goodIn_app (goodIn_of _ (by decide +kernel)) ggX3_payByRule_X1_paidLength
set_option maxRecDepth 20000 in
theorem ggX3_payByRule_X3_decidingRule : GoodIn wsX3_payByRule wsX3_decidingRule := goodIn_r _ [25, 26, 27, 4, 1, 2, 28, 29, 30, 14, 31, 32, 33, 34, 35, 36, 37, 38, 39, 8, 40, 41, 42, 43, 44, 45, 46, 47, 48, 49, 50, 51, 52, 53, 54, 55, 56, 57, 58, 59, 60, 61, 62, 63, 64, 65, 66, 67, 68, 69, 70, 71, 72, 73, 74, 75, 76, 77, 78, 79, 80, 81, 82, 83, 84, 101, 102, 103, 104, 105, 94, 95, 96, 97, 98, 99, 100, 88, 89, 90, 91, 92, 93, 106, 107, 108] (by decide +kernel) (by decide +kernel)
set_option maxRecDepth 20000 in
theorem gX3_payByRule_X3_decidingRule : GoodIn wsX3_payByRule (wsV RX3 130 RX3 yX3_decidingRule wsX3_decidingRule) := goodIn_app (goodIn_of _ (by decide +kernel)) ggX3_payByRule_X3_decidingRule
set_option maxRecDepth 20000 in
theorem ggX3_payByRule_X3_amount : GoodIn wsX3_payByRule wsX3_amount := goodIn_r _ [87] (by decide +kernel) (by decide +kernel)
set_option maxRecDepth 20000 in
theorem gX3_payByRule_X3_amount : GoodIn wsX3_payByRule (va_wsS RX3 201 yX3_amount wsX3_amount) := goodIn_app (goodIn_of _ (by decide +kernel)) ggX3_payByRule_X3_amount
theorem dX3_payByRule_0 : decode cX3_payByRule 0 = .ok (.aload_n 0, 1) := by decide +kernel
theorem dX3_payByRule_1 : decode cX3_payByRule 1 = .ok (.aload_n 1, 1) := by decide +kernel
theorem dX3_payByRule_2 : decode cX3_payByRule 2 = .ok (.getfield 148, 3) := by decide +kernel
theorem dX3_payByRule_5 : decode cX3_payByRule 5 = .ok (.getfield 86, 3) := by decide +kernel
theorem dX3_payByRule_8 : decode cX3_payByRule 8 = .ok (.invokevirtual 198, 3) := by decide +kernel
theorem dX3_payByRule_11 : decode cX3_payByRule 11 = .ok (.istore_n 3, 1) := by decide +kernel
theorem dX3_payByRule_12 : decode cX3_payByRule 12 = .ok (.iconst 0, 1) := by decide +kernel
theorem dX3_payByRule_13 : decode cX3_payByRule 13 = .ok (.istore 4, 2) := by decide +kernel
theorem dX3_payByRule_15 : decode cX3_payByRule 15 = .ok (.iconst 0, 1) := by decide +kernel
theorem dX3_payByRule_16 : decode cX3_payByRule 16 = .ok (.istore 5, 2) := by decide +kernel
theorem dX3_payByRule_18 : decode cX3_payByRule 18 = .ok (.iload 5, 2) := by decide +kernel
theorem dX3_payByRule_20 : decode cX3_payByRule 20 = .ok (.aload_n 1, 1) := by decide +kernel
theorem dX3_payByRule_21 : decode cX3_payByRule 21 = .ok (.invokevirtual 119, 3) := by decide +kernel
theorem dX3_payByRule_24 : decode cX3_payByRule 24 = .ok (.if_icmp .ge 48, 3) := by decide +kernel
theorem dX3_payByRule_27 : decode cX3_payByRule 27 = .ok (.aload_n 0, 1) := by decide +kernel
theorem dX3_payByRule_28 : decode cX3_payByRule 28 = .ok (.aload_n 1, 1) := by decide +kernel
theorem dX3_payByRule_29 : decode cX3_payByRule 29 = .ok (.iload 5, 2) := by decide +kernel
theorem dX3_payByRule_31 : decode cX3_payByRule 31 = .ok (.invokevirtual 130, 3) := by decide +kernel
theorem dX3_payByRule_34 : decode cX3_payByRule 34 = .ok (.astore 6, 2) := by decide +kernel
theorem dX3_payByRule_36 : decode cX3_payByRule 36 = .ok (.aload 6, 2) := by decide +kernel
theorem dX3_payByRule_38 : decode cX3_payByRule 38 = .ok (.ifnull 28, 3) := by decide +kernel
theorem dX3_payByRule_41 : decode cX3_payByRule 41 = .ok (.aload 6, 2) := by decide +kernel
theorem dX3_payByRule_43 : decode cX3_payByRule 43 = .ok (.getfield 134, 3) := by decide +kernel
theorem dX3_payByRule_46 : decode cX3_payByRule 46 = .ok (.aload_n 2, 1) := by decide +kernel
theorem dX3_payByRule_47 : decode cX3_payByRule 47 = .ok (.getfield 134, 3) := by decide +kernel
theorem dX3_payByRule_50 : decode cX3_payByRule 50 = .ok (.if_icmp .ne 16, 3) := by decide +kernel
theorem dX3_payByRule_53 : decode cX3_payByRule 53 = .ok (.iload 4, 2) := by decide +kernel
theorem dX3_payByRule_55 : decode cX3_payByRule 55 = .ok (.iload_n 3, 1) := by decide +kernel
theorem dX3_payByRule_56 : decode cX3_payByRule 56 = .ok (.aload_n 2, 1) := by decide +kernel
theorem dX3_payByRule_57 : decode cX3_payByRule 57 = .ok (.getfield 191, 3) := by decide +kernel
theorem dX3_payByRule_60 : decode cX3_payByRule 60 = .ok (.invokestatic 201, 3) := by decide +kernel
theorem dX3_payByRule_63 : decode cX3_payByRule 63 = .ok (.iadd, 1) := by decide +kernel
theorem dX3_payByRule_64 : decode cX3_payByRule 64 = .ok (.istore 4, 2) := by decide +kernel
theorem dX3_payByRule_66 : decode cX3_payByRule 66 = .ok (.iinc 5 1, 3) := by decide +kernel
theorem dX3_payByRule_69 : decode cX3_payByRule 69 = .ok (.goto (-51), 3) := by decide +kernel
theorem dX3_payByRule_72 : decode cX3_payByRule 72 = .ok (.iload 4, 2) := by decide +kernel
theorem dX3_payByRule_74 : decode cX3_payByRule 74 = .ok (.ireturn, 1) := by decide +kernel
theorem dX3_amount_0 : decode cX3_amount 0 = .ok (.iload_n 0, 1) := by decide +kernel
theorem dX3_amount_1 : decode cX3_amount 1 = .ok (.iload_n 1, 1) := by decide +kernel
theorem dX3_amount_2 : decode cX3_amount 2 = .ok (.imul, 1) := by decide +kernel
theorem dX3_amount_3 : decode cX3_amount 3 = .ok (.bipush 100, 2) := by decide +kernel
theorem dX3_amount_5 : decode cX3_amount 5 = .ok (.idiv, 1) := by decide +kernel
theorem dX3_amount_6 : decode cX3_amount 6 = .ok (.ireturn, 1) := by decide +kernel
theorem dX3_baseOf_0 : decode cX3_baseOf 0 = .ok (.iload_n 1, 1) := by decide +kernel
theorem dX3_baseOf_1 : decode cX3_baseOf 1 = .ok (.ifCond .lt 21, 3) := by decide +kernel
theorem dX3_baseOf_4 : decode cX3_baseOf 4 = .ok (.iload_n 1, 1) := by decide +kernel
theorem dX3_baseOf_5 : decode cX3_baseOf 5 = .ok (.aload_n 0, 1) := by decide +kernel
theorem dX3_baseOf_6 : decode cX3_baseOf 6 = .ok (.getfield 9, 3) := by decide +kernel
theorem dX3_baseOf_9 : decode cX3_baseOf 9 = .ok (.arraylength, 1) := by decide +kernel
theorem dX3_baseOf_10 : decode cX3_baseOf 10 = .ok (.if_icmp .ge 12, 3) := by decide +kernel
theorem dX3_baseOf_13 : decode cX3_baseOf 13 = .ok (.aload_n 0, 1) := by decide +kernel
theorem dX3_baseOf_14 : decode cX3_baseOf 14 = .ok (.getfield 9, 3) := by decide +kernel
theorem dX3_baseOf_17 : decode cX3_baseOf 17 = .ok (.iload_n 1, 1) := by decide +kernel
theorem dX3_baseOf_18 : decode cX3_baseOf 18 = .ok (.iaload, 1) := by decide +kernel
theorem dX3_baseOf_19 : decode cX3_baseOf 19 = .ok (.goto 4, 3) := by decide +kernel
theorem dX3_baseOf_22 : decode cX3_baseOf 22 = .ok (.iconst 0, 1) := by decide +kernel
theorem dX3_baseOf_23 : decode cX3_baseOf 23 = .ok (.ireturn, 1) := by decide +kernel
theorem dX3_isHoliday_0 : decode cX3_isHoliday 0 = .ok (.iload_n 1, 1) := by decide +kernel
theorem dX3_isHoliday_1 : decode cX3_isHoliday 1 = .ok (.ifCond .lt 25, 3) := by decide +kernel
theorem dX3_isHoliday_4 : decode cX3_isHoliday 4 = .ok (.iload_n 1, 1) := by decide +kernel
theorem dX3_isHoliday_5 : decode cX3_isHoliday 5 = .ok (.aload_n 0, 1) := by decide +kernel
theorem dX3_isHoliday_6 : decode cX3_isHoliday 6 = .ok (.getfield 19, 3) := by decide +kernel
theorem dX3_isHoliday_9 : decode cX3_isHoliday 9 = .ok (.arraylength, 1) := by decide +kernel
theorem dX3_isHoliday_10 : decode cX3_isHoliday 10 = .ok (.if_icmp .ge 16, 3) := by decide +kernel
theorem dX3_isHoliday_13 : decode cX3_isHoliday 13 = .ok (.aload_n 0, 1) := by decide +kernel
theorem dX3_isHoliday_14 : decode cX3_isHoliday 14 = .ok (.getfield 19, 3) := by decide +kernel
theorem dX3_isHoliday_17 : decode cX3_isHoliday 17 = .ok (.iload_n 1, 1) := by decide +kernel
theorem dX3_isHoliday_18 : decode cX3_isHoliday 18 = .ok (.baload, 1) := by decide +kernel
theorem dX3_isHoliday_19 : decode cX3_isHoliday 19 = .ok (.ifCond .eq 7, 3) := by decide +kernel
theorem dX3_isHoliday_22 : decode cX3_isHoliday 22 = .ok (.iconst 1, 1) := by decide +kernel
theorem dX3_isHoliday_23 : decode cX3_isHoliday 23 = .ok (.goto 4, 3) := by decide +kernel
theorem dX3_isHoliday_26 : decode cX3_isHoliday 26 = .ok (.iconst 0, 1) := by decide +kernel
theorem dX3_isHoliday_27 : decode cX3_isHoliday 27 = .ok (.ireturn, 1) := by decide +kernel
set_option maxRecDepth 20000 in
theorem ggX3_overlapsAnother_X3_workedBetween : GoodIn wsX3_overlapsAnother wsX3_workedBetween := goodIn_r _ [5, 6, 7, 8, 9, 10, 11, 12, 13, 14, 15, 16, 17, 18, 19, 20, 21, 22, 23, 24, 25, 26, 27, 28, 29, 30, 31, 32, 33, 34, 35, 36, 37, 38, 39, 40, 41, 42, 43, 44, 45, 46, 47, 48, 49, 50, 51, 52, 53, 54, 55, 56, 57, 58, 59] (by decide +kernel) (by decide +kernel)
set_option maxRecDepth 20000 in
theorem gX3_overlapsAnother_X3_workedBetween : GoodIn wsX3_overlapsAnother (wsV RX3 204 RX3 yX3_workedBetween wsX3_workedBetween) := goodIn_app (goodIn_of _ (by decide +kernel)) ggX3_overlapsAnother_X3_workedBetween
theorem dX3_overlapsAnother_0 : decode cX3_overlapsAnother 0 = .ok (.aload_n 0, 1) := by decide +kernel
theorem dX3_overlapsAnother_1 : decode cX3_overlapsAnother 1 = .ok (.aload_n 1, 1) := by decide +kernel
theorem dX3_overlapsAnother_2 : decode cX3_overlapsAnother 2 = .ok (.iload_n 2, 1) := by decide +kernel
theorem dX3_overlapsAnother_3 : decode cX3_overlapsAnother 3 = .ok (.iload_n 3, 1) := by decide +kernel
theorem dX3_overlapsAnother_4 : decode cX3_overlapsAnother 4 = .ok (.invokevirtual 204, 3) := by decide +kernel
theorem dX3_overlapsAnother_7 : decode cX3_overlapsAnother 7 = .ok (.ifCond .le 7, 3) := by decide +kernel
theorem dX3_overlapsAnother_10 : decode cX3_overlapsAnother 10 = .ok (.iconst 1, 1) := by decide +kernel
theorem dX3_overlapsAnother_11 : decode cX3_overlapsAnother 11 = .ok (.goto 4, 3) := by decide +kernel
theorem dX3_overlapsAnother_14 : decode cX3_overlapsAnother 14 = .ok (.iconst 0, 1) := by decide +kernel
theorem dX3_overlapsAnother_15 : decode cX3_overlapsAnother 15 = .ok (.ireturn, 1) := by decide +kernel
set_option maxRecDepth 20000 in
theorem ggX3_workedInWeeks_X3_workedBetween : GoodIn wsX3_workedInWeeks wsX3_workedBetween := goodIn_r _ [5, 6, 7, 8, 9, 10, 11, 12, 13, 14, 15, 16, 17, 18, 19, 20, 21, 22, 23, 24, 25, 26, 27, 28, 29, 30, 31, 32, 33, 34, 35, 36, 37, 38, 39, 40, 41, 42, 43, 44, 45, 46, 47, 48, 49, 50, 51, 52, 53, 54, 55, 56, 57, 58, 59] (by decide +kernel) (by decide +kernel)
set_option maxRecDepth 20000 in
theorem gX3_workedInWeeks_X3_workedBetween : GoodIn wsX3_workedInWeeks (wsV RX3 204 RX3 yX3_workedBetween wsX3_workedBetween) := goodIn_app (goodIn_of _ (by decide +kernel)) ggX3_workedInWeeks_X3_workedBetween
theorem dX3_workedInWeeks_0 : decode cX3_workedInWeeks 0 = .ok (.aload_n 0, 1) := by decide +kernel
theorem dX3_workedInWeeks_1 : decode cX3_workedInWeeks 1 = .ok (.aload_n 1, 1) := by decide +kernel
theorem dX3_workedInWeeks_2 : decode cX3_workedInWeeks 2 = .ok (.iload_n 2, 1) := by decide +kernel
theorem dX3_workedInWeeks_3 : decode cX3_workedInWeeks 3 = .ok (.sipush 672, 3) := by decide +kernel
theorem dX3_workedInWeeks_6 : decode cX3_workedInWeeks 6 = .ok (.imul, 1) := by decide +kernel
theorem dX3_workedInWeeks_7 : decode cX3_workedInWeeks 7 = .ok (.iload_n 2, 1) := by decide +kernel
theorem dX3_workedInWeeks_8 : decode cX3_workedInWeeks 8 = .ok (.iload_n 3, 1) := by decide +kernel
theorem dX3_workedInWeeks_9 : decode cX3_workedInWeeks 9 = .ok (.iadd, 1) := by decide +kernel
theorem dX3_workedInWeeks_10 : decode cX3_workedInWeeks 10 = .ok (.sipush 672, 3) := by decide +kernel
theorem dX3_workedInWeeks_13 : decode cX3_workedInWeeks 13 = .ok (.imul, 1) := by decide +kernel
theorem dX3_workedInWeeks_14 : decode cX3_workedInWeeks 14 = .ok (.invokevirtual 204, 3) := by decide +kernel
theorem dX3_workedInWeeks_17 : decode cX3_workedInWeeks 17 = .ok (.ireturn, 1) := by decide +kernel
set_option maxRecDepth 20000 in
theorem ggX3_workedBetween_Jx4a65c_size_8abf5 : GoodIn wsX3_workedBetween wsJx4a65c_size_8abf5 := goodIn_r _ [9, 10, 52, 53, 54] (by decide +kernel) (by decide +kernel)
set_option maxRecDepth 20000 in
theorem gX3_workedBetween_Jx4a65c_size_8abf5 : GoodIn wsX3_workedBetween (wsV RX3 47 RJx4a65c yJx4a65c_size_8abf5 wsJx4a65c_size_8abf5) := goodIn_app (goodIn_of _ (by decide +kernel)) ggX3_workedBetween_Jx4a65c_size_8abf5
set_option maxRecDepth 20000 in
theorem ggX3_workedBetween_Jx4a65c_get_915e3 : GoodIn wsX3_workedBetween wsJx4a65c_get_915e3 := goodIn_r _ [14, 10, 15, 16, 17, 18, 19, 20, 21, 22, 23, 24, 25, 8, 26, 27, 52, 53, 54] (by decide +kernel) (by decide +kernel)
set_option maxRecDepth 20000 in
theorem gX3_workedBetween_Jx4a65c_get_915e3 : GoodIn wsX3_workedBetween (wsV RX3 140 RJx4a65c yJx4a65c_get_915e3 wsJx4a65c_get_915e3) := goodIn_app (goodIn_of _ (by decide +kernel)) ggX3_workedBetween_Jx4a65c_get_915e3
set_option maxRecDepth 20000 in
theorem ggX3_workedBetween_X1_ownBetween : GoodIn wsX3_workedBetween wsX1_ownBetween := goodIn_r _ [32, 33, 34, 35, 36, 37, 38, 39, 40, 41, 47, 48, 49, 50, 51] (by decide +kernel) (by decide +kernel)
set_option maxRecDepth 20000 in
theorem gX3_workedBetween_X1_ownBetween : GoodIn wsX3_workedBetween (wsV RX3 207 RX1 yX1_ownBetween wsX1_ownBetween) := goodIn_app (goodIn_of _ (by decide +kernel)) ggX3_workedBetween_X1_ownBetween
theorem dX3_workedBetween_0 : decode cX3_workedBetween 0 = .ok (.iconst 0, 1) := by decide +kernel
theorem dX3_workedBetween_1 : decode cX3_workedBetween 1 = .ok (.istore 4, 2) := by decide +kernel
theorem dX3_workedBetween_3 : decode cX3_workedBetween 3 = .ok (.iconst 0, 1) := by decide +kernel
theorem dX3_workedBetween_4 : decode cX3_workedBetween 4 = .ok (.istore 5, 2) := by decide +kernel
theorem dX3_workedBetween_6 : decode cX3_workedBetween 6 = .ok (.iload 5, 2) := by decide +kernel
theorem dX3_workedBetween_8 : decode cX3_workedBetween 8 = .ok (.aload_n 0, 1) := by decide +kernel
theorem dX3_workedBetween_9 : decode cX3_workedBetween 9 = .ok (.getfield 33, 3) := by decide +kernel
theorem dX3_workedBetween_12 : decode cX3_workedBetween 12 = .ok (.invokevirtual 47, 3) := by decide +kernel
theorem dX3_workedBetween_15 : decode cX3_workedBetween 15 = .ok (.if_icmp .ge 52, 3) := by decide +kernel
theorem dX3_workedBetween_18 : decode cX3_workedBetween 18 = .ok (.aload_n 0, 1) := by decide +kernel
theorem dX3_workedBetween_19 : decode cX3_workedBetween 19 = .ok (.getfield 33, 3) := by decide +kernel
theorem dX3_workedBetween_22 : decode cX3_workedBetween 22 = .ok (.iload 5, 2) := by decide +kernel
theorem dX3_workedBetween_24 : decode cX3_workedBetween 24 = .ok (.invokevirtual 140, 3) := by decide +kernel
theorem dX3_workedBetween_27 : decode cX3_workedBetween 27 = .ok (.checkcast 96, 3) := by decide +kernel
theorem dX3_workedBetween_30 : decode cX3_workedBetween 30 = .ok (.astore 6, 2) := by decide +kernel
theorem dX3_workedBetween_32 : decode cX3_workedBetween 32 = .ok (.aload 6, 2) := by decide +kernel
theorem dX3_workedBetween_34 : decode cX3_workedBetween 34 = .ok (.getfield 148, 3) := by decide +kernel
theorem dX3_workedBetween_37 : decode cX3_workedBetween 37 = .ok (.aload_n 1, 1) := by decide +kernel
theorem dX3_workedBetween_38 : decode cX3_workedBetween 38 = .ok (.if_acmp .ne 23, 3) := by decide +kernel
theorem dX3_workedBetween_41 : decode cX3_workedBetween 41 = .ok (.aload 6, 2) := by decide +kernel
theorem dX3_workedBetween_43 : decode cX3_workedBetween 43 = .ok (.getfield 113, 3) := by decide +kernel
theorem dX3_workedBetween_46 : decode cX3_workedBetween 46 = .ok (.ifCond .ne 15, 3) := by decide +kernel
theorem dX3_workedBetween_49 : decode cX3_workedBetween 49 = .ok (.iload 4, 2) := by decide +kernel
theorem dX3_workedBetween_51 : decode cX3_workedBetween 51 = .ok (.aload 6, 2) := by decide +kernel
theorem dX3_workedBetween_53 : decode cX3_workedBetween 53 = .ok (.iload_n 2, 1) := by decide +kernel
theorem dX3_workedBetween_54 : decode cX3_workedBetween 54 = .ok (.iload_n 3, 1) := by decide +kernel
theorem dX3_workedBetween_55 : decode cX3_workedBetween 55 = .ok (.invokevirtual 207, 3) := by decide +kernel
theorem dX3_workedBetween_58 : decode cX3_workedBetween 58 = .ok (.iadd, 1) := by decide +kernel
theorem dX3_workedBetween_59 : decode cX3_workedBetween 59 = .ok (.istore 4, 2) := by decide +kernel
theorem dX3_workedBetween_61 : decode cX3_workedBetween 61 = .ok (.iinc 5 1, 3) := by decide +kernel
theorem dX3_workedBetween_64 : decode cX3_workedBetween 64 = .ok (.goto (-58), 3) := by decide +kernel
theorem dX3_workedBetween_67 : decode cX3_workedBetween 67 = .ok (.iload 4, 2) := by decide +kernel
theorem dX3_workedBetween_69 : decode cX3_workedBetween 69 = .ok (.ireturn, 1) := by decide +kernel
theorem dJ9_max_7cf53_0 : decode cJ9_max_7cf53 0 = .ok (.iload_n 0, 1) := by decide +kernel
theorem dJ9_max_7cf53_1 : decode cJ9_max_7cf53 1 = .ok (.iload_n 1, 1) := by decide +kernel
theorem dJ9_max_7cf53_2 : decode cJ9_max_7cf53 2 = .ok (.if_icmp .lt 7, 3) := by decide +kernel
theorem dJ9_max_7cf53_5 : decode cJ9_max_7cf53 5 = .ok (.iload_n 0, 1) := by decide +kernel
theorem dJ9_max_7cf53_6 : decode cJ9_max_7cf53 6 = .ok (.goto 4, 3) := by decide +kernel
theorem dJ9_max_7cf53_9 : decode cJ9_max_7cf53 9 = .ok (.iload_n 1, 1) := by decide +kernel
theorem dJ9_max_7cf53_10 : decode cJ9_max_7cf53 10 = .ok (.ireturn, 1) := by decide +kernel
theorem dJ9_min_7cf53_0 : decode cJ9_min_7cf53 0 = .ok (.iload_n 0, 1) := by decide +kernel
theorem dJ9_min_7cf53_1 : decode cJ9_min_7cf53 1 = .ok (.iload_n 1, 1) := by decide +kernel
theorem dJ9_min_7cf53_2 : decode cJ9_min_7cf53 2 = .ok (.if_icmp .gt 7, 3) := by decide +kernel
theorem dJ9_min_7cf53_5 : decode cJ9_min_7cf53 5 = .ok (.iload_n 0, 1) := by decide +kernel
theorem dJ9_min_7cf53_6 : decode cJ9_min_7cf53 6 = .ok (.goto 4, 3) := by decide +kernel
theorem dJ9_min_7cf53_9 : decode cJ9_min_7cf53 9 = .ok (.iload_n 1, 1) := by decide +kernel
theorem dJ9_min_7cf53_10 : decode cJ9_min_7cf53 10 = .ok (.ireturn, 1) := by decide +kernel
theorem dJxa1e45_init_da8c8_0 : decode cJxa1e45_init_da8c8 0 = .ok (.aload_n 0, 1) := by decide +kernel
theorem dJxa1e45_init_da8c8_1 : decode cJxa1e45_init_da8c8 1 = .ok (.invokespecial 1, 3) := by decide +kernel
theorem dJxa1e45_init_da8c8_4 : decode cJxa1e45_init_da8c8 4 = .ok (.return_, 1) := by decide +kernel
set_option maxRecDepth 20000 in
theorem ggJxc12de_init_da8c8_Jxa1e45_init_da8c8 : GoodIn wsJxc12de_init_da8c8 wsJxa1e45_init_da8c8 := goodIn_r _ [5, 6, 7, 8] (by decide +kernel) (by decide +kernel)
set_option maxRecDepth 20000 in
theorem gJxc12de_init_da8c8_Jxa1e45_init_da8c8 : GoodIn wsJxc12de_init_da8c8 (wsJxa1e45_init_da8c8) := ggJxc12de_init_da8c8_Jxa1e45_init_da8c8
theorem dJxc12de_init_da8c8_0 : decode cJxc12de_init_da8c8 0 = .ok (.aload_n 0, 1) := by decide +kernel
theorem dJxc12de_init_da8c8_1 : decode cJxc12de_init_da8c8 1 = .ok (.invokespecial 1, 3) := by decide +kernel
theorem dJxc12de_init_da8c8_4 : decode cJxc12de_init_da8c8 4 = .ok (.aload_n 0, 1) := by decide +kernel
theorem dJxc12de_init_da8c8_5 : decode cJxc12de_init_da8c8 5 = .ok (.iconst 0, 1) := by decide +kernel
theorem dJxc12de_init_da8c8_6 : decode cJxc12de_init_da8c8 6 = .ok (.putfield 7, 3) := by decide +kernel
theorem dJxc12de_init_da8c8_9 : decode cJxc12de_init_da8c8 9 = .ok (.return_, 1) := by decide +kernel
set_option maxRecDepth 20000 in
theorem ggJx4a65c_init_da8c8_Jxc12de_init_da8c8 : GoodIn wsJx4a65c_init_da8c8 wsJxc12de_init_da8c8 := goodIn_r _ [6, 7, 8, 9, 10, 11, 12, 13, 14, 15, 16, 17] (by decide +kernel) (by decide +kernel)
set_option maxRecDepth 20000 in
theorem gJx4a65c_init_da8c8_Jxc12de_init_da8c8 : GoodIn wsJx4a65c_init_da8c8 (wsJxc12de_init_da8c8) := ggJx4a65c_init_da8c8_Jxc12de_init_da8c8
theorem dJx4a65c_init_da8c8_0 : decode cJx4a65c_init_da8c8 0 = .ok (.aload_n 0, 1) := by decide +kernel
theorem dJx4a65c_init_da8c8_1 : decode cJx4a65c_init_da8c8 1 = .ok (.invokespecial 1, 3) := by decide +kernel
theorem dJx4a65c_init_da8c8_4 : decode cJx4a65c_init_da8c8 4 = .ok (.aload_n 0, 1) := by decide +kernel
theorem dJx4a65c_init_da8c8_5 : decode cJx4a65c_init_da8c8 5 = .ok (.getstatic 39, 3) := by decide +kernel
theorem dJx4a65c_init_da8c8_8 : decode cJx4a65c_init_da8c8 8 = .ok (.putfield 9, 3) := by decide +kernel
theorem dJx4a65c_init_da8c8_11 : decode cJx4a65c_init_da8c8 11 = .ok (.return_, 1) := by decide +kernel
set_option maxRecDepth 20000 in
theorem ggJx4a65c_grow_92f84_J8_newLength_cabcc : GoodIn wsJx4a65c_grow_92f84 wsJ8_newLength_cabcc := goodIn_r _ [11, 12, 4, 5, 6, 13, 14, 15, 10, 16] (by decide +kernel) (by decide +kernel)
set_option maxRecDepth 20000 in
theorem gJx4a65c_grow_92f84_J8_newLength_cabcc : GoodIn wsJx4a65c_grow_92f84 (va_wsS RJx4a65c 73 yJ8_newLength_cabcc wsJ8_newLength_cabcc) := goodIn_app (goodIn_of _ (by decide +kernel)) ggJx4a65c_grow_92f84_J8_newLength_cabcc
set_option maxRecDepth 20000 in
theorem ggJx4a65c_grow_92f84_J7_copyOf_1904c : GoodIn wsJx4a65c_grow_92f84 wsJ7_copyOf_1904c := goodIn_r _ [20, 21, 22, 23, 24, 25, 26, 19, 27, 28, 29, 30, 31, 5, 32, 33, 34, 35, 36] (by decide +kernel) (by decide +kernel)
set_option maxRecDepth 20000 in
theorem gJx4a65c_grow_92f84_J7_copyOf_1904c : GoodIn wsJx4a65c_grow_92f84 (va_wsS RJx4a65c 66 yJ7_copyOf_1904c wsJ7_copyOf_1904c) := goodIn_app (goodIn_of _ (by decide +kernel)) ggJx4a65c_grow_92f84_J7_copyOf_1904c
theorem dJx4a65c_grow_92f84_0 : decode cJx4a65c_grow_92f84 0 = .ok (.aload_n 0, 1) := by decide +kernel
theorem dJx4a65c_grow_92f84_1 : decode cJx4a65c_grow_92f84 1 = .ok (.getfield 9, 3) := by decide +kernel
theorem dJx4a65c_grow_92f84_4 : decode cJx4a65c_grow_92f84 4 = .ok (.arraylength, 1) := by decide +kernel
theorem dJx4a65c_grow_92f84_5 : decode cJx4a65c_grow_92f84 5 = .ok (.istore_n 2, 1) := by decide +kernel
theorem dJx4a65c_grow_92f84_6 : decode cJx4a65c_grow_92f84 6 = .ok (.iload_n 2, 1) := by decide +kernel
theorem dJx4a65c_grow_92f84_7 : decode cJx4a65c_grow_92f84 7 = .ok (.ifCond .gt 13, 3) := by decide +kernel
theorem dJx4a65c_grow_92f84_10 : decode cJx4a65c_grow_92f84 10 = .ok (.aload_n 0, 1) := by decide +kernel
theorem dJx4a65c_grow_92f84_11 : decode cJx4a65c_grow_92f84 11 = .ok (.getfield 9, 3) := by decide +kernel
theorem dJx4a65c_grow_92f84_14 : decode cJx4a65c_grow_92f84 14 = .ok (.getstatic 39, 3) := by decide +kernel
theorem dJx4a65c_grow_92f84_17 : decode cJx4a65c_grow_92f84 17 = .ok (.if_acmp .eq 28, 3) := by decide +kernel
theorem dJx4a65c_grow_92f84_20 : decode cJx4a65c_grow_92f84 20 = .ok (.iload_n 2, 1) := by decide +kernel
theorem dJx4a65c_grow_92f84_21 : decode cJx4a65c_grow_92f84 21 = .ok (.iload_n 1, 1) := by decide +kernel
theorem dJx4a65c_grow_92f84_22 : decode cJx4a65c_grow_92f84 22 = .ok (.iload_n 2, 1) := by decide +kernel
theorem dJx4a65c_grow_92f84_23 : decode cJx4a65c_grow_92f84 23 = .ok (.isub, 1) := by decide +kernel
theorem dJx4a65c_grow_92f84_24 : decode cJx4a65c_grow_92f84 24 = .ok (.iload_n 2, 1) := by decide +kernel
theorem dJx4a65c_grow_92f84_25 : decode cJx4a65c_grow_92f84 25 = .ok (.iconst 1, 1) := by decide +kernel
theorem dJx4a65c_grow_92f84_26 : decode cJx4a65c_grow_92f84 26 = .ok (.ishr, 1) := by decide +kernel
theorem dJx4a65c_grow_92f84_27 : decode cJx4a65c_grow_92f84 27 = .ok (.invokestatic 73, 3) := by decide +kernel
theorem dJx4a65c_grow_92f84_30 : decode cJx4a65c_grow_92f84 30 = .ok (.istore_n 3, 1) := by decide +kernel
theorem dJx4a65c_grow_92f84_31 : decode cJx4a65c_grow_92f84 31 = .ok (.aload_n 0, 1) := by decide +kernel
theorem dJx4a65c_grow_92f84_32 : decode cJx4a65c_grow_92f84 32 = .ok (.aload_n 0, 1) := by decide +kernel
theorem dJx4a65c_grow_92f84_33 : decode cJx4a65c_grow_92f84 33 = .ok (.getfield 9, 3) := by decide +kernel
theorem dJx4a65c_grow_92f84_36 : decode cJx4a65c_grow_92f84 36 = .ok (.iload_n 3, 1) := by decide +kernel
theorem dJx4a65c_grow_92f84_37 : decode cJx4a65c_grow_92f84 37 = .ok (.invokestatic 66, 3) := by decide +kernel
theorem dJx4a65c_grow_92f84_40 : decode cJx4a65c_grow_92f84 40 = .ok (.dup_x1, 1) := by decide +kernel
theorem dJx4a65c_grow_92f84_41 : decode cJx4a65c_grow_92f84 41 = .ok (.putfield 9, 3) := by decide +kernel
theorem dJx4a65c_grow_92f84_44 : decode cJx4a65c_grow_92f84 44 = .ok (.areturn, 1) := by decide +kernel
theorem dJx4a65c_grow_92f84_45 : decode cJx4a65c_grow_92f84 45 = .ok (.aload_n 0, 1) := by decide +kernel
theorem dJx4a65c_grow_92f84_46 : decode cJx4a65c_grow_92f84 46 = .ok (.bipush 10, 2) := by decide +kernel
theorem dJx4a65c_grow_92f84_48 : decode cJx4a65c_grow_92f84 48 = .ok (.iload_n 1, 1) := by decide +kernel
theorem dJx4a65c_grow_92f84_49 : decode cJx4a65c_grow_92f84 49 = .ok (.invokestatic 79, 3) := by decide +kernel
theorem dJx4a65c_grow_92f84_52 : decode cJx4a65c_grow_92f84 52 = .ok (.anewarray 7, 3) := by decide +kernel
theorem dJx4a65c_grow_92f84_55 : decode cJx4a65c_grow_92f84 55 = .ok (.dup_x1, 1) := by decide +kernel
theorem dJx4a65c_grow_92f84_56 : decode cJx4a65c_grow_92f84 56 = .ok (.putfield 9, 3) := by decide +kernel
theorem dJx4a65c_grow_92f84_59 : decode cJx4a65c_grow_92f84 59 = .ok (.areturn, 1) := by decide +kernel
set_option maxRecDepth 20000 in
theorem ggJx4a65c_grow_d5877_Jx4a65c_grow_92f84 : GoodIn wsJx4a65c_grow_d5877 wsJx4a65c_grow_92f84 := goodIn_r _ [6, 7, 8, 9, 10, 11, 12, 13, 14, 15, 16, 17, 18, 19, 20, 21, 22, 23, 24, 25, 26, 27, 28, 29, 30, 31, 32, 33, 34, 35, 36, 37, 38, 39, 40, 41, 42, 43, 44, 45] (by decide +kernel) (by decide +kernel)
set_option maxRecDepth 20000 in
theorem gJx4a65c_grow_d5877_Jx4a65c_grow_92f84 : GoodIn wsJx4a65c_grow_d5877 (wsV RJx4a65c 69 RJx4a65c yJx4a65c_grow_92f84 wsJx4a65c_grow_92f84) := goodIn_app (goodIn_of _ (by decide +kernel)) ggJx4a65c_grow_d5877_Jx4a65c_grow_92f84
theorem dJx4a65c_grow_d5877_0 : decode cJx4a65c_grow_d5877 0 = .ok (.aload_n 0, 1) := by decide +kernel
theorem dJx4a65c_grow_d5877_1 : decode cJx4a65c_grow_d5877 1 = .ok (.aload_n 0, 1) := by decide +kernel
theorem dJx4a65c_grow_d5877_2 : decode cJx4a65c_grow_d5877 2 = .ok (.getfield 48, 3) := by decide +kernel
theorem dJx4a65c_grow_d5877_5 : decode cJx4a65c_grow_d5877 5 = .ok (.iconst 1, 1) := by decide +kernel
theorem dJx4a65c_grow_d5877_6 : decode cJx4a65c_grow_d5877 6 = .ok (.iadd, 1) := by decide +kernel
theorem dJx4a65c_grow_d5877_7 : decode cJx4a65c_grow_d5877 7 = .ok (.invokevirtual 69, 3) := by decide +kernel
theorem dJx4a65c_grow_d5877_10 : decode cJx4a65c_grow_d5877 10 = .ok (.areturn, 1) := by decide +kernel
theorem dJx4a65c_size_8abf5_0 : decode cJx4a65c_size_8abf5 0 = .ok (.aload_n 0, 1) := by decide +kernel
theorem dJx4a65c_size_8abf5_1 : decode cJx4a65c_size_8abf5 1 = .ok (.getfield 48, 3) := by decide +kernel
theorem dJx4a65c_size_8abf5_4 : decode cJx4a65c_size_8abf5 4 = .ok (.ireturn, 1) := by decide +kernel
theorem dJx4a65c_elementData_915e3_0 : decode cJx4a65c_elementData_915e3 0 = .ok (.aload_n 0, 1) := by decide +kernel
theorem dJx4a65c_elementData_915e3_1 : decode cJx4a65c_elementData_915e3 1 = .ok (.getfield 9, 3) := by decide +kernel
theorem dJx4a65c_elementData_915e3_4 : decode cJx4a65c_elementData_915e3 4 = .ok (.iload_n 1, 1) := by decide +kernel
theorem dJx4a65c_elementData_915e3_5 : decode cJx4a65c_elementData_915e3 5 = .ok (.aaload, 1) := by decide +kernel
theorem dJx4a65c_elementData_915e3_6 : decode cJx4a65c_elementData_915e3 6 = .ok (.areturn, 1) := by decide +kernel
set_option maxRecDepth 20000 in
theorem ggJx4a65c_get_915e3_J15_checkIndex_7cf53 : GoodIn wsJx4a65c_get_915e3 wsJ15_checkIndex_7cf53 := goodIn_r _ [5, 6, 7, 8, 9] (by decide +kernel) (by decide +kernel)
set_option maxRecDepth 20000 in
theorem gJx4a65c_get_915e3_J15_checkIndex_7cf53 : GoodIn wsJx4a65c_get_915e3 (va_wsS RJx4a65c 118 yJ15_checkIndex_7cf53 wsJ15_checkIndex_7cf53) := goodIn_app (goodIn_of _ (by decide +kernel)) ggJx4a65c_get_915e3_J15_checkIndex_7cf53
set_option maxRecDepth 20000 in
theorem ggJx4a65c_get_915e3_Jx4a65c_elementData_915e3 : GoodIn wsJx4a65c_get_915e3 wsJx4a65c_elementData_915e3 := goodIn_r _ [14, 15, 16, 17, 18] (by decide +kernel) (by decide +kernel)
set_option maxRecDepth 20000 in
theorem gJx4a65c_get_915e3_Jx4a65c_elementData_915e3 : GoodIn wsJx4a65c_get_915e3 (wsV RJx4a65c 123 RJx4a65c yJx4a65c_elementData_915e3 wsJx4a65c_elementData_915e3) := goodIn_app (goodIn_of _ (by decide +kernel)) ggJx4a65c_get_915e3_Jx4a65c_elementData_915e3
theorem dJx4a65c_get_915e3_0 : decode cJx4a65c_get_915e3 0 = .ok (.iload_n 1, 1) := by decide +kernel
theorem dJx4a65c_get_915e3_1 : decode cJx4a65c_get_915e3 1 = .ok (.aload_n 0, 1) := by decide +kernel
theorem dJx4a65c_get_915e3_2 : decode cJx4a65c_get_915e3 2 = .ok (.getfield 48, 3) := by decide +kernel
theorem dJx4a65c_get_915e3_5 : decode cJx4a65c_get_915e3 5 = .ok (.invokestatic 118, 3) := by decide +kernel
theorem dJx4a65c_get_915e3_8 : decode cJx4a65c_get_915e3 8 = .ok (.pop, 1) := by decide +kernel
theorem dJx4a65c_get_915e3_9 : decode cJx4a65c_get_915e3 9 = .ok (.aload_n 0, 1) := by decide +kernel
theorem dJx4a65c_get_915e3_10 : decode cJx4a65c_get_915e3 10 = .ok (.iload_n 1, 1) := by decide +kernel
theorem dJx4a65c_get_915e3_11 : decode cJx4a65c_get_915e3 11 = .ok (.invokevirtual 123, 3) := by decide +kernel
theorem dJx4a65c_get_915e3_14 : decode cJx4a65c_get_915e3 14 = .ok (.areturn, 1) := by decide +kernel
set_option maxRecDepth 20000 in
theorem ggJx4a65c_add_72be8_Jx4a65c_grow_d5877 : GoodIn wsJx4a65c_add_72be8 wsJx4a65c_grow_d5877 := goodIn_r _ [6, 1, 7, 8, 9, 5, 10, 11, 12, 13, 14, 15, 16, 17, 18, 19, 20, 21, 22, 23, 24, 25, 26, 27, 28, 29, 30, 31, 32, 33, 34, 35, 36, 37, 38, 39, 40, 41, 42, 43, 44, 45, 46, 47, 48, 49] (by decide +kernel) (by decide +kernel)
set_option maxRecDepth 20000 in
theorem gJx4a65c_add_72be8_Jx4a65c_grow_d5877 : GoodIn wsJx4a65c_add_72be8 (wsV RJx4a65c 129 RJx4a65c yJx4a65c_grow_d5877 wsJx4a65c_grow_d5877) := goodIn_app (goodIn_of _ (by decide +kernel)) ggJx4a65c_add_72be8_Jx4a65c_grow_d5877
theorem dJx4a65c_add_72be8_0 : decode cJx4a65c_add_72be8 0 = .ok (.iload_n 3, 1) := by decide +kernel
theorem dJx4a65c_add_72be8_1 : decode cJx4a65c_add_72be8 1 = .ok (.aload_n 2, 1) := by decide +kernel
theorem dJx4a65c_add_72be8_2 : decode cJx4a65c_add_72be8 2 = .ok (.arraylength, 1) := by decide +kernel
theorem dJx4a65c_add_72be8_3 : decode cJx4a65c_add_72be8 3 = .ok (.if_icmp .ne 8, 3) := by decide +kernel
theorem dJx4a65c_add_72be8_6 : decode cJx4a65c_add_72be8 6 = .ok (.aload_n 0, 1) := by decide +kernel
theorem dJx4a65c_add_72be8_7 : decode cJx4a65c_add_72be8 7 = .ok (.invokevirtual 129, 3) := by decide +kernel
theorem dJx4a65c_add_72be8_10 : decode cJx4a65c_add_72be8 10 = .ok (.astore_n 2, 1) := by decide +kernel
theorem dJx4a65c_add_72be8_11 : decode cJx4a65c_add_72be8 11 = .ok (.aload_n 2, 1) := by decide +kernel
theorem dJx4a65c_add_72be8_12 : decode cJx4a65c_add_72be8 12 = .ok (.iload_n 3, 1) := by decide +kernel
theorem dJx4a65c_add_72be8_13 : decode cJx4a65c_add_72be8 13 = .ok (.aload_n 1, 1) := by decide +kernel
theorem dJx4a65c_add_72be8_14 : decode cJx4a65c_add_72be8 14 = .ok (.aastore, 1) := by decide +kernel
theorem dJx4a65c_add_72be8_15 : decode cJx4a65c_add_72be8 15 = .ok (.aload_n 0, 1) := by decide +kernel
theorem dJx4a65c_add_72be8_16 : decode cJx4a65c_add_72be8 16 = .ok (.iload_n 3, 1) := by decide +kernel
theorem dJx4a65c_add_72be8_17 : decode cJx4a65c_add_72be8 17 = .ok (.iconst 1, 1) := by decide +kernel
theorem dJx4a65c_add_72be8_18 : decode cJx4a65c_add_72be8 18 = .ok (.iadd, 1) := by decide +kernel
theorem dJx4a65c_add_72be8_19 : decode cJx4a65c_add_72be8 19 = .ok (.putfield 48, 3) := by decide +kernel
theorem dJx4a65c_add_72be8_22 : decode cJx4a65c_add_72be8 22 = .ok (.return_, 1) := by decide +kernel
set_option maxRecDepth 20000 in
theorem ggJx4a65c_add_9ea2d_Jx4a65c_add_72be8 : GoodIn wsJx4a65c_add_9ea2d wsJx4a65c_add_72be8 := goodIn_r _ [9, 4, 10, 11, 12, 8, 13, 14, 15, 16, 17, 3, 18, 19, 20, 21, 22, 23, 24, 25, 26, 27, 28, 29, 30, 31, 32, 33, 34, 35, 36, 37, 38, 39, 40, 41, 42, 43, 44, 45, 46, 47, 48, 49, 50, 51, 52, 53, 54, 55] (by decide +kernel) (by decide +kernel)
set_option maxRecDepth 20000 in
theorem gJx4a65c_add_9ea2d_Jx4a65c_add_72be8 : GoodIn wsJx4a65c_add_9ea2d (wsV RJx4a65c 131 RJx4a65c yJx4a65c_add_72be8 wsJx4a65c_add_72be8) := goodIn_app (goodIn_of _ (by decide +kernel)) ggJx4a65c_add_9ea2d_Jx4a65c_add_72be8
theorem dJx4a65c_add_9ea2d_0 : decode cJx4a65c_add_9ea2d 0 = .ok (.aload_n 0, 1) := by decide +kernel
theorem dJx4a65c_add_9ea2d_1 : decode cJx4a65c_add_9ea2d 1 = .ok (.dup, 1) := by decide +kernel
theorem dJx4a65c_add_9ea2d_2 : decode cJx4a65c_add_9ea2d 2 = .ok (.getfield 63, 3) := by decide +kernel
theorem dJx4a65c_add_9ea2d_5 : decode cJx4a65c_add_9ea2d 5 = .ok (.iconst 1, 1) := by decide +kernel
theorem dJx4a65c_add_9ea2d_6 : decode cJx4a65c_add_9ea2d 6 = .ok (.iadd, 1) := by decide +kernel
theorem dJx4a65c_add_9ea2d_7 : decode cJx4a65c_add_9ea2d 7 = .ok (.putfield 63, 3) := by decide +kernel
theorem dJx4a65c_add_9ea2d_10 : decode cJx4a65c_add_9ea2d 10 = .ok (.aload_n 0, 1) := by decide +kernel
theorem dJx4a65c_add_9ea2d_11 : decode cJx4a65c_add_9ea2d 11 = .ok (.aload_n 1, 1) := by decide +kernel
theorem dJx4a65c_add_9ea2d_12 : decode cJx4a65c_add_9ea2d 12 = .ok (.aload_n 0, 1) := by decide +kernel
theorem dJx4a65c_add_9ea2d_13 : decode cJx4a65c_add_9ea2d 13 = .ok (.getfield 9, 3) := by decide +kernel
theorem dJx4a65c_add_9ea2d_16 : decode cJx4a65c_add_9ea2d 16 = .ok (.aload_n 0, 1) := by decide +kernel
theorem dJx4a65c_add_9ea2d_17 : decode cJx4a65c_add_9ea2d 17 = .ok (.getfield 48, 3) := by decide +kernel
theorem dJx4a65c_add_9ea2d_20 : decode cJx4a65c_add_9ea2d 20 = .ok (.invokevirtual 131, 3) := by decide +kernel
theorem dJx4a65c_add_9ea2d_23 : decode cJx4a65c_add_9ea2d 23 = .ok (.iconst 1, 1) := by decide +kernel
theorem dJx4a65c_add_9ea2d_24 : decode cJx4a65c_add_9ea2d 24 = .ok (.ireturn, 1) := by decide +kernel
theorem dJ7_fill_53178_0 : decode cJ7_fill_53178 0 = .ok (.iconst 0, 1) := by decide +kernel
theorem dJ7_fill_53178_1 : decode cJ7_fill_53178 1 = .ok (.istore_n 2, 1) := by decide +kernel
theorem dJ7_fill_53178_2 : decode cJ7_fill_53178 2 = .ok (.aload_n 0, 1) := by decide +kernel
theorem dJ7_fill_53178_3 : decode cJ7_fill_53178 3 = .ok (.arraylength, 1) := by decide +kernel
theorem dJ7_fill_53178_4 : decode cJ7_fill_53178 4 = .ok (.istore_n 3, 1) := by decide +kernel
theorem dJ7_fill_53178_5 : decode cJ7_fill_53178 5 = .ok (.iload_n 2, 1) := by decide +kernel
theorem dJ7_fill_53178_6 : decode cJ7_fill_53178 6 = .ok (.iload_n 3, 1) := by decide +kernel
theorem dJ7_fill_53178_7 : decode cJ7_fill_53178 7 = .ok (.if_icmp .ge 13, 3) := by decide +kernel
theorem dJ7_fill_53178_10 : decode cJ7_fill_53178 10 = .ok (.aload_n 0, 1) := by decide +kernel
theorem dJ7_fill_53178_11 : decode cJ7_fill_53178 11 = .ok (.iload_n 2, 1) := by decide +kernel
theorem dJ7_fill_53178_12 : decode cJ7_fill_53178 12 = .ok (.iload_n 1, 1) := by decide +kernel
theorem dJ7_fill_53178_13 : decode cJ7_fill_53178 13 = .ok (.iastore, 1) := by decide +kernel
theorem dJ7_fill_53178_14 : decode cJ7_fill_53178 14 = .ok (.iinc 2 1, 3) := by decide +kernel
theorem dJ7_fill_53178_17 : decode cJ7_fill_53178 17 = .ok (.goto (-12), 3) := by decide +kernel
theorem dJ7_fill_53178_20 : decode cJ7_fill_53178 20 = .ok (.return_, 1) := by decide +kernel
set_option maxRecDepth 20000 in
theorem ggJ7_copyOf_1904c_J7_copyOf_6403c : GoodIn wsJ7_copyOf_1904c wsJ7_copyOf_6403c := goodIn_r _ [8, 9, 10, 11, 12, 13, 14, 15, 16, 17, 18] (by decide +kernel) (by decide +kernel)
set_option maxRecDepth 20000 in
theorem gJ7_copyOf_1904c_J7_copyOf_6403c : GoodIn wsJ7_copyOf_1904c (va_wsS RJ7 300 yJ7_copyOf_6403c wsJ7_copyOf_6403c) := goodIn_app (goodIn_of _ (by decide +kernel)) ggJ7_copyOf_1904c_J7_copyOf_6403c
theorem dJ7_copyOf_1904c_0 : decode cJ7_copyOf_1904c 0 = .ok (.aload_n 0, 1) := by decide +kernel
theorem dJ7_copyOf_1904c_1 : decode cJ7_copyOf_1904c 1 = .ok (.iload_n 1, 1) := by decide +kernel
theorem dJ7_copyOf_1904c_2 : decode cJ7_copyOf_1904c 2 = .ok (.aload_n 0, 1) := by decide +kernel
theorem dJ7_copyOf_1904c_3 : decode cJ7_copyOf_1904c 3 = .ok (.invokevirtual 86, 3) := by decide +kernel
theorem dJ7_copyOf_1904c_6 : decode cJ7_copyOf_1904c 6 = .ok (.invokestatic 300, 3) := by decide +kernel
theorem dJ7_copyOf_1904c_9 : decode cJ7_copyOf_1904c 9 = .ok (.areturn, 1) := by decide +kernel
theorem dJ7_copyOf_6403c_0 : decode cJ7_copyOf_6403c 0 = .ok (.aload_n 2, 1) := by decide +kernel
theorem dJ7_copyOf_6403c_1 : decode cJ7_copyOf_6403c 1 = .ok (.ldc 110, 2) := by decide +kernel
theorem dJ7_copyOf_6403c_3 : decode cJ7_copyOf_6403c 3 = .ok (.if_acmp .ne 10, 3) := by decide +kernel
theorem dJ7_copyOf_6403c_6 : decode cJ7_copyOf_6403c 6 = .ok (.iload_n 1, 1) := by decide +kernel
theorem dJ7_copyOf_6403c_7 : decode cJ7_copyOf_6403c 7 = .ok (.anewarray 2, 3) := by decide +kernel
theorem dJ7_copyOf_6403c_10 : decode cJ7_copyOf_6403c 10 = .ok (.goto 14, 3) := by decide +kernel
theorem dJ7_copyOf_6403c_13 : decode cJ7_copyOf_6403c 13 = .ok (.aload_n 2, 1) := by decide +kernel
theorem dJ7_copyOf_6403c_14 : decode cJ7_copyOf_6403c 14 = .ok (.invokevirtual 90, 3) := by decide +kernel
theorem dJ7_copyOf_6403c_17 : decode cJ7_copyOf_6403c 17 = .ok (.iload_n 1, 1) := by decide +kernel
theorem dJ7_copyOf_6403c_18 : decode cJ7_copyOf_6403c 18 = .ok (.invokestatic 95, 3) := by decide +kernel
theorem dJ7_copyOf_6403c_21 : decode cJ7_copyOf_6403c 21 = .ok (.checkcast 110, 3) := by decide +kernel
theorem dJ7_copyOf_6403c_24 : decode cJ7_copyOf_6403c 24 = .ok (.astore_n 3, 1) := by decide +kernel
theorem dJ7_copyOf_6403c_25 : decode cJ7_copyOf_6403c 25 = .ok (.aload_n 0, 1) := by decide +kernel
theorem dJ7_copyOf_6403c_26 : decode cJ7_copyOf_6403c 26 = .ok (.iconst 0, 1) := by decide +kernel
theorem dJ7_copyOf_6403c_27 : decode cJ7_copyOf_6403c 27 = .ok (.aload_n 3, 1) := by decide +kernel
theorem dJ7_copyOf_6403c_28 : decode cJ7_copyOf_6403c 28 = .ok (.iconst 0, 1) := by decide +kernel
theorem dJ7_copyOf_6403c_29 : decode cJ7_copyOf_6403c 29 = .ok (.aload_n 0, 1) := by decide +kernel
theorem dJ7_copyOf_6403c_30 : decode cJ7_copyOf_6403c 30 = .ok (.arraylength, 1) := by decide +kernel
theorem dJ7_copyOf_6403c_31 : decode cJ7_copyOf_6403c 31 = .ok (.iload_n 1, 1) := by decide +kernel
theorem dJ7_copyOf_6403c_32 : decode cJ7_copyOf_6403c 32 = .ok (.invokestatic 304, 3) := by decide +kernel
theorem dJ7_copyOf_6403c_35 : decode cJ7_copyOf_6403c 35 = .ok (.invokestatic 150, 3) := by decide +kernel
theorem dJ7_copyOf_6403c_38 : decode cJ7_copyOf_6403c 38 = .ok (.aload_n 3, 1) := by decide +kernel
theorem dJ7_copyOf_6403c_39 : decode cJ7_copyOf_6403c 39 = .ok (.areturn, 1) := by decide +kernel
set_option maxRecDepth 20000 in
theorem ggJ15_checkIndex_7cf53_J3_checkIndex_8e157 : GoodIn wsJ15_checkIndex_7cf53 wsJ3_checkIndex_8e157 := goodIn_r _ [4] (by decide +kernel) (by decide +kernel)
set_option maxRecDepth 20000 in
theorem gJ15_checkIndex_7cf53_J3_checkIndex_8e157 : GoodIn wsJ15_checkIndex_7cf53 (va_wsS RJ15 105 yJ3_checkIndex_8e157 wsJ3_checkIndex_8e157) := goodIn_app (goodIn_of _ (by decide +kernel)) ggJ15_checkIndex_7cf53_J3_checkIndex_8e157
theorem dJ15_checkIndex_7cf53_0 : decode cJ15_checkIndex_7cf53 0 = .ok (.iload_n 0, 1) := by decide +kernel
theorem dJ15_checkIndex_7cf53_1 : decode cJ15_checkIndex_7cf53 1 = .ok (.iload_n 1, 1) := by decide +kernel
theorem dJ15_checkIndex_7cf53_2 : decode cJ15_checkIndex_7cf53 2 = .ok (.aconst_null, 1) := by decide +kernel
theorem dJ15_checkIndex_7cf53_3 : decode cJ15_checkIndex_7cf53 3 = .ok (.invokestatic 105, 3) := by decide +kernel
theorem dJ15_checkIndex_7cf53_6 : decode cJ15_checkIndex_7cf53 6 = .ok (.ireturn, 1) := by decide +kernel
set_option maxRecDepth 20000 in
theorem ggJ8_newLength_cabcc_J8_hugeLength_7cf53 : GoodIn wsJ8_newLength_cabcc wsJ8_hugeLength_7cf53 := goodIn_r _ [9, 5] (by decide +kernel) (by decide +kernel)
set_option maxRecDepth 20000 in
theorem gJ8_newLength_cabcc_J8_hugeLength_7cf53 : GoodIn wsJ8_newLength_cabcc (va_wsS RJ8 201 yJ8_hugeLength_7cf53 wsJ8_hugeLength_7cf53) := goodIn_app (goodIn_of _ (by decide +kernel)) ggJ8_newLength_cabcc_J8_hugeLength_7cf53
theorem dJ8_newLength_cabcc_0 : decode cJ8_newLength_cabcc 0 = .ok (.iload_n 0, 1) := by decide +kernel
theorem dJ8_newLength_cabcc_1 : decode cJ8_newLength_cabcc 1 = .ok (.iload_n 1, 1) := by decide +kernel
theorem dJ8_newLength_cabcc_2 : decode cJ8_newLength_cabcc 2 = .ok (.iload_n 2, 1) := by decide +kernel
theorem dJ8_newLength_cabcc_3 : decode cJ8_newLength_cabcc 3 = .ok (.invokestatic 194, 3) := by decide +kernel
theorem dJ8_newLength_cabcc_6 : decode cJ8_newLength_cabcc 6 = .ok (.iadd, 1) := by decide +kernel
theorem dJ8_newLength_cabcc_7 : decode cJ8_newLength_cabcc 7 = .ok (.istore_n 3, 1) := by decide +kernel
theorem dJ8_newLength_cabcc_8 : decode cJ8_newLength_cabcc 8 = .ok (.iconst 0, 1) := by decide +kernel
theorem dJ8_newLength_cabcc_9 : decode cJ8_newLength_cabcc 9 = .ok (.iload_n 3, 1) := by decide +kernel
theorem dJ8_newLength_cabcc_10 : decode cJ8_newLength_cabcc 10 = .ok (.if_icmp .ge 11, 3) := by decide +kernel
theorem dJ8_newLength_cabcc_13 : decode cJ8_newLength_cabcc 13 = .ok (.iload_n 3, 1) := by decide +kernel
theorem dJ8_newLength_cabcc_14 : decode cJ8_newLength_cabcc 14 = .ok (.ldc 200, 2) := by decide +kernel
theorem dJ8_newLength_cabcc_16 : decode cJ8_newLength_cabcc 16 = .ok (.if_icmp .gt 5, 3) := by decide +kernel
theorem dJ8_newLength_cabcc_19 : decode cJ8_newLength_cabcc 19 = .ok (.iload_n 3, 1) := by decide +kernel
theorem dJ8_newLength_cabcc_20 : decode cJ8_newLength_cabcc 20 = .ok (.ireturn, 1) := by decide +kernel
theorem dJ8_newLength_cabcc_21 : decode cJ8_newLength_cabcc 21 = .ok (.iload_n 0, 1) := by decide +kernel
theorem dJ8_newLength_cabcc_22 : decode cJ8_newLength_cabcc 22 = .ok (.iload_n 1, 1) := by decide +kernel
theorem dJ8_newLength_cabcc_23 : decode cJ8_newLength_cabcc 23 = .ok (.invokestatic 201, 3) := by decide +kernel
theorem dJ8_newLength_cabcc_26 : decode cJ8_newLength_cabcc 26 = .ok (.ireturn, 1) := by decide +kernel
theorem dJ8_hugeLength_7cf53_0 : decode cJ8_hugeLength_7cf53 0 = .ok (.iload_n 0, 1) := by decide +kernel
theorem dJ8_hugeLength_7cf53_1 : decode cJ8_hugeLength_7cf53 1 = .ok (.iload_n 1, 1) := by decide +kernel
theorem dJ8_hugeLength_7cf53_2 : decode cJ8_hugeLength_7cf53 2 = .ok (.iadd, 1) := by decide +kernel
theorem dJ8_hugeLength_7cf53_3 : decode cJ8_hugeLength_7cf53 3 = .ok (.istore_n 2, 1) := by decide +kernel
theorem dJ8_hugeLength_7cf53_4 : decode cJ8_hugeLength_7cf53 4 = .ok (.iload_n 2, 1) := by decide +kernel
theorem dJ8_hugeLength_7cf53_5 : decode cJ8_hugeLength_7cf53 5 = .ok (.ifCond .ge 44, 3) := by decide +kernel
theorem dJ8_hugeLength_7cf53_8 : decode cJ8_hugeLength_7cf53 8 = .ok (.new 204, 3) := by decide +kernel
theorem dJ8_hugeLength_7cf53_11 : decode cJ8_hugeLength_7cf53 11 = .ok (.dup, 1) := by decide +kernel
theorem dJ8_hugeLength_7cf53_12 : decode cJ8_hugeLength_7cf53 12 = .ok (.new 89, 3) := by decide +kernel
theorem dJ8_hugeLength_7cf53_15 : decode cJ8_hugeLength_7cf53 15 = .ok (.dup, 1) := by decide +kernel
theorem dJ8_hugeLength_7cf53_16 : decode cJ8_hugeLength_7cf53 16 = .ok (.invokespecial 91, 3) := by decide +kernel
theorem dJ8_hugeLength_7cf53_19 : decode cJ8_hugeLength_7cf53 19 = .ok (.ldc 206, 2) := by decide +kernel
theorem dJ8_hugeLength_7cf53_21 : decode cJ8_hugeLength_7cf53 21 = .ok (.invokevirtual 94, 3) := by decide +kernel
theorem dJ8_hugeLength_7cf53_24 : decode cJ8_hugeLength_7cf53 24 = .ok (.iload_n 0, 1) := by decide +kernel
theorem dJ8_hugeLength_7cf53_25 : decode cJ8_hugeLength_7cf53 25 = .ok (.invokevirtual 98, 3) := by decide +kernel
theorem dJ8_hugeLength_7cf53_28 : decode cJ8_hugeLength_7cf53 28 = .ok (.ldc 208, 2) := by decide +kernel
theorem dJ8_hugeLength_7cf53_30 : decode cJ8_hugeLength_7cf53 30 = .ok (.invokevirtual 94, 3) := by decide +kernel
theorem dJ8_hugeLength_7cf53_33 : decode cJ8_hugeLength_7cf53 33 = .ok (.iload_n 1, 1) := by decide +kernel
theorem dJ8_hugeLength_7cf53_34 : decode cJ8_hugeLength_7cf53 34 = .ok (.invokevirtual 98, 3) := by decide +kernel
theorem dJ8_hugeLength_7cf53_37 : decode cJ8_hugeLength_7cf53 37 = .ok (.ldc 210, 2) := by decide +kernel
theorem dJ8_hugeLength_7cf53_39 : decode cJ8_hugeLength_7cf53 39 = .ok (.invokevirtual 94, 3) := by decide +kernel
theorem dJ8_hugeLength_7cf53_42 : decode cJ8_hugeLength_7cf53 42 = .ok (.invokevirtual 101, 3) := by decide +kernel
theorem dJ8_hugeLength_7cf53_45 : decode cJ8_hugeLength_7cf53 45 = .ok (.invokespecial 212, 3) := by decide +kernel
theorem dJ8_hugeLength_7cf53_48 : decode cJ8_hugeLength_7cf53 48 = .ok (.athrow, 1) := by decide +kernel
theorem dJ8_hugeLength_7cf53_49 : decode cJ8_hugeLength_7cf53 49 = .ok (.iload_n 2, 1) := by decide +kernel
theorem dJ8_hugeLength_7cf53_50 : decode cJ8_hugeLength_7cf53 50 = .ok (.ldc 200, 2) := by decide +kernel
theorem dJ8_hugeLength_7cf53_52 : decode cJ8_hugeLength_7cf53 52 = .ok (.if_icmp .gt 6, 3) := by decide +kernel
theorem dJ8_hugeLength_7cf53_55 : decode cJ8_hugeLength_7cf53 55 = .ok (.ldc 200, 2) := by decide +kernel
theorem dJ8_hugeLength_7cf53_57 : decode cJ8_hugeLength_7cf53 57 = .ok (.ireturn, 1) := by decide +kernel
theorem dJ8_hugeLength_7cf53_58 : decode cJ8_hugeLength_7cf53 58 = .ok (.iload_n 2, 1) := by decide +kernel
theorem dJ8_hugeLength_7cf53_59 : decode cJ8_hugeLength_7cf53 59 = .ok (.ireturn, 1) := by decide +kernel
theorem dJ3_checkIndex_8e157_0 : decode cJ3_checkIndex_8e157 0 = .ok (.iload_n 0, 1) := by decide +kernel
theorem dJ3_checkIndex_8e157_1 : decode cJ3_checkIndex_8e157 1 = .ok (.ifCond .lt 8, 3) := by decide +kernel
theorem dJ3_checkIndex_8e157_4 : decode cJ3_checkIndex_8e157 4 = .ok (.iload_n 0, 1) := by decide +kernel
theorem dJ3_checkIndex_8e157_5 : decode cJ3_checkIndex_8e157 5 = .ok (.iload_n 1, 1) := by decide +kernel
theorem dJ3_checkIndex_8e157_6 : decode cJ3_checkIndex_8e157 6 = .ok (.if_icmp .lt 10, 3) := by decide +kernel
theorem dJ3_checkIndex_8e157_9 : decode cJ3_checkIndex_8e157 9 = .ok (.aload_n 2, 1) := by decide +kernel
theorem dJ3_checkIndex_8e157_10 : decode cJ3_checkIndex_8e157 10 = .ok (.iload_n 0, 1) := by decide +kernel
theorem dJ3_checkIndex_8e157_11 : decode cJ3_checkIndex_8e157 11 = .ok (.iload_n 1, 1) := by decide +kernel
theorem dJ3_checkIndex_8e157_12 : decode cJ3_checkIndex_8e157 12 = .ok (.invokestatic 95, 3) := by decide +kernel
theorem dJ3_checkIndex_8e157_15 : decode cJ3_checkIndex_8e157 15 = .ok (.athrow, 1) := by decide +kernel
theorem dJ3_checkIndex_8e157_16 : decode cJ3_checkIndex_8e157 16 = .ok (.iload_n 0, 1) := by decide +kernel
theorem dJ3_checkIndex_8e157_17 : decode cJ3_checkIndex_8e157 17 = .ok (.ireturn, 1) := by decide +kernel
