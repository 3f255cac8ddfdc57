theorem dX11_rate_0 : decode cX11_rate 0 = .ok (.iload_n 1, 1) := by decide +kernel
theorem dX11_rate_1 : decode cX11_rate 1 = .ok (.ifCond .lt 23, 3) := by decide +kernel
theorem dX11_rate_4 : decode cX11_rate 4 = .ok (.iload_n 1, 1) := by decide +kernel
theorem dX11_rate_5 : decode cX11_rate 5 = .ok (.aload_n 0, 1) := by decide +kernel
theorem dX11_rate_6 : decode cX11_rate 6 = .ok (.getfield 55, 3) := by decide +kernel
theorem dX11_rate_9 : decode cX11_rate 9 = .ok (.arraylength, 1) := by decide +kernel
theorem dX11_rate_10 : decode cX11_rate 10 = .ok (.if_icmp .ge 14, 3) := by decide +kernel
theorem dX11_rate_13 : decode cX11_rate 13 = .ok (.aload_n 0, 1) := by decide +kernel
theorem dX11_rate_14 : decode cX11_rate 14 = .ok (.getfield 75, 3) := by decide +kernel
theorem dX11_rate_17 : decode cX11_rate 17 = .ok (.iload_n 2, 1) := by decide +kernel
theorem dX11_rate_18 : decode cX11_rate 18 = .ok (.invokevirtual 129, 3) := by decide +kernel
theorem dX11_rate_21 : decode cX11_rate 21 = .ok (.ifCond .ne 6, 3) := by decide +kernel
theorem dX11_rate_24 : decode cX11_rate 24 = .ok (.ldc 248, 2) := by decide +kernel
theorem dX11_rate_26 : decode cX11_rate 26 = .ok (.ireturn, 1) := by decide +kernel
theorem dX11_rate_27 : decode cX11_rate 27 = .ok (.aload_n 0, 1) := by decide +kernel
theorem dX11_rate_28 : decode cX11_rate 28 = .ok (.getfield 55, 3) := by decide +kernel
theorem dX11_rate_31 : decode cX11_rate 31 = .ok (.iload_n 1, 1) := by decide +kernel
theorem dX11_rate_32 : decode cX11_rate 32 = .ok (.aaload, 1) := by decide +kernel
theorem dX11_rate_33 : decode cX11_rate 33 = .ok (.astore_n 3, 1) := by decide +kernel
theorem dX11_rate_34 : decode cX11_rate 34 = .ok (.aload_n 3, 1) := by decide +kernel
theorem dX11_rate_35 : decode cX11_rate 35 = .ok (.ifnonnull 6, 3) := by decide +kernel
theorem dX11_rate_38 : decode cX11_rate 38 = .ok (.ldc 248, 2) := by decide +kernel
theorem dX11_rate_40 : decode cX11_rate 40 = .ok (.ireturn, 1) := by decide +kernel
theorem dX11_rate_41 : decode cX11_rate 41 = .ok (.aload_n 3, 1) := by decide +kernel
theorem dX11_rate_42 : decode cX11_rate 42 = .ok (.lconst 0, 1) := by decide +kernel
theorem dX11_rate_43 : decode cX11_rate 43 = .ok (.putfield 249, 3) := by decide +kernel
theorem dX11_rate_46 : decode cX11_rate 46 = .ok (.aload_n 3, 1) := by decide +kernel
theorem dX11_rate_47 : decode cX11_rate 47 = .ok (.aload_n 0, 1) := by decide +kernel
theorem dX11_rate_48 : decode cX11_rate 48 = .ok (.getfield 19, 3) := by decide +kernel
theorem dX11_rate_51 : decode cX11_rate 51 = .ok (.iload_n 2, 1) := by decide +kernel
theorem dX11_rate_52 : decode cX11_rate 52 = .ok (.invokevirtual 253, 3) := by decide +kernel
theorem dX11_rate_55 : decode cX11_rate 55 = .ok (.istore 4, 2) := by decide +kernel
theorem dX11_rate_57 : decode cX11_rate 57 = .ok (.aload_n 0, 1) := by decide +kernel
theorem dX11_rate_58 : decode cX11_rate 58 = .ok (.dup, 1) := by decide +kernel
theorem dX11_rate_59 : decode cX11_rate 59 = .ok (.getfield 257, 3) := by decide +kernel
theorem dX11_rate_62 : decode cX11_rate 62 = .ok (.aload_n 3, 1) := by decide +kernel
theorem dX11_rate_63 : decode cX11_rate 63 = .ok (.getfield 249, 3) := by decide +kernel
theorem dX11_rate_66 : decode cX11_rate 66 = .ok (.ladd, 1) := by decide +kernel
theorem dX11_rate_67 : decode cX11_rate 67 = .ok (.putfield 257, 3) := by decide +kernel
theorem dX11_rate_70 : decode cX11_rate 70 = .ok (.iload 4, 2) := by decide +kernel
theorem dX11_rate_72 : decode cX11_rate 72 = .ok (.ireturn, 1) := by decide +kernel
set_option maxRecDepth 20000 in
theorem ggX11_keep_X11_isZeroOrOne : GoodIn wsX11_keep wsX11_isZeroOrOne := goodIn_r _ [6] (by decide +kernel) (by decide +kernel)
set_option maxRecDepth 20000 in
theorem gX11_keep_X11_isZeroOrOne : GoodIn wsX11_keep (va_wsS RX11 201 yX11_isZeroOrOne wsX11_isZeroOrOne) := goodIn_app (goodIn_of _ (by decide +kernel)) ggX11_keep_X11_isZeroOrOne
set_option maxRecDepth 20000 in
theorem ggX11_keep_X9_keepImage : GoodIn wsX11_keep wsX9_keepImage := goodIn_r _ [11, 12, 13, 14, 15, 16, 17, 18, 38, 39, 40, 41, 42, 43] (by decide +kernel) (by decide +kernel)
set_option maxRecDepth 20000 in
theorem gX11_keep_X9_keepImage : GoodIn wsX11_keep (wsV RX11 260 RX9 yX9_keepImage wsX9_keepImage) := goodIn_app (goodIn_of _ (by decide +kernel)) ggX11_keep_X9_keepImage
set_option maxRecDepth 20000 in
theorem ggX11_keep_X8_nightNumber : GoodIn wsX11_keep wsX8_nightNumber := goodIn_r _ [23, 24, 38] (by decide +kernel) (by decide +kernel)
set_option maxRecDepth 20000 in
theorem gX11_keep_X8_nightNumber : GoodIn wsX11_keep (wsV RX11 145 RX8 yX8_nightNumber wsX8_nightNumber) := goodIn_app (goodIn_of _ (by decide +kernel)) ggX11_keep_X8_nightNumber
theorem dX11_keep_0 : decode cX11_keep 0 = .ok (.iload_n 1, 1) := by decide +kernel
theorem dX11_keep_1 : decode cX11_keep 1 = .ok (.invokestatic 201, 3) := by decide +kernel
theorem dX11_keep_4 : decode cX11_keep 4 = .ok (.ifCond .ne 5, 3) := by decide +kernel
theorem dX11_keep_7 : decode cX11_keep 7 = .ok (.iconst (-1), 1) := by decide +kernel
theorem dX11_keep_8 : decode cX11_keep 8 = .ok (.ireturn, 1) := by decide +kernel
theorem dX11_keep_9 : decode cX11_keep 9 = .ok (.aload_n 0, 1) := by decide +kernel
theorem dX11_keep_10 : decode cX11_keep 10 = .ok (.getfield 26, 3) := by decide +kernel
theorem dX11_keep_13 : decode cX11_keep 13 = .ok (.iload_n 1, 1) := by decide +kernel
theorem dX11_keep_14 : decode cX11_keep 14 = .ok (.aload_n 0, 1) := by decide +kernel
theorem dX11_keep_15 : decode cX11_keep 15 = .ok (.getfield 19, 3) := by decide +kernel
theorem dX11_keep_18 : decode cX11_keep 18 = .ok (.invokevirtual 260, 3) := by decide +kernel
theorem dX11_keep_21 : decode cX11_keep 21 = .ok (.aload_n 0, 1) := by decide +kernel
theorem dX11_keep_22 : decode cX11_keep 22 = .ok (.getfield 19, 3) := by decide +kernel
theorem dX11_keep_25 : decode cX11_keep 25 = .ok (.invokevirtual 145, 3) := by decide +kernel
theorem dX11_keep_28 : decode cX11_keep 28 = .ok (.ireturn, 1) := by decide +kernel
set_option maxRecDepth 20000 in
theorem ggX11_back_X11_isZeroOrOne : GoodIn wsX11_back wsX11_isZeroOrOne := goodIn_r _ [6] (by decide +kernel) (by decide +kernel)
set_option maxRecDepth 20000 in
theorem gX11_back_X11_isZeroOrOne : GoodIn wsX11_back (va_wsS RX11 201 yX11_isZeroOrOne wsX11_isZeroOrOne) := goodIn_app (goodIn_of _ (by decide +kernel)) ggX11_back_X11_isZeroOrOne
set_option maxRecDepth 20000 in
theorem ggX11_back_X9_restoreImage : GoodIn wsX11_back wsX9_restoreImage := goodIn_r _ [11, 12, 13, 14, 15, 16, 17, 18, 19, 39, 40, 41, 42, 43, 44] (by decide +kernel) (by decide +kernel)
set_option maxRecDepth 20000 in
theorem gX11_back_X9_restoreImage : GoodIn wsX11_back (wsV RX11 264 RX9 yX9_restoreImage wsX9_restoreImage) := goodIn_app (goodIn_of _ (by decide +kernel)) ggX11_back_X9_restoreImage
set_option maxRecDepth 20000 in
theorem ggX11_back_X8_nightNumber : GoodIn wsX11_back wsX8_nightNumber := goodIn_r _ [24, 25, 44] (by decide +kernel) (by decide +kernel)
set_option maxRecDepth 20000 in
theorem gX11_back_X8_nightNumber : GoodIn wsX11_back (wsV RX11 145 RX8 yX8_nightNumber wsX8_nightNumber) := goodIn_app (goodIn_of _ (by decide +kernel)) ggX11_back_X8_nightNumber
theorem dX11_back_0 : decode cX11_back 0 = .ok (.iload_n 1, 1) := by decide +kernel
theorem dX11_back_1 : decode cX11_back 1 = .ok (.invokestatic 201, 3) := by decide +kernel
theorem dX11_back_4 : decode cX11_back 4 = .ok (.ifCond .ne 5, 3) := by decide +kernel
theorem dX11_back_7 : decode cX11_back 7 = .ok (.iconst (-1), 1) := by decide +kernel
theorem dX11_back_8 : decode cX11_back 8 = .ok (.ireturn, 1) := by decide +kernel
theorem dX11_back_9 : decode cX11_back 9 = .ok (.aload_n 0, 1) := by decide +kernel
theorem dX11_back_10 : decode cX11_back 10 = .ok (.getfield 26, 3) := by decide +kernel
theorem dX11_back_13 : decode cX11_back 13 = .ok (.iload_n 1, 1) := by decide +kernel
theorem dX11_back_14 : decode cX11_back 14 = .ok (.aload_n 0, 1) := by decide +kernel
theorem dX11_back_15 : decode cX11_back 15 = .ok (.getfield 19, 3) := by decide +kernel
theorem dX11_back_18 : decode cX11_back 18 = .ok (.invokevirtual 264, 3) := by decide +kernel
theorem dX11_back_21 : decode cX11_back 21 = .ok (.ifCond .eq 13, 3) := by decide +kernel
theorem dX11_back_24 : decode cX11_back 24 = .ok (.aload_n 0, 1) := by decide +kernel
theorem dX11_back_25 : decode cX11_back 25 = .ok (.getfield 19, 3) := by decide +kernel
theorem dX11_back_28 : decode cX11_back 28 = .ok (.invokevirtual 145, 3) := by decide +kernel
theorem dX11_back_31 : decode cX11_back 31 = .ok (.goto 5, 3) := by decide +kernel
theorem dX11_back_34 : decode cX11_back 34 = .ok (.bipush (-2), 2) := by decide +kernel
theorem dX11_back_36 : decode cX11_back 36 = .ok (.ireturn, 1) := by decide +kernel
theorem dX11_count_0 : decode cX11_count 0 = .ok (.iload_n 1, 1) := by decide +kernel
theorem dX11_count_1 : decode cX11_count 1 = .ok (.tableswitch 60 0 3 #[31, 39, 47, 52], 31) := by decide +kernel
theorem dX11_count_32 : decode cX11_count 32 = .ok (.aload_n 0, 1) := by decide +kernel
theorem dX11_count_33 : decode cX11_count 33 = .ok (.getfield 75, 3) := by decide +kernel
theorem dX11_count_36 : decode cX11_count 36 = .ok (.getfield 204, 3) := by decide +kernel
theorem dX11_count_39 : decode cX11_count 39 = .ok (.ireturn, 1) := by decide +kernel
theorem dX11_count_40 : decode cX11_count 40 = .ok (.aload_n 0, 1) := by decide +kernel
theorem dX11_count_41 : decode cX11_count 41 = .ok (.getfield 75, 3) := by decide +kernel
theorem dX11_count_44 : decode cX11_count 44 = .ok (.getfield 226, 3) := by decide +kernel
theorem dX11_count_47 : decode cX11_count 47 = .ok (.ireturn, 1) := by decide +kernel
theorem dX11_count_48 : decode cX11_count 48 = .ok (.aload_n 0, 1) := by decide +kernel
theorem dX11_count_49 : decode cX11_count 49 = .ok (.getfield 104, 3) := by decide +kernel
theorem dX11_count_52 : decode cX11_count 52 = .ok (.ireturn, 1) := by decide +kernel
theorem dX11_count_53 : decode cX11_count 53 = .ok (.aload_n 0, 1) := by decide +kernel
theorem dX11_count_54 : decode cX11_count 54 = .ok (.getfield 12, 3) := by decide +kernel
theorem dX11_count_57 : decode cX11_count 57 = .ok (.getfield 90, 3) := by decide +kernel
theorem dX11_count_60 : decode cX11_count 60 = .ok (.ireturn, 1) := by decide +kernel
theorem dX11_count_61 : decode cX11_count 61 = .ok (.iconst (-1), 1) := by decide +kernel
theorem dX11_count_62 : decode cX11_count 62 = .ok (.ireturn, 1) := by decide +kernel
theorem dX11_trace_0 : decode cX11_trace 0 = .ok (.aload_n 0, 1) := by decide +kernel
theorem dX11_trace_1 : decode cX11_trace 1 = .ok (.getfield 257, 3) := by decide +kernel
theorem dX11_trace_4 : decode cX11_trace 4 = .ok (.lreturn, 1) := by decide +kernel
theorem dX11_isThing_0 : decode cX11_isThing 0 = .ok (.iload_n 0, 1) := by decide +kernel
theorem dX11_isThing_1 : decode cX11_isThing 1 = .ok (.ifCond .lt 13, 3) := by decide +kernel
theorem dX11_isThing_4 : decode cX11_isThing 4 = .ok (.iload_n 0, 1) := by decide +kernel
theorem dX11_isThing_5 : decode cX11_isThing 5 = .ok (.bipush 7, 2) := by decide +kernel
theorem dX11_isThing_7 : decode cX11_isThing 7 = .ok (.if_icmp .ge 7, 3) := by decide +kernel
theorem dX11_isThing_10 : decode cX11_isThing 10 = .ok (.iconst 1, 1) := by decide +kernel
theorem dX11_isThing_11 : decode cX11_isThing 11 = .ok (.goto 4, 3) := by decide +kernel
theorem dX11_isThing_14 : decode cX11_isThing 14 = .ok (.iconst 0, 1) := by decide +kernel
theorem dX11_isThing_15 : decode cX11_isThing 15 = .ok (.ireturn, 1) := by decide +kernel
theorem dX11_isDraw_0 : decode cX11_isDraw 0 = .ok (.iload_n 0, 1) := by decide +kernel
theorem dX11_isDraw_1 : decode cX11_isDraw 1 = .ok (.ifCond .lt 14, 3) := by decide +kernel
theorem dX11_isDraw_4 : decode cX11_isDraw 4 = .ok (.iload_n 0, 1) := by decide +kernel
theorem dX11_isDraw_5 : decode cX11_isDraw 5 = .ok (.sipush 10000, 3) := by decide +kernel
theorem dX11_isDraw_8 : decode cX11_isDraw 8 = .ok (.if_icmp .ge 7, 3) := by decide +kernel
theorem dX11_isDraw_11 : decode cX11_isDraw 11 = .ok (.iconst 1, 1) := by decide +kernel
theorem dX11_isDraw_12 : decode cX11_isDraw 12 = .ok (.goto 4, 3) := by decide +kernel
theorem dX11_isDraw_15 : decode cX11_isDraw 15 = .ok (.iconst 0, 1) := by decide +kernel
theorem dX11_isDraw_16 : decode cX11_isDraw 16 = .ok (.ireturn, 1) := by decide +kernel
theorem dX11_isZeroOrOne_0 : decode cX11_isZeroOrOne 0 = .ok (.iload_n 0, 1) := by decide +kernel
theorem dX11_isZeroOrOne_1 : decode cX11_isZeroOrOne 1 = .ok (.ifCond .eq 8, 3) := by decide +kernel
theorem dX11_isZeroOrOne_4 : decode cX11_isZeroOrOne 4 = .ok (.iload_n 0, 1) := by decide +kernel
theorem dX11_isZeroOrOne_5 : decode cX11_isZeroOrOne 5 = .ok (.iconst 1, 1) := by decide +kernel
theorem dX11_isZeroOrOne_6 : decode cX11_isZeroOrOne 6 = .ok (.if_icmp .ne 7, 3) := by decide +kernel
theorem dX11_isZeroOrOne_9 : decode cX11_isZeroOrOne 9 = .ok (.iconst 1, 1) := by decide +kernel
theorem dX11_isZeroOrOne_10 : decode cX11_isZeroOrOne 10 = .ok (.goto 4, 3) := by decide +kernel
theorem dX11_isZeroOrOne_13 : decode cX11_isZeroOrOne 13 = .ok (.iconst 0, 1) := by decide +kernel
theorem dX11_isZeroOrOne_14 : decode cX11_isZeroOrOne 14 = .ok (.ireturn, 1) := by decide +kernel
set_option maxRecDepth 20000 in
theorem ggX11_areTwoPillows_X10_hasPillow : GoodIn wsX11_areTwoPillows wsX10_hasPillow := goodIn_r _ [6, 7, 21, 22, 23, 24, 25] (by decide +kernel) (by decide +kernel)
set_option maxRecDepth 20000 in
theorem gX11_areTwoPillows_X10_hasPillow : GoodIn wsX11_areTwoPillows (wsV RX11 129 RX10 yX10_hasPillow wsX10_hasPillow) := goodIn_app (goodIn_of _ (by decide +kernel)) ggX11_areTwoPillows_X10_hasPillow
theorem dX11_areTwoPillows_0 : decode cX11_areTwoPillows 0 = .ok (.aload_n 0, 1) := by decide +kernel
theorem dX11_areTwoPillows_1 : decode cX11_areTwoPillows 1 = .ok (.getfield 75, 3) := by decide +kernel
theorem dX11_areTwoPillows_4 : decode cX11_areTwoPillows 4 = .ok (.iload_n 1, 1) := by decide +kernel
theorem dX11_areTwoPillows_5 : decode cX11_areTwoPillows 5 = .ok (.invokevirtual 129, 3) := by decide +kernel
theorem dX11_areTwoPillows_8 : decode cX11_areTwoPillows 8 = .ok (.ifCond .eq 23, 3) := by decide +kernel
theorem dX11_areTwoPillows_11 : decode cX11_areTwoPillows 11 = .ok (.aload_n 0, 1) := by decide +kernel
theorem dX11_areTwoPillows_12 : decode cX11_areTwoPillows 12 = .ok (.getfield 75, 3) := by decide +kernel
theorem dX11_areTwoPillows_15 : decode cX11_areTwoPillows 15 = .ok (.iload_n 2, 1) := by decide +kernel
theorem dX11_areTwoPillows_16 : decode cX11_areTwoPillows 16 = .ok (.invokevirtual 129, 3) := by decide +kernel
theorem dX11_areTwoPillows_19 : decode cX11_areTwoPillows 19 = .ok (.ifCond .eq 12, 3) := by decide +kernel
theorem dX11_areTwoPillows_22 : decode cX11_areTwoPillows 22 = .ok (.iload_n 1, 1) := by decide +kernel
theorem dX11_areTwoPillows_23 : decode cX11_areTwoPillows 23 = .ok (.iload_n 2, 1) := by decide +kernel
theorem dX11_areTwoPillows_24 : decode cX11_areTwoPillows 24 = .ok (.if_icmp .eq 7, 3) := by decide +kernel
theorem dX11_areTwoPillows_27 : decode cX11_areTwoPillows 27 = .ok (.iconst 1, 1) := by decide +kernel
theorem dX11_areTwoPillows_28 : decode cX11_areTwoPillows 28 = .ok (.goto 4, 3) := by decide +kernel
theorem dX11_areTwoPillows_31 : decode cX11_areTwoPillows 31 = .ok (.iconst 0, 1) := by decide +kernel
theorem dX11_areTwoPillows_32 : decode cX11_areTwoPillows 32 = .ok (.ireturn, 1) := by decide +kernel
set_option maxRecDepth 20000 in
theorem ggX11_fewerOf_J6_bitCount_0f7a4 : GoodIn wsX11_fewerOf wsJ6_bitCount_0f7a4 := goodIn_r _ [4, 5, 6, 7] (by decide +kernel) (by decide +kernel)
set_option maxRecDepth 20000 in
theorem gX11_fewerOf_J6_bitCount_0f7a4 : GoodIn wsX11_fewerOf (va_wsS RX11 182 yJ6_bitCount_0f7a4 wsJ6_bitCount_0f7a4) := goodIn_app (goodIn_of _ (by decide +kernel)) ggX11_fewerOf_J6_bitCount_0f7a4
theorem dX11_fewerOf_0 : decode cX11_fewerOf 0 = .ok (.iload_n 0, 1) := by decide +kernel
theorem dX11_fewerOf_1 : decode cX11_fewerOf 1 = .ok (.bipush (-9), 2) := by decide +kernel
theorem dX11_fewerOf_3 : decode cX11_fewerOf 3 = .ok (.if_icmp .eq 14, 3) := by decide +kernel
theorem dX11_fewerOf_6 : decode cX11_fewerOf 6 = .ok (.iload_n 1, 1) := by decide +kernel
theorem dX11_fewerOf_7 : decode cX11_fewerOf 7 = .ok (.invokestatic 182, 3) := by decide +kernel
theorem dX11_fewerOf_10 : decode cX11_fewerOf 10 = .ok (.iload_n 0, 1) := by decide +kernel
theorem dX11_fewerOf_11 : decode cX11_fewerOf 11 = .ok (.invokestatic 182, 3) := by decide +kernel
theorem dX11_fewerOf_14 : decode cX11_fewerOf 14 = .ok (.if_icmp .ge 7, 3) := by decide +kernel
theorem dX11_fewerOf_17 : decode cX11_fewerOf 17 = .ok (.iload_n 1, 1) := by decide +kernel
theorem dX11_fewerOf_18 : decode cX11_fewerOf 18 = .ok (.goto 4, 3) := by decide +kernel
theorem dX11_fewerOf_21 : decode cX11_fewerOf 21 = .ok (.iload_n 0, 1) := by decide +kernel
theorem dX11_fewerOf_22 : decode cX11_fewerOf 22 = .ok (.ireturn, 1) := by decide +kernel
set_option maxRecDepth 20000 in
theorem ggX11_safePillows_X8_sleepersOn : GoodIn wsX11_safePillows wsX8_sleepersOn := goodIn_r _ [9, 10, 11, 12, 8, 13, 14, 40] (by decide +kernel) (by decide +kernel)
set_option maxRecDepth 20000 in
theorem gX11_safePillows_X8_sleepersOn : GoodIn wsX11_safePillows (wsV RX11 135 RX8 yX8_sleepersOn wsX8_sleepersOn) := goodIn_app (goodIn_of _ (by decide +kernel)) ggX11_safePillows_X8_sleepersOn
set_option maxRecDepth 20000 in
theorem ggX11_safePillows_X10_knownTo : GoodIn wsX11_safePillows wsX10_knownTo := goodIn_r _ [19, 20, 21, 35, 36, 37, 38, 39] (by decide +kernel) (by decide +kernel)
set_option maxRecDepth 20000 in
theorem gX11_safePillows_X10_knownTo : GoodIn wsX11_safePillows (wsV RX11 207 RX10 yX10_knownTo wsX10_knownTo) := goodIn_app (goodIn_of _ (by decide +kernel)) ggX11_safePillows_X10_knownTo
theorem dX11_safePillows_0 : decode cX11_safePillows 0 = .ok (.iconst 0, 1) := by decide +kernel
theorem dX11_safePillows_1 : decode cX11_safePillows 1 = .ok (.istore_n 2, 1) := by decide +kernel
theorem dX11_safePillows_2 : decode cX11_safePillows 2 = .ok (.iconst 0, 1) := by decide +kernel
theorem dX11_safePillows_3 : decode cX11_safePillows 3 = .ok (.istore_n 3, 1) := by decide +kernel
theorem dX11_safePillows_4 : decode cX11_safePillows 4 = .ok (.iload_n 3, 1) := by decide +kernel
theorem dX11_safePillows_5 : decode cX11_safePillows 5 = .ok (.aload_n 0, 1) := by decide +kernel
theorem dX11_safePillows_6 : decode cX11_safePillows 6 = .ok (.getfield 75, 3) := by decide +kernel
theorem dX11_safePillows_9 : decode cX11_safePillows 9 = .ok (.getfield 226, 3) := by decide +kernel
theorem dX11_safePillows_12 : decode cX11_safePillows 12 = .ok (.if_icmp .ge 53, 3) := by decide +kernel
theorem dX11_safePillows_15 : decode cX11_safePillows 15 = .ok (.aload_n 0, 1) := by decide +kernel
theorem dX11_safePillows_16 : decode cX11_safePillows 16 = .ok (.getfield 19, 3) := by decide +kernel
theorem dX11_safePillows_19 : decode cX11_safePillows 19 = .ok (.iload_n 3, 1) := by decide +kernel
theorem dX11_safePillows_20 : decode cX11_safePillows 20 = .ok (.invokevirtual 135, 3) := by decide +kernel
theorem dX11_safePillows_23 : decode cX11_safePillows 23 = .ok (.iconst 1, 1) := by decide +kernel
theorem dX11_safePillows_24 : decode cX11_safePillows 24 = .ok (.iload_n 1, 1) := by decide +kernel
theorem dX11_safePillows_25 : decode cX11_safePillows 25 = .ok (.ishl, 1) := by decide +kernel
theorem dX11_safePillows_26 : decode cX11_safePillows 26 = .ok (.iconst (-1), 1) := by decide +kernel
theorem dX11_safePillows_27 : decode cX11_safePillows 27 = .ok (.ixor, 1) := by decide +kernel
theorem dX11_safePillows_28 : decode cX11_safePillows 28 = .ok (.iand, 1) := by decide +kernel
theorem dX11_safePillows_29 : decode cX11_safePillows 29 = .ok (.istore 4, 2) := by decide +kernel
theorem dX11_safePillows_31 : decode cX11_safePillows 31 = .ok (.aload_n 0, 1) := by decide +kernel
theorem dX11_safePillows_32 : decode cX11_safePillows 32 = .ok (.getfield 75, 3) := by decide +kernel
theorem dX11_safePillows_35 : decode cX11_safePillows 35 = .ok (.iload 4, 2) := by decide +kernel
theorem dX11_safePillows_37 : decode cX11_safePillows 37 = .ok (.invokevirtual 207, 3) := by decide +kernel
theorem dX11_safePillows_40 : decode cX11_safePillows 40 = .ok (.aload_n 0, 1) := by decide +kernel
theorem dX11_safePillows_41 : decode cX11_safePillows 41 = .ok (.getfield 75, 3) := by decide +kernel
theorem dX11_safePillows_44 : decode cX11_safePillows 44 = .ok (.getfield 110, 3) := by decide +kernel
theorem dX11_safePillows_47 : decode cX11_safePillows 47 = .ok (.iload_n 1, 1) := by decide +kernel
theorem dX11_safePillows_48 : decode cX11_safePillows 48 = .ok (.iaload, 1) := by decide +kernel
theorem dX11_safePillows_49 : decode cX11_safePillows 49 = .ok (.iand, 1) := by decide +kernel
theorem dX11_safePillows_50 : decode cX11_safePillows 50 = .ok (.ifCond .ne 9, 3) := by decide +kernel
theorem dX11_safePillows_53 : decode cX11_safePillows 53 = .ok (.iload_n 2, 1) := by decide +kernel
theorem dX11_safePillows_54 : decode cX11_safePillows 54 = .ok (.iconst 1, 1) := by decide +kernel
theorem dX11_safePillows_55 : decode cX11_safePillows 55 = .ok (.iload_n 3, 1) := by decide +kernel
theorem dX11_safePillows_56 : decode cX11_safePillows 56 = .ok (.ishl, 1) := by decide +kernel
theorem dX11_safePillows_57 : decode cX11_safePillows 57 = .ok (.ior, 1) := by decide +kernel
theorem dX11_safePillows_58 : decode cX11_safePillows 58 = .ok (.istore_n 2, 1) := by decide +kernel
theorem dX11_safePillows_59 : decode cX11_safePillows 59 = .ok (.iinc 3 1, 3) := by decide +kernel
theorem dX11_safePillows_62 : decode cX11_safePillows 62 = .ok (.goto (-58), 3) := by decide +kernel
theorem dX11_safePillows_65 : decode cX11_safePillows 65 = .ok (.iload_n 2, 1) := by decide +kernel
theorem dX11_safePillows_66 : decode cX11_safePillows 66 = .ok (.ireturn, 1) := by decide +kernel
set_option maxRecDepth 20000 in
theorem ggX11_listen_J7_fill_53178 : GoodIn wsX11_listen wsJ7_fill_53178 := goodIn_r _ [8] (by decide +kernel) (by decide +kernel)
set_option maxRecDepth 20000 in
theorem gX11_listen_J7_fill_53178 : GoodIn wsX11_listen (va_wsS RX11 268 yJ7_fill_53178 wsJ7_fill_53178) := goodIn_app (goodIn_of _ (by decide +kernel)) ggX11_listen_J7_fill_53178
set_option maxRecDepth 20000 in
theorem ggX11_listen_X8_bedOf : GoodIn wsX11_listen wsX8_bedOf := goodIn_r _ [13, 14, 55] (by decide +kernel) (by decide +kernel)
set_option maxRecDepth 20000 in
theorem gX11_listen_X8_bedOf : GoodIn wsX11_listen (wsV RX11 116 RX8 yX8_bedOf wsX8_bedOf) := goodIn_app (goodIn_of _ (by decide +kernel)) ggX11_listen_X8_bedOf
set_option maxRecDepth 20000 in
theorem ggX11_listen_X10_thingSaid : GoodIn wsX11_listen wsX10_thingSaid := goodIn_r _ [19, 20, 21, 22, 23, 24, 25, 26, 27, 28, 29, 30, 31, 32, 33, 34, 35, 18, 36, 50, 51, 52, 53, 54] (by decide +kernel) (by decide +kernel)
set_option maxRecDepth 20000 in
theorem gX11_listen_X10_thingSaid : GoodIn wsX11_listen (wsV RX11 274 RX10 yX10_thingSaid wsX10_thingSaid) := goodIn_app (goodIn_of _ (by decide +kernel)) ggX11_listen_X10_thingSaid
theorem dX11_listen_0 : decode cX11_listen 0 = .ok (.aload_n 0, 1) := by decide +kernel
theorem dX11_listen_1 : decode cX11_listen 1 = .ok (.getfield 69, 3) := by decide +kernel
theorem dX11_listen_4 : decode cX11_listen 4 = .ok (.iconst 0, 1) := by decide +kernel
theorem dX11_listen_5 : decode cX11_listen 5 = .ok (.invokestatic 268, 3) := by decide +kernel
theorem dX11_listen_8 : decode cX11_listen 8 = .ok (.iconst 0, 1) := by decide +kernel
theorem dX11_listen_9 : decode cX11_listen 9 = .ok (.istore_n 3, 1) := by decide +kernel
theorem dX11_listen_10 : decode cX11_listen 10 = .ok (.iload_n 3, 1) := by decide +kernel
theorem dX11_listen_11 : decode cX11_listen 11 = .ok (.aload_n 0, 1) := by decide +kernel
theorem dX11_listen_12 : decode cX11_listen 12 = .ok (.getfield 75, 3) := by decide +kernel
theorem dX11_listen_15 : decode cX11_listen 15 = .ok (.getfield 204, 3) := by decide +kernel
theorem dX11_listen_18 : decode cX11_listen 18 = .ok (.if_icmp .ge 65, 3) := by decide +kernel
theorem dX11_listen_21 : decode cX11_listen 21 = .ok (.aload_n 0, 1) := by decide +kernel
theorem dX11_listen_22 : decode cX11_listen 22 = .ok (.getfield 19, 3) := by decide +kernel
theorem dX11_listen_25 : decode cX11_listen 25 = .ok (.iload_n 3, 1) := by decide +kernel
theorem dX11_listen_26 : decode cX11_listen 26 = .ok (.invokevirtual 116, 3) := by decide +kernel
theorem dX11_listen_29 : decode cX11_listen 29 = .ok (.istore 4, 2) := by decide +kernel
theorem dX11_listen_31 : decode cX11_listen 31 = .ok (.aload_n 0, 1) := by decide +kernel
theorem dX11_listen_32 : decode cX11_listen 32 = .ok (.getfield 75, 3) := by decide +kernel
theorem dX11_listen_35 : decode cX11_listen 35 = .ok (.iload_n 3, 1) := by decide +kernel
theorem dX11_listen_36 : decode cX11_listen 36 = .ok (.iload_n 1, 1) := by decide +kernel
theorem dX11_listen_37 : decode cX11_listen 37 = .ok (.iload_n 2, 1) := by decide +kernel
theorem dX11_listen_38 : decode cX11_listen 38 = .ok (.invokevirtual 274, 3) := by decide +kernel
theorem dX11_listen_41 : decode cX11_listen 41 = .ok (.istore 5, 2) := by decide +kernel
theorem dX11_listen_43 : decode cX11_listen 43 = .ok (.iload 4, 2) := by decide +kernel
theorem dX11_listen_45 : decode cX11_listen 45 = .ok (.ifCond .lt 32, 3) := by decide +kernel
theorem dX11_listen_48 : decode cX11_listen 48 = .ok (.iload 4, 2) := by decide +kernel
theorem dX11_listen_50 : decode cX11_listen 50 = .ok (.aload_n 0, 1) := by decide +kernel
theorem dX11_listen_51 : decode cX11_listen 51 = .ok (.getfield 69, 3) := by decide +kernel
theorem dX11_listen_54 : decode cX11_listen 54 = .ok (.arraylength, 1) := by decide +kernel
theorem dX11_listen_55 : decode cX11_listen 55 = .ok (.if_icmp .ge 22, 3) := by decide +kernel
theorem dX11_listen_58 : decode cX11_listen 58 = .ok (.iload 5, 2) := by decide +kernel
theorem dX11_listen_60 : decode cX11_listen 60 = .ok (.ifCond .lt 17, 3) := by decide +kernel
theorem dX11_listen_63 : decode cX11_listen 63 = .ok (.aload_n 0, 1) := by decide +kernel
theorem dX11_listen_64 : decode cX11_listen 64 = .ok (.getfield 69, 3) := by decide +kernel
theorem dX11_listen_67 : decode cX11_listen 67 = .ok (.iload 4, 2) := by decide +kernel
theorem dX11_listen_69 : decode cX11_listen 69 = .ok (.dup2, 1) := by decide +kernel
theorem dX11_listen_70 : decode cX11_listen 70 = .ok (.iaload, 1) := by decide +kernel
theorem dX11_listen_71 : decode cX11_listen 71 = .ok (.iconst 1, 1) := by decide +kernel
theorem dX11_listen_72 : decode cX11_listen 72 = .ok (.iload 5, 2) := by decide +kernel
theorem dX11_listen_74 : decode cX11_listen 74 = .ok (.ishl, 1) := by decide +kernel
theorem dX11_listen_75 : decode cX11_listen 75 = .ok (.ior, 1) := by decide +kernel
theorem dX11_listen_76 : decode cX11_listen 76 = .ok (.iastore, 1) := by decide +kernel
theorem dX11_listen_77 : decode cX11_listen 77 = .ok (.iinc 3 1, 3) := by decide +kernel
theorem dX11_listen_80 : decode cX11_listen 80 = .ok (.goto (-70), 3) := by decide +kernel
theorem dX11_listen_83 : decode cX11_listen 83 = .ok (.return_, 1) := by decide +kernel
theorem dX11_agreesWithNotes_0 : decode cX11_agreesWithNotes 0 = .ok (.iconst 0, 1) := by decide +kernel
theorem dX11_agreesWithNotes_1 : decode cX11_agreesWithNotes 1 = .ok (.istore_n 1, 1) := by decide +kernel
theorem dX11_agreesWithNotes_2 : decode cX11_agreesWithNotes 2 = .ok (.iload_n 1, 1) := by decide +kernel
theorem dX11_agreesWithNotes_3 : decode cX11_agreesWithNotes 3 = .ok (.aload_n 0, 1) := by decide +kernel
theorem dX11_agreesWithNotes_4 : decode cX11_agreesWithNotes 4 = .ok (.getfield 104, 3) := by decide +kernel
theorem dX11_agreesWithNotes_7 : decode cX11_agreesWithNotes 7 = .ok (.if_icmp .ge 42, 3) := by decide +kernel
theorem dX11_agreesWithNotes_10 : decode cX11_agreesWithNotes 10 = .ok (.aload_n 0, 1) := by decide +kernel
theorem dX11_agreesWithNotes_11 : decode cX11_agreesWithNotes 11 = .ok (.getfield 59, 3) := by decide +kernel
theorem dX11_agreesWithNotes_14 : decode cX11_agreesWithNotes 14 = .ok (.iload_n 1, 1) := by decide +kernel
theorem dX11_agreesWithNotes_15 : decode cX11_agreesWithNotes 15 = .ok (.iaload, 1) := by decide +kernel
theorem dX11_agreesWithNotes_16 : decode cX11_agreesWithNotes 16 = .ok (.istore_n 2, 1) := by decide +kernel
theorem dX11_agreesWithNotes_17 : decode cX11_agreesWithNotes 17 = .ok (.aload_n 0, 1) := by decide +kernel
theorem dX11_agreesWithNotes_18 : decode cX11_agreesWithNotes 18 = .ok (.getfield 69, 3) := by decide +kernel
theorem dX11_agreesWithNotes_21 : decode cX11_agreesWithNotes 21 = .ok (.iload_n 2, 1) := by decide +kernel
theorem dX11_agreesWithNotes_22 : decode cX11_agreesWithNotes 22 = .ok (.iaload, 1) := by decide +kernel
theorem dX11_agreesWithNotes_23 : decode cX11_agreesWithNotes 23 = .ok (.aload_n 0, 1) := by decide +kernel
theorem dX11_agreesWithNotes_24 : decode cX11_agreesWithNotes 24 = .ok (.getfield 63, 3) := by decide +kernel
theorem dX11_agreesWithNotes_27 : decode cX11_agreesWithNotes 27 = .ok (.iload_n 1, 1) := by decide +kernel
theorem dX11_agreesWithNotes_28 : decode cX11_agreesWithNotes 28 = .ok (.iaload, 1) := by decide +kernel
theorem dX11_agreesWithNotes_29 : decode cX11_agreesWithNotes 29 = .ok (.ishr, 1) := by decide +kernel
theorem dX11_agreesWithNotes_30 : decode cX11_agreesWithNotes 30 = .ok (.iconst 1, 1) := by decide +kernel
theorem dX11_agreesWithNotes_31 : decode cX11_agreesWithNotes 31 = .ok (.iand, 1) := by decide +kernel
theorem dX11_agreesWithNotes_32 : decode cX11_agreesWithNotes 32 = .ok (.aload_n 0, 1) := by decide +kernel
theorem dX11_agreesWithNotes_33 : decode cX11_agreesWithNotes 33 = .ok (.getfield 66, 3) := by decide +kernel
theorem dX11_agreesWithNotes_36 : decode cX11_agreesWithNotes 36 = .ok (.iload_n 1, 1) := by decide +kernel
theorem dX11_agreesWithNotes_37 : decode cX11_agreesWithNotes 37 = .ok (.iaload, 1) := by decide +kernel
theorem dX11_agreesWithNotes_38 : decode cX11_agreesWithNotes 38 = .ok (.if_icmp .eq 5, 3) := by decide +kernel
theorem dX11_agreesWithNotes_41 : decode cX11_agreesWithNotes 41 = .ok (.iconst 0, 1) := by decide +kernel
theorem dX11_agreesWithNotes_42 : decode cX11_agreesWithNotes 42 = .ok (.ireturn, 1) := by decide +kernel
theorem dX11_agreesWithNotes_43 : decode cX11_agreesWithNotes 43 = .ok (.iinc 1 1, 3) := by decide +kernel
theorem dX11_agreesWithNotes_46 : decode cX11_agreesWithNotes 46 = .ok (.goto (-44), 3) := by decide +kernel
theorem dX11_agreesWithNotes_49 : decode cX11_agreesWithNotes 49 = .ok (.iconst 1, 1) := by decide +kernel
theorem dX11_agreesWithNotes_50 : decode cX11_agreesWithNotes 50 = .ok (.ireturn, 1) := by decide +kernel
theorem dX11_commonDivisor_0 : decode cX11_commonDivisor 0 = .ok (.iload_n 0, 1) := by decide +kernel
theorem dX11_commonDivisor_1 : decode cX11_commonDivisor 1 = .ok (.istore_n 2, 1) := by decide +kernel
theorem dX11_commonDivisor_2 : decode cX11_commonDivisor 2 = .ok (.iload_n 1, 1) := by decide +kernel
theorem dX11_commonDivisor_3 : decode cX11_commonDivisor 3 = .ok (.istore_n 3, 1) := by decide +kernel
theorem dX11_commonDivisor_4 : decode cX11_commonDivisor 4 = .ok (.iconst 0, 1) := by decide +kernel
theorem dX11_commonDivisor_5 : decode cX11_commonDivisor 5 = .ok (.istore 4, 2) := by decide +kernel
theorem dX11_commonDivisor_7 : decode cX11_commonDivisor 7 = .ok (.iload 4, 2) := by decide +kernel
theorem dX11_commonDivisor_9 : decode cX11_commonDivisor 9 = .ok (.bipush 100, 2) := by decide +kernel
theorem dX11_commonDivisor_11 : decode cX11_commonDivisor 11 = .ok (.if_icmp .ge 23, 3) := by decide +kernel
theorem dX11_commonDivisor_14 : decode cX11_commonDivisor 14 = .ok (.iload_n 3, 1) := by decide +kernel
theorem dX11_commonDivisor_15 : decode cX11_commonDivisor 15 = .ok (.ifCond .eq 19, 3) := by decide +kernel
theorem dX11_commonDivisor_18 : decode cX11_commonDivisor 18 = .ok (.iload_n 2, 1) := by decide +kernel
theorem dX11_commonDivisor_19 : decode cX11_commonDivisor 19 = .ok (.iload_n 3, 1) := by decide +kernel
theorem dX11_commonDivisor_20 : decode cX11_commonDivisor 20 = .ok (.irem, 1) := by decide +kernel
theorem dX11_commonDivisor_21 : decode cX11_commonDivisor 21 = .ok (.istore 5, 2) := by decide +kernel
theorem dX11_commonDivisor_23 : decode cX11_commonDivisor 23 = .ok (.iload_n 3, 1) := by decide +kernel
theorem dX11_commonDivisor_24 : decode cX11_commonDivisor 24 = .ok (.istore_n 2, 1) := by decide +kernel
theorem dX11_commonDivisor_25 : decode cX11_commonDivisor 25 = .ok (.iload 5, 2) := by decide +kernel
theorem dX11_commonDivisor_27 : decode cX11_commonDivisor 27 = .ok (.istore_n 3, 1) := by decide +kernel
theorem dX11_commonDivisor_28 : decode cX11_commonDivisor 28 = .ok (.iinc 4 1, 3) := by decide +kernel
theorem dX11_commonDivisor_31 : decode cX11_commonDivisor 31 = .ok (.goto (-24), 3) := by decide +kernel
theorem dX11_commonDivisor_34 : decode cX11_commonDivisor 34 = .ok (.iload_n 2, 1) := by decide +kernel
theorem dX11_commonDivisor_35 : decode cX11_commonDivisor 35 = .ok (.ifCond .ne 7, 3) := by decide +kernel
theorem dX11_commonDivisor_38 : decode cX11_commonDivisor 38 = .ok (.iconst 1, 1) := by decide +kernel
theorem dX11_commonDivisor_39 : decode cX11_commonDivisor 39 = .ok (.goto 4, 3) := by decide +kernel
theorem dX11_commonDivisor_42 : decode cX11_commonDivisor 42 = .ok (.iload_n 2, 1) := by decide +kernel
theorem dX11_commonDivisor_43 : decode cX11_commonDivisor 43 = .ok (.ireturn, 1) := by decide +kernel
theorem dX11_power_0 : decode cX11_power 0 = .ok (.lconst 1, 1) := by decide +kernel
theorem dX11_power_1 : decode cX11_power 1 = .ok (.lstore_n 2, 1) := by decide +kernel
theorem dX11_power_2 : decode cX11_power 2 = .ok (.iconst 0, 1) := by decide +kernel
theorem dX11_power_3 : decode cX11_power 3 = .ok (.istore 4, 2) := by decide +kernel
theorem dX11_power_5 : decode cX11_power 5 = .ok (.iload 4, 2) := by decide +kernel
theorem dX11_power_7 : decode cX11_power 7 = .ok (.iload_n 1, 1) := by decide +kernel
theorem dX11_power_8 : decode cX11_power 8 = .ok (.if_icmp .ge 14, 3) := by decide +kernel
theorem dX11_power_11 : decode cX11_power 11 = .ok (.lload_n 2, 1) := by decide +kernel
theorem dX11_power_12 : decode cX11_power 12 = .ok (.iload_n 0, 1) := by decide +kernel
theorem dX11_power_13 : decode cX11_power 13 = .ok (.i2l, 1) := by decide +kernel
theorem dX11_power_14 : decode cX11_power 14 = .ok (.lmul, 1) := by decide +kernel
theorem dX11_power_15 : decode cX11_power 15 = .ok (.lstore_n 2, 1) := by decide +kernel
theorem dX11_power_16 : decode cX11_power 16 = .ok (.iinc 4 1, 3) := by decide +kernel
theorem dX11_power_19 : decode cX11_power 19 = .ok (.goto (-14), 3) := by decide +kernel
theorem dX11_power_22 : decode cX11_power 22 = .ok (.lload_n 2, 1) := by decide +kernel
theorem dX11_power_23 : decode cX11_power 23 = .ok (.lreturn, 1) := by decide +kernel
theorem dX12_in_0 : decode cX12_in 0 = .ok (.lload_n 0, 1) := by decide +kernel
theorem dX12_in_1 : decode cX12_in 1 = .ok (.lload_n 2, 1) := by decide +kernel
theorem dX12_in_2 : decode cX12_in 2 = .ok (.lcmp, 1) := by decide +kernel
theorem dX12_in_3 : decode cX12_in 3 = .ok (.ifCond .lt 14, 3) := by decide +kernel
theorem dX12_in_6 : decode cX12_in 6 = .ok (.lload_n 0, 1) := by decide +kernel
theorem dX12_in_7 : decode cX12_in 7 = .ok (.lload 4, 2) := by decide +kernel
theorem dX12_in_9 : decode cX12_in 9 = .ok (.lcmp, 1) := by decide +kernel
theorem dX12_in_10 : decode cX12_in 10 = .ok (.ifCond .gt 7, 3) := by decide +kernel
theorem dX12_in_13 : decode cX12_in 13 = .ok (.iconst 1, 1) := by decide +kernel
theorem dX12_in_14 : decode cX12_in 14 = .ok (.goto 4, 3) := by decide +kernel
theorem dX12_in_17 : decode cX12_in 17 = .ok (.iconst 0, 1) := by decide +kernel
theorem dX12_in_18 : decode cX12_in 18 = .ok (.ireturn, 1) := by decide +kernel
set_option maxRecDepth 20000 in
theorem ggX12_init_X12_plain : GoodIn wsX12_init wsX12_plain := goodIn_r _ [19, 6, 26, 27, 28, 29, 30, 31, 32, 33, 34, 35, 36, 37, 38, 39, 40, 41, 42, 43] (by decide +kernel) (by decide +kernel)
set_option maxRecDepth 20000 in
theorem gX12_init_X12_plain : GoodIn wsX12_init (wsV RX12 40 RX12 yX12_plain wsX12_plain) := goodIn_app (goodIn_of _ (by decide +kernel)) ggX12_init_X12_plain
set_option maxRecDepth 20000 in
theorem ggX12_init_X12_takes : GoodIn wsX12_init wsX12_takes := goodIn_r _ [23, 7, 6, 8, 24, 25, 14, 26, 27, 28, 29, 30, 31, 32, 33, 34, 35, 36, 37, 38, 39, 40, 41, 42, 43] (by decide +kernel) (by decide +kernel)
set_option maxRecDepth 20000 in
theorem gX12_init_X12_takes : GoodIn wsX12_init (wsV RX12 43 RX12 yX12_takes wsX12_takes) := goodIn_app (goodIn_of _ (by decide +kernel)) ggX12_init_X12_takes
theorem dX12_init_0 : decode cX12_init 0 = .ok (.aload_n 0, 1) := by decide +kernel
theorem dX12_init_1 : decode cX12_init 1 = .ok (.invokespecial 1, 3) := by decide +kernel
theorem dX12_init_4 : decode cX12_init 4 = .ok (.aload_n 0, 1) := by decide +kernel
theorem dX12_init_5 : decode cX12_init 5 = .ok (.sipush 200, 3) := by decide +kernel
theorem dX12_init_8 : decode cX12_init 8 = .ok (.newarray .int, 2) := by decide +kernel
theorem dX12_init_10 : decode cX12_init 10 = .ok (.putfield 7, 3) := by decide +kernel
theorem dX12_init_13 : decode cX12_init 13 = .ok (.aload_n 0, 1) := by decide +kernel
theorem dX12_init_14 : decode cX12_init 14 = .ok (.bipush 21, 2) := by decide +kernel
theorem dX12_init_16 : decode cX12_init 16 = .ok (.newarray .int, 2) := by decide +kernel
theorem dX12_init_18 : decode cX12_init 18 = .ok (.putfield 13, 3) := by decide +kernel
theorem dX12_init_21 : decode cX12_init 21 = .ok (.aload_n 0, 1) := by decide +kernel
theorem dX12_init_22 : decode cX12_init 22 = .ok (.bipush 21, 2) := by decide +kernel
theorem dX12_init_24 : decode cX12_init 24 = .ok (.newarray .int, 2) := by decide +kernel
theorem dX12_init_26 : decode cX12_init 26 = .ok (.putfield 16, 3) := by decide +kernel
theorem dX12_init_29 : decode cX12_init 29 = .ok (.aload_n 0, 1) := by decide +kernel
theorem dX12_init_30 : decode cX12_init 30 = .ok (.bipush 50, 2) := by decide +kernel
theorem dX12_init_32 : decode cX12_init 32 = .ok (.newarray .int, 2) := by decide +kernel
theorem dX12_init_34 : decode cX12_init 34 = .ok (.putfield 19, 3) := by decide +kernel
theorem dX12_init_37 : decode cX12_init 37 = .ok (.aload_n 0, 1) := by decide +kernel
theorem dX12_init_38 : decode cX12_init 38 = .ok (.sipush 500, 3) := by decide +kernel
theorem dX12_init_41 : decode cX12_init 41 = .ok (.newarray .int, 2) := by decide +kernel
theorem dX12_init_43 : decode cX12_init 43 = .ok (.putfield 22, 3) := by decide +kernel
theorem dX12_init_46 : decode cX12_init 46 = .ok (.aload_n 0, 1) := by decide +kernel
theorem dX12_init_47 : decode cX12_init 47 = .ok (.sipush 448, 3) := by decide +kernel
theorem dX12_init_50 : decode cX12_init 50 = .ok (.newarray .int, 2) := by decide +kernel
theorem dX12_init_52 : decode cX12_init 52 = .ok (.putfield 25, 3) := by decide +kernel
theorem dX12_init_55 : decode cX12_init 55 = .ok (.aload_n 0, 1) := by decide +kernel
theorem dX12_init_56 : decode cX12_init 56 = .ok (.bipush 50, 2) := by decide +kernel
theorem dX12_init_58 : decode cX12_init 58 = .ok (.newarray .int, 2) := by decide +kernel
theorem dX12_init_60 : decode cX12_init 60 = .ok (.putfield 28, 3) := by decide +kernel
theorem dX12_init_63 : decode cX12_init 63 = .ok (.aload_n 0, 1) := by decide +kernel
theorem dX12_init_64 : decode cX12_init 64 = .ok (.bipush 15, 2) := by decide +kernel
theorem dX12_init_66 : decode cX12_init 66 = .ok (.newarray .int, 2) := by decide +kernel
theorem dX12_init_68 : decode cX12_init 68 = .ok (.putfield 31, 3) := by decide +kernel
theorem dX12_init_71 : decode cX12_init 71 = .ok (.aload_n 0, 1) := by decide +kernel
theorem dX12_init_72 : decode cX12_init 72 = .ok (.bipush 6, 2) := by decide +kernel
theorem dX12_init_74 : decode cX12_init 74 = .ok (.newarray .int, 2) := by decide +kernel
theorem dX12_init_76 : decode cX12_init 76 = .ok (.putfield 34, 3) := by decide +kernel
theorem dX12_init_79 : decode cX12_init 79 = .ok (.aload_n 0, 1) := by decide +kernel
theorem dX12_init_80 : decode cX12_init 80 = .ok (.bipush 102, 2) := by decide +kernel
theorem dX12_init_82 : decode cX12_init 82 = .ok (.newarray .int, 2) := by decide +kernel
theorem dX12_init_84 : decode cX12_init 84 = .ok (.putfield 37, 3) := by decide +kernel
theorem dX12_init_87 : decode cX12_init 87 = .ok (.aload_n 0, 1) := by decide +kernel
theorem dX12_init_88 : decode cX12_init 88 = .ok (.invokevirtual 40, 3) := by decide +kernel
theorem dX12_init_91 : decode cX12_init 91 = .ok (.aload_n 0, 1) := by decide +kernel
theorem dX12_init_92 : decode cX12_init 92 = .ok (.invokevirtual 43, 3) := by decide +kernel
theorem dX12_init_95 : decode cX12_init 95 = .ok (.return_, 1) := by decide +kernel
set_option maxRecDepth 20000 in
theorem ggX12_type_X12_in : GoodIn wsX12_type wsX12_in := goodIn_r _ [7] (by decide +kernel) (by decide +kernel)
set_option maxRecDepth 20000 in
theorem gX12_type_X12_in : GoodIn wsX12_type (va_wsS RX12 48 yX12_in wsX12_in) := goodIn_app (goodIn_of _ (by decide +kernel)) ggX12_type_X12_in
theorem dX12_type_0 : decode cX12_type 0 = .ok (.iload_n 1, 1) := by decide +kernel
theorem dX12_type_1 : decode cX12_type 1 = .ok (.i2l, 1) := by decide +kernel
theorem dX12_type_2 : decode cX12_type 2 = .ok (.lconst 0, 1) := by decide +kernel
theorem dX12_type_3 : decode cX12_type 3 = .ok (.ldc2_w 46, 3) := by decide +kernel
theorem dX12_type_6 : decode cX12_type 6 = .ok (.invokestatic 48, 3) := by decide +kernel
theorem dX12_type_9 : decode cX12_type 9 = .ok (.ifCond .ne 5, 3) := by decide +kernel
theorem dX12_type_12 : decode cX12_type 12 = .ok (.iconst (-1), 1) := by decide +kernel
theorem dX12_type_13 : decode cX12_type 13 = .ok (.ireturn, 1) := by decide +kernel
theorem dX12_type_14 : decode cX12_type 14 = .ok (.aload_n 0, 1) := by decide +kernel
theorem dX12_type_15 : decode cX12_type 15 = .ok (.getfield 52, 3) := by decide +kernel
theorem dX12_type_18 : decode cX12_type 18 = .ok (.sipush 200, 3) := by decide +kernel
theorem dX12_type_21 : decode cX12_type 21 = .ok (.if_icmp .ne 6, 3) := by decide +kernel
theorem dX12_type_24 : decode cX12_type 24 = .ok (.bipush (-3), 2) := by decide +kernel
theorem dX12_type_26 : decode cX12_type 26 = .ok (.ireturn, 1) := by decide +kernel
theorem dX12_type_27 : decode cX12_type 27 = .ok (.aload_n 0, 1) := by decide +kernel
theorem dX12_type_28 : decode cX12_type 28 = .ok (.getfield 7, 3) := by decide +kernel
theorem dX12_type_31 : decode cX12_type 31 = .ok (.aload_n 0, 1) := by decide +kernel
theorem dX12_type_32 : decode cX12_type 32 = .ok (.getfield 52, 3) := by decide +kernel
theorem dX12_type_35 : decode cX12_type 35 = .ok (.iload_n 1, 1) := by decide +kernel
theorem dX12_type_36 : decode cX12_type 36 = .ok (.iastore, 1) := by decide +kernel
theorem dX12_type_37 : decode cX12_type 37 = .ok (.aload_n 0, 1) := by decide +kernel
theorem dX12_type_38 : decode cX12_type 38 = .ok (.dup, 1) := by decide +kernel
theorem dX12_type_39 : decode cX12_type 39 = .ok (.getfield 52, 3) := by decide +kernel
theorem dX12_type_42 : decode cX12_type 42 = .ok (.iconst 1, 1) := by decide +kernel
theorem dX12_type_43 : decode cX12_type 43 = .ok (.iadd, 1) := by decide +kernel
theorem dX12_type_44 : decode cX12_type 44 = .ok (.putfield 52, 3) := by decide +kernel
theorem dX12_type_47 : decode cX12_type 47 = .ok (.aload_n 0, 1) := by decide +kernel
theorem dX12_type_48 : decode cX12_type 48 = .ok (.getfield 52, 3) := by decide +kernel
theorem dX12_type_51 : decode cX12_type 51 = .ok (.ireturn, 1) := by decide +kernel
theorem dX12_clear_0 : decode cX12_clear 0 = .ok (.aload_n 0, 1) := by decide +kernel
theorem dX12_clear_1 : decode cX12_clear 1 = .ok (.getfield 52, 3) := by decide +kernel
theorem dX12_clear_4 : decode cX12_clear 4 = .ok (.istore_n 1, 1) := by decide +kernel
theorem dX12_clear_5 : decode cX12_clear 5 = .ok (.aload_n 0, 1) := by decide +kernel
theorem dX12_clear_6 : decode cX12_clear 6 = .ok (.iconst 0, 1) := by decide +kernel
theorem dX12_clear_7 : decode cX12_clear 7 = .ok (.putfield 52, 3) := by decide +kernel
theorem dX12_clear_10 : decode cX12_clear 10 = .ok (.iload_n 1, 1) := by decide +kernel
theorem dX12_clear_11 : decode cX12_clear 11 = .ok (.ireturn, 1) := by decide +kernel
set_option maxRecDepth 20000 in
theorem ggX12_isFigure_X12_in : GoodIn wsX12_isFigure wsX12_in := goodIn_r _ [6] (by decide +kernel) (by decide +kernel)
set_option maxRecDepth 20000 in
theorem gX12_isFigure_X12_in : GoodIn wsX12_isFigure (va_wsS RX12 48 yX12_in wsX12_in) := goodIn_app (goodIn_of _ (by decide +kernel)) ggX12_isFigure_X12_in
theorem dX12_isFigure_0 : decode cX12_isFigure 0 = .ok (.iload_n 0, 1) := by decide +kernel
theorem dX12_isFigure_1 : decode cX12_isFigure 1 = .ok (.i2l, 1) := by decide +kernel
theorem dX12_isFigure_2 : decode cX12_isFigure 2 = .ok (.ldc2_w 56, 3) := by decide +kernel
theorem dX12_isFigure_5 : decode cX12_isFigure 5 = .ok (.ldc2_w 58, 3) := by decide +kernel
theorem dX12_isFigure_8 : decode cX12_isFigure 8 = .ok (.invokestatic 48, 3) := by decide +kernel
theorem dX12_isFigure_11 : decode cX12_isFigure 11 = .ok (.ireturn, 1) := by decide +kernel
set_option maxRecDepth 20000 in
theorem ggX12_reads_X12_isFigure : GoodIn wsX12_reads wsX12_isFigure := goodIn_r _ [10, 11, 12, 13, 14, 9, 15] (by decide +kernel) (by decide +kernel)
set_option maxRecDepth 20000 in
theorem gX12_reads_X12_isFigure : GoodIn wsX12_reads (va_wsS RX12 69 yX12_isFigure wsX12_isFigure) := goodIn_app (goodIn_of _ (by decide +kernel)) ggX12_reads_X12_isFigure
theorem dX12_reads_0 : decode cX12_reads 0 = .ok (.aload_n 0, 1) := by decide +kernel
theorem dX12_reads_1 : decode cX12_reads 1 = .ok (.getfield 60, 3) := by decide +kernel
theorem dX12_reads_4 : decode cX12_reads 4 = .ok (.aload_n 0, 1) := by decide +kernel
theorem dX12_reads_5 : decode cX12_reads 5 = .ok (.getfield 52, 3) := by decide +kernel
theorem dX12_reads_8 : decode cX12_reads 8 = .ok (.if_icmp .ge 30, 3) := by decide +kernel
theorem dX12_reads_11 : decode cX12_reads 11 = .ok (.aload_n 0, 1) := by decide +kernel
theorem dX12_reads_12 : decode cX12_reads 12 = .ok (.getfield 7, 3) := by decide +kernel
theorem dX12_reads_15 : decode cX12_reads 15 = .ok (.aload_n 0, 1) := by decide +kernel
theorem dX12_reads_16 : decode cX12_reads 16 = .ok (.getfield 60, 3) := by decide +kernel
theorem dX12_reads_19 : decode cX12_reads 19 = .ok (.iaload, 1) := by decide +kernel
theorem dX12_reads_20 : decode cX12_reads 20 = .ok (.bipush 32, 2) := by decide +kernel
theorem dX12_reads_22 : decode cX12_reads 22 = .ok (.if_icmp .ne 16, 3) := by decide +kernel
theorem dX12_reads_25 : decode cX12_reads 25 = .ok (.aload_n 0, 1) := by decide +kernel
theorem dX12_reads_26 : decode cX12_reads 26 = .ok (.dup, 1) := by decide +kernel
theorem dX12_reads_27 : decode cX12_reads 27 = .ok (.getfield 60, 3) := by decide +kernel
theorem dX12_reads_30 : decode cX12_reads 30 = .ok (.iconst 1, 1) := by decide +kernel
theorem dX12_reads_31 : decode cX12_reads 31 = .ok (.iadd, 1) := by decide +kernel
theorem dX12_reads_32 : decode cX12_reads 32 = .ok (.putfield 60, 3) := by decide +kernel
theorem dX12_reads_35 : decode cX12_reads 35 = .ok (.goto (-35), 3) := by decide +kernel
theorem dX12_reads_38 : decode cX12_reads 38 = .ok (.aload_n 0, 1) := by decide +kernel
theorem dX12_reads_39 : decode cX12_reads 39 = .ok (.aload_n 0, 1) := by decide +kernel
theorem dX12_reads_40 : decode cX12_reads 40 = .ok (.getfield 60, 3) := by decide +kernel
theorem dX12_reads_43 : decode cX12_reads 43 = .ok (.putfield 63, 3) := by decide +kernel
theorem dX12_reads_46 : decode cX12_reads 46 = .ok (.aload_n 0, 1) := by decide +kernel
theorem dX12_reads_47 : decode cX12_reads 47 = .ok (.iconst 0, 1) := by decide +kernel
theorem dX12_reads_48 : decode cX12_reads 48 = .ok (.putfield 66, 3) := by decide +kernel
theorem dX12_reads_51 : decode cX12_reads 51 = .ok (.aload_n 0, 1) := by decide +kernel
theorem dX12_reads_52 : decode cX12_reads 52 = .ok (.getfield 60, 3) := by decide +kernel
theorem dX12_reads_55 : decode cX12_reads 55 = .ok (.aload_n 0, 1) := by decide +kernel
theorem dX12_reads_56 : decode cX12_reads 56 = .ok (.getfield 52, 3) := by decide +kernel
theorem dX12_reads_59 : decode cX12_reads 59 = .ok (.if_icmp .ge 150, 3) := by decide +kernel
theorem dX12_reads_62 : decode cX12_reads 62 = .ok (.aload_n 0, 1) := by decide +kernel
theorem dX12_reads_63 : decode cX12_reads 63 = .ok (.getfield 7, 3) := by decide +kernel
theorem dX12_reads_66 : decode cX12_reads 66 = .ok (.aload_n 0, 1) := by decide +kernel
theorem dX12_reads_67 : decode cX12_reads 67 = .ok (.getfield 60, 3) := by decide +kernel
theorem dX12_reads_70 : decode cX12_reads 70 = .ok (.iaload, 1) := by decide +kernel
theorem dX12_reads_71 : decode cX12_reads 71 = .ok (.invokestatic 69, 3) := by decide +kernel
theorem dX12_reads_74 : decode cX12_reads 74 = .ok (.ifCond .eq 135, 3) := by decide +kernel
theorem dX12_reads_77 : decode cX12_reads 77 = .ok (.aload_n 0, 1) := by decide +kernel
theorem dX12_reads_78 : decode cX12_reads 78 = .ok (.iconst 0, 1) := by decide +kernel
theorem dX12_reads_79 : decode cX12_reads 79 = .ok (.putfield 73, 3) := by decide +kernel
theorem dX12_reads_82 : decode cX12_reads 82 = .ok (.aload_n 0, 1) := by decide +kernel
theorem dX12_reads_83 : decode cX12_reads 83 = .ok (.getfield 60, 3) := by decide +kernel
theorem dX12_reads_86 : decode cX12_reads 86 = .ok (.aload_n 0, 1) := by decide +kernel
theorem dX12_reads_87 : decode cX12_reads 87 = .ok (.getfield 52, 3) := by decide +kernel
theorem dX12_reads_90 : decode cX12_reads 90 = .ok (.if_icmp .ge 71, 3) := by decide +kernel
theorem dX12_reads_93 : decode cX12_reads 93 = .ok (.aload_n 0, 1) := by decide +kernel
theorem dX12_reads_94 : decode cX12_reads 94 = .ok (.getfield 7, 3) := by decide +kernel
theorem dX12_reads_97 : decode cX12_reads 97 = .ok (.aload_n 0, 1) := by decide +kernel
theorem dX12_reads_98 : decode cX12_reads 98 = .ok (.getfield 60, 3) := by decide +kernel
theorem dX12_reads_101 : decode cX12_reads 101 = .ok (.iaload, 1) := by decide +kernel
theorem dX12_reads_102 : decode cX12_reads 102 = .ok (.invokestatic 69, 3) := by decide +kernel
theorem dX12_reads_105 : decode cX12_reads 105 = .ok (.ifCond .eq 56, 3) := by decide +kernel
theorem dX12_reads_108 : decode cX12_reads 108 = .ok (.aload_n 0, 1) := by decide +kernel
theorem dX12_reads_109 : decode cX12_reads 109 = .ok (.aload_n 0, 1) := by decide +kernel
theorem dX12_reads_110 : decode cX12_reads 110 = .ok (.getfield 73, 3) := by decide +kernel
theorem dX12_reads_113 : decode cX12_reads 113 = .ok (.bipush 127, 2) := by decide +kernel
theorem dX12_reads_115 : decode cX12_reads 115 = .ok (.if_icmp .le 10, 3) := by decide +kernel
theorem dX12_reads_118 : decode cX12_reads 118 = .ok (.aload_n 0, 1) := by decide +kernel
theorem dX12_reads_119 : decode cX12_reads 119 = .ok (.getfield 73, 3) := by decide +kernel
theorem dX12_reads_122 : decode cX12_reads 122 = .ok (.goto 23, 3) := by decide +kernel
theorem dX12_reads_125 : decode cX12_reads 125 = .ok (.bipush 10, 2) := by decide +kernel
theorem dX12_reads_127 : decode cX12_reads 127 = .ok (.aload_n 0, 1) := by decide +kernel
theorem dX12_reads_128 : decode cX12_reads 128 = .ok (.getfield 73, 3) := by decide +kernel
theorem dX12_reads_131 : decode cX12_reads 131 = .ok (.imul, 1) := by decide +kernel
theorem dX12_reads_132 : decode cX12_reads 132 = .ok (.aload_n 0, 1) := by decide +kernel
theorem dX12_reads_133 : decode cX12_reads 133 = .ok (.getfield 7, 3) := by decide +kernel
theorem dX12_reads_136 : decode cX12_reads 136 = .ok (.aload_n 0, 1) := by decide +kernel
theorem dX12_reads_137 : decode cX12_reads 137 = .ok (.getfield 60, 3) := by decide +kernel
theorem dX12_reads_140 : decode cX12_reads 140 = .ok (.iaload, 1) := by decide +kernel
theorem dX12_reads_141 : decode cX12_reads 141 = .ok (.iadd, 1) := by decide +kernel
theorem dX12_reads_142 : decode cX12_reads 142 = .ok (.bipush 48, 2) := by decide +kernel
theorem dX12_reads_144 : decode cX12_reads 144 = .ok (.isub, 1) := by decide +kernel
theorem dX12_reads_145 : decode cX12_reads 145 = .ok (.putfield 73, 3) := by decide +kernel
theorem dX12_reads_148 : decode cX12_reads 148 = .ok (.aload_n 0, 1) := by decide +kernel
theorem dX12_reads_149 : decode cX12_reads 149 = .ok (.dup, 1) := by decide +kernel
theorem dX12_reads_150 : decode cX12_reads 150 = .ok (.getfield 60, 3) := by decide +kernel
theorem dX12_reads_153 : decode cX12_reads 153 = .ok (.iconst 1, 1) := by decide +kernel
theorem dX12_reads_154 : decode cX12_reads 154 = .ok (.iadd, 1) := by decide +kernel
theorem dX12_reads_155 : decode cX12_reads 155 = .ok (.putfield 60, 3) := by decide +kernel
theorem dX12_reads_158 : decode cX12_reads 158 = .ok (.goto (-76), 3) := by decide +kernel
theorem dX12_reads_161 : decode cX12_reads 161 = .ok (.aload_n 0, 1) := by decide +kernel
theorem dX12_reads_162 : decode cX12_reads 162 = .ok (.aload_n 0, 1) := by decide +kernel
theorem dX12_reads_163 : decode cX12_reads 163 = .ok (.getfield 73, 3) := by decide +kernel
theorem dX12_reads_166 : decode cX12_reads 166 = .ok (.bipush 127, 2) := by decide +kernel
theorem dX12_reads_168 : decode cX12_reads 168 = .ok (.if_icmp .gt 30, 3) := by decide +kernel
theorem dX12_reads_171 : decode cX12_reads 171 = .ok (.aload_n 0, 1) := by decide +kernel
theorem dX12_reads_172 : decode cX12_reads 172 = .ok (.getfield 60, 3) := by decide +kernel
theorem dX12_reads_175 : decode cX12_reads 175 = .ok (.aload_n 0, 1) := by decide +kernel
theorem dX12_reads_176 : decode cX12_reads 176 = .ok (.getfield 63, 3) := by decide +kernel
theorem dX12_reads_179 : decode cX12_reads 179 = .ok (.isub, 1) := by decide +kernel
theorem dX12_reads_180 : decode cX12_reads 180 = .ok (.iconst 1, 1) := by decide +kernel
theorem dX12_reads_181 : decode cX12_reads 181 = .ok (.if_icmp .le 21, 3) := by decide +kernel
theorem dX12_reads_184 : decode cX12_reads 184 = .ok (.aload_n 0, 1) := by decide +kernel
theorem dX12_reads_185 : decode cX12_reads 185 = .ok (.getfield 7, 3) := by decide +kernel
theorem dX12_reads_188 : decode cX12_reads 188 = .ok (.aload_n 0, 1) := by decide +kernel
theorem dX12_reads_189 : decode cX12_reads 189 = .ok (.getfield 63, 3) := by decide +kernel
theorem dX12_reads_192 : decode cX12_reads 192 = .ok (.iaload, 1) := by decide +kernel
theorem dX12_reads_193 : decode cX12_reads 193 = .ok (.bipush 48, 2) := by decide +kernel
theorem dX12_reads_195 : decode cX12_reads 195 = .ok (.if_icmp .ne 7, 3) := by decide +kernel
theorem dX12_reads_198 : decode cX12_reads 198 = .ok (.iconst 4, 1) := by decide +kernel
theorem dX12_reads_199 : decode cX12_reads 199 = .ok (.goto 4, 3) := by decide +kernel
theorem dX12_reads_202 : decode cX12_reads 202 = .ok (.iconst 2, 1) := by decide +kernel
theorem dX12_reads_203 : decode cX12_reads 203 = .ok (.putfield 66, 3) := by decide +kernel
theorem dX12_reads_206 : decode cX12_reads 206 = .ok (.goto 86, 3) := by decide +kernel
theorem dX12_reads_209 : decode cX12_reads 209 = .ok (.aload_n 0, 1) := by decide +kernel
theorem dX12_reads_210 : decode cX12_reads 210 = .ok (.getfield 60, 3) := by decide +kernel
theorem dX12_reads_213 : decode cX12_reads 213 = .ok (.aload_n 0, 1) := by decide +kernel
theorem dX12_reads_214 : decode cX12_reads 214 = .ok (.getfield 52, 3) := by decide +kernel
theorem dX12_reads_217 : decode cX12_reads 217 = .ok (.if_icmp .ge 75, 3) := by decide +kernel
theorem dX12_reads_220 : decode cX12_reads 220 = .ok (.aload_n 0, 1) := by decide +kernel
theorem dX12_reads_221 : decode cX12_reads 221 = .ok (.aload_n 0, 1) := by decide +kernel
theorem dX12_reads_222 : decode cX12_reads 222 = .ok (.getfield 7, 3) := by decide +kernel
theorem dX12_reads_225 : decode cX12_reads 225 = .ok (.aload_n 0, 1) := by decide +kernel
theorem dX12_reads_226 : decode cX12_reads 226 = .ok (.getfield 60, 3) := by decide +kernel
theorem dX12_reads_229 : decode cX12_reads 229 = .ok (.iaload, 1) := by decide +kernel
theorem dX12_reads_230 : decode cX12_reads 230 = .ok (.putfield 73, 3) := by decide +kernel
theorem dX12_reads_233 : decode cX12_reads 233 = .ok (.aload_n 0, 1) := by decide +kernel
theorem dX12_reads_234 : decode cX12_reads 234 = .ok (.aload_n 0, 1) := by decide +kernel
theorem dX12_reads_235 : decode cX12_reads 235 = .ok (.getfield 73, 3) := by decide +kernel
theorem dX12_reads_238 : decode cX12_reads 238 = .ok (.bipush 113, 2) := by decide +kernel
theorem dX12_reads_240 : decode cX12_reads 240 = .ok (.if_icmp .eq 21, 3) := by decide +kernel
theorem dX12_reads_243 : decode cX12_reads 243 = .ok (.aload_n 0, 1) := by decide +kernel
theorem dX12_reads_244 : decode cX12_reads 244 = .ok (.getfield 73, 3) := by decide +kernel
theorem dX12_reads_247 : decode cX12_reads 247 = .ok (.bipush 112, 2) := by decide +kernel
theorem dX12_reads_249 : decode cX12_reads 249 = .ok (.if_icmp .eq 12, 3) := by decide +kernel
theorem dX12_reads_252 : decode cX12_reads 252 = .ok (.aload_n 0, 1) := by decide +kernel
theorem dX12_reads_253 : decode cX12_reads 253 = .ok (.getfield 73, 3) := by decide +kernel
theorem dX12_reads_256 : decode cX12_reads 256 = .ok (.bipush 120, 2) := by decide +kernel
theorem dX12_reads_258 : decode cX12_reads 258 = .ok (.if_icmp .ne 7, 3) := by decide +kernel
theorem dX12_reads_261 : decode cX12_reads 261 = .ok (.iconst 1, 1) := by decide +kernel
theorem dX12_reads_262 : decode cX12_reads 262 = .ok (.goto 17, 3) := by decide +kernel
theorem dX12_reads_265 : decode cX12_reads 265 = .ok (.aload_n 0, 1) := by decide +kernel
theorem dX12_reads_266 : decode cX12_reads 266 = .ok (.getfield 73, 3) := by decide +kernel
theorem dX12_reads_269 : decode cX12_reads 269 = .ok (.bipush 59, 2) := by decide +kernel
theorem dX12_reads_271 : decode cX12_reads 271 = .ok (.if_icmp .ne 7, 3) := by decide +kernel
theorem dX12_reads_274 : decode cX12_reads 274 = .ok (.iconst 3, 1) := by decide +kernel
theorem dX12_reads_275 : decode cX12_reads 275 = .ok (.goto 4, 3) := by decide +kernel
theorem dX12_reads_278 : decode cX12_reads 278 = .ok (.iconst 4, 1) := by decide +kernel
theorem dX12_reads_279 : decode cX12_reads 279 = .ok (.putfield 66, 3) := by decide +kernel
theorem dX12_reads_282 : decode cX12_reads 282 = .ok (.aload_n 0, 1) := by decide +kernel
theorem dX12_reads_283 : decode cX12_reads 283 = .ok (.dup, 1) := by decide +kernel
theorem dX12_reads_284 : decode cX12_reads 284 = .ok (.getfield 60, 3) := by decide +kernel
theorem dX12_reads_287 : decode cX12_reads 287 = .ok (.iconst 1, 1) := by decide +kernel
theorem dX12_reads_288 : decode cX12_reads 288 = .ok (.iadd, 1) := by decide +kernel
theorem dX12_reads_289 : decode cX12_reads 289 = .ok (.putfield 60, 3) := by decide +kernel
theorem dX12_reads_292 : decode cX12_reads 292 = .ok (.return_, 1) := by decide +kernel
set_option maxRecDepth 20000 in
theorem ggX12_number_X12_reads : GoodIn wsX12_number wsX12_reads := goodIn_r _ [7, 8, 9, 10, 11, 1, 2, 12, 13, 6, 14, 15, 16, 17, 18, 19, 20, 21, 22, 23, 24, 25, 26, 27, 28, 29, 30, 31, 32, 33, 34, 35, 36, 37] (by decide +kernel) (by decide +kernel)
set_option maxRecDepth 20000 in
theorem gX12_number_X12_reads : GoodIn wsX12_number (wsV RX12 76 RX12 yX12_reads wsX12_reads) := goodIn_app (goodIn_of _ (by decide +kernel)) ggX12_number_X12_reads
set_option maxRecDepth 20000 in
theorem ggX12_number_X12_in : GoodIn wsX12_number wsX12_in := goodIn_r _ [19] (by decide +kernel) (by decide +kernel)
set_option maxRecDepth 20000 in
theorem gX12_number_X12_in : GoodIn wsX12_number (va_wsS RX12 48 yX12_in wsX12_in) := goodIn_app (goodIn_of _ (by decide +kernel)) ggX12_number_X12_in
theorem dX12_number_0 : decode cX12_number 0 = .ok (.aload_n 0, 1) := by decide +kernel
theorem dX12_number_1 : decode cX12_number 1 = .ok (.invokevirtual 76, 3) := by decide +kernel
theorem dX12_number_4 : decode cX12_number 4 = .ok (.aload_n 0, 1) := by decide +kernel
theorem dX12_number_5 : decode cX12_number 5 = .ok (.getfield 66, 3) := by decide +kernel
theorem dX12_number_8 : decode cX12_number 8 = .ok (.iconst 2, 1) := by decide +kernel
theorem dX12_number_9 : decode cX12_number 9 = .ok (.if_icmp .ne 22, 3) := by decide +kernel
theorem dX12_number_12 : decode cX12_number 12 = .ok (.aload_n 0, 1) := by decide +kernel
theorem dX12_number_13 : decode cX12_number 13 = .ok (.getfield 73, 3) := by decide +kernel
theorem dX12_number_16 : decode cX12_number 16 = .ok (.i2l, 1) := by decide +kernel
theorem dX12_number_17 : decode cX12_number 17 = .ok (.iload_n 1, 1) := by decide +kernel
theorem dX12_number_18 : decode cX12_number 18 = .ok (.i2l, 1) := by decide +kernel
theorem dX12_number_19 : decode cX12_number 19 = .ok (.iload_n 2, 1) := by decide +kernel
theorem dX12_number_20 : decode cX12_number 20 = .ok (.i2l, 1) := by decide +kernel
theorem dX12_number_21 : decode cX12_number 21 = .ok (.invokestatic 48, 3) := by decide +kernel
theorem dX12_number_24 : decode cX12_number 24 = .ok (.ifCond .eq 7, 3) := by decide +kernel
theorem dX12_number_27 : decode cX12_number 27 = .ok (.iconst 1, 1) := by decide +kernel
theorem dX12_number_28 : decode cX12_number 28 = .ok (.goto 4, 3) := by decide +kernel
theorem dX12_number_31 : decode cX12_number 31 = .ok (.iconst 0, 1) := by decide +kernel
theorem dX12_number_32 : decode cX12_number 32 = .ok (.ireturn, 1) := by decide +kernel
set_option maxRecDepth 20000 in
theorem ggX12_itemEnds_X12_reads : GoodIn wsX12_itemEnds wsX12_reads := goodIn_r _ [6, 7, 8, 9, 10, 1, 11, 12, 13, 5, 14, 15, 16, 17, 18, 19, 20, 21, 22, 23, 24, 25, 26, 27, 28, 29, 30, 31, 32, 33, 34, 35, 36, 37] (by decide +kernel) (by decide +kernel)
set_option maxRecDepth 20000 in
theorem gX12_itemEnds_X12_reads : GoodIn wsX12_itemEnds (wsV RX12 76 RX12 yX12_reads wsX12_reads) := goodIn_app (goodIn_of _ (by decide +kernel)) ggX12_itemEnds_X12_reads
theorem dX12_itemEnds_0 : decode cX12_itemEnds 0 = .ok (.aload_n 0, 1) := by decide +kernel
theorem dX12_itemEnds_1 : decode cX12_itemEnds 1 = .ok (.invokevirtual 76, 3) := by decide +kernel
theorem dX12_itemEnds_4 : decode cX12_itemEnds 4 = .ok (.aload_n 0, 1) := by decide +kernel
theorem dX12_itemEnds_5 : decode cX12_itemEnds 5 = .ok (.getfield 66, 3) := by decide +kernel
theorem dX12_itemEnds_8 : decode cX12_itemEnds 8 = .ok (.iconst 3, 1) := by decide +kernel
theorem dX12_itemEnds_9 : decode cX12_itemEnds 9 = .ok (.if_icmp .ne 7, 3) := by decide +kernel
theorem dX12_itemEnds_12 : decode cX12_itemEnds 12 = .ok (.iconst 1, 1) := by decide +kernel
theorem dX12_itemEnds_13 : decode cX12_itemEnds 13 = .ok (.goto 4, 3) := by decide +kernel
theorem dX12_itemEnds_16 : decode cX12_itemEnds 16 = .ok (.iconst 0, 1) := by decide +kernel
theorem dX12_itemEnds_17 : decode cX12_itemEnds 17 = .ok (.ireturn, 1) := by decide +kernel
theorem dX12_plain_0 : decode cX12_plain 0 = .ok (.iconst 0, 1) := by decide +kernel
theorem dX12_plain_1 : decode cX12_plain 1 = .ok (.istore_n 1, 1) := by decide +kernel
theorem dX12_plain_2 : decode cX12_plain 2 = .ok (.iload_n 1, 1) := by decide +kernel
theorem dX12_plain_3 : decode cX12_plain 3 = .ok (.bipush 21, 2) := by decide +kernel
theorem dX12_plain_5 : decode cX12_plain 5 = .ok (.if_icmp .ge 16, 3) := by decide +kernel
theorem dX12_plain_8 : decode cX12_plain 8 = .ok (.aload_n 0, 1) := by decide +kernel
theorem dX12_plain_9 : decode cX12_plain 9 = .ok (.getfield 13, 3) := by decide +kernel
theorem dX12_plain_12 : decode cX12_plain 12 = .ok (.iload_n 1, 1) := by decide +kernel
theorem dX12_plain_13 : decode cX12_plain 13 = .ok (.iconst 0, 1) := by decide +kernel
theorem dX12_plain_14 : decode cX12_plain 14 = .ok (.iastore, 1) := by decide +kernel
theorem dX12_plain_15 : decode cX12_plain 15 = .ok (.iinc 1 1, 3) := by decide +kernel
theorem dX12_plain_18 : decode cX12_plain 18 = .ok (.goto (-16), 3) := by decide +kernel
theorem dX12_plain_21 : decode cX12_plain 21 = .ok (.aload_n 0, 1) := by decide +kernel
theorem dX12_plain_22 : decode cX12_plain 22 = .ok (.getfield 13, 3) := by decide +kernel
theorem dX12_plain_25 : decode cX12_plain 25 = .ok (.iconst 1, 1) := by decide +kernel
theorem dX12_plain_26 : decode cX12_plain 26 = .ok (.iconst 3, 1) := by decide +kernel
theorem dX12_plain_27 : decode cX12_plain 27 = .ok (.iastore, 1) := by decide +kernel
theorem dX12_plain_28 : decode cX12_plain 28 = .ok (.return_, 1) := by decide +kernel
set_option maxRecDepth 20000 in
theorem ggX12_readClash_X12_number : GoodIn wsX12_readClash wsX12_number := goodIn_r _ [7, 8, 1, 9, 10, 11, 6, 12, 13, 14, 15, 16, 17, 18, 19, 20, 21, 22, 23, 24, 29, 30, 31, 32, 33, 34, 35, 36, 37, 38, 39, 40, 41, 42, 43, 44, 45, 46] (by decide +kernel) (by decide +kernel)
set_option maxRecDepth 20000 in
theorem gX12_readClash_X12_number : GoodIn wsX12_readClash (wsV RX12 79 RX12 yX12_number wsX12_number) := goodIn_app (goodIn_of _ (by decide +kernel)) ggX12_readClash_X12_number
set_option maxRecDepth 20000 in
theorem ggX12_readClash_X12_itemEnds : GoodIn wsX12_readClash wsX12_itemEnds := goodIn_r _ [28, 8, 9, 10, 11, 6, 12, 13, 14, 15, 16, 1, 17, 18, 19, 20, 21, 22, 23, 24, 29, 30, 31, 32, 33, 34, 35, 36, 37, 38, 39, 40, 41, 42, 43, 44, 45, 46] (by decide +kernel) (by decide +kernel)
set_option maxRecDepth 20000 in
theorem gX12_readClash_X12_itemEnds : GoodIn wsX12_readClash (wsV RX12 83 RX12 yX12_itemEnds wsX12_itemEnds) := goodIn_app (goodIn_of _ (by decide +kernel)) ggX12_readClash_X12_itemEnds
