theorem dX11_slips_0 : decode cX11_slips 0 = .ok (.aload_n 0, 1) := by decide +kernel
theorem dX11_slips_1 : decode cX11_slips 1 = .ok (.getfield 75, 3) := by decide +kernel
theorem dX11_slips_4 : decode cX11_slips 4 = .ok (.iload_n 1, 1) := by decide +kernel
theorem dX11_slips_5 : decode cX11_slips 5 = .ok (.invokevirtual 129, 3) := by decide +kernel
theorem dX11_slips_8 : decode cX11_slips 8 = .ok (.ifCond .ne 5, 3) := by decide +kernel
theorem dX11_slips_11 : decode cX11_slips 11 = .ok (.iconst (-1), 1) := by decide +kernel
theorem dX11_slips_12 : decode cX11_slips 12 = .ok (.ireturn, 1) := by decide +kernel
theorem dX11_slips_13 : decode cX11_slips 13 = .ok (.aload_n 0, 1) := by decide +kernel
theorem dX11_slips_14 : decode cX11_slips 14 = .ok (.getfield 19, 3) := by decide +kernel
theorem dX11_slips_17 : decode cX11_slips 17 = .ok (.iload_n 1, 1) := by decide +kernel
theorem dX11_slips_18 : decode cX11_slips 18 = .ok (.invokevirtual 132, 3) := by decide +kernel
theorem dX11_slips_21 : decode cX11_slips 21 = .ok (.istore_n 2, 1) := by decide +kernel
theorem dX11_slips_22 : decode cX11_slips 22 = .ok (.aload_n 0, 1) := by decide +kernel
theorem dX11_slips_23 : decode cX11_slips 23 = .ok (.getfield 26, 3) := by decide +kernel
theorem dX11_slips_26 : decode cX11_slips 26 = .ok (.aload_n 0, 1) := by decide +kernel
theorem dX11_slips_27 : decode cX11_slips 27 = .ok (.getfield 19, 3) := by decide +kernel
theorem dX11_slips_30 : decode cX11_slips 30 = .ok (.invokevirtual 163, 3) := by decide +kernel
theorem dX11_slips_33 : decode cX11_slips 33 = .ok (.aload_n 0, 1) := by decide +kernel
theorem dX11_slips_34 : decode cX11_slips 34 = .ok (.getfield 19, 3) := by decide +kernel
theorem dX11_slips_37 : decode cX11_slips 37 = .ok (.iload_n 1, 1) := by decide +kernel
theorem dX11_slips_38 : decode cX11_slips 38 = .ok (.invokevirtual 178, 3) := by decide +kernel
theorem dX11_slips_41 : decode cX11_slips 41 = .ok (.iload_n 2, 1) := by decide +kernel
theorem dX11_slips_42 : decode cX11_slips 42 = .ok (.invokestatic 182, 3) := by decide +kernel
theorem dX11_slips_45 : decode cX11_slips 45 = .ok (.ireturn, 1) := by decide +kernel
set_option maxRecDepth 20000 in
theorem ggX11_mixes_X11_areTwoPillows : GoodIn wsX11_mixes wsX11_areTwoPillows := goodIn_r _ [7, 8, 9, 10, 11, 12, 13, 14, 58, 59, 60, 61, 62, 63, 64, 65, 66, 67, 68, 69, 70, 71, 72, 73, 74, 75] (by decide +kernel) (by decide +kernel)
set_option maxRecDepth 20000 in
theorem gX11_mixes_X11_areTwoPillows : GoodIn wsX11_mixes (wsV RX11 187 RX11 yX11_areTwoPillows wsX11_areTwoPillows) := goodIn_app (goodIn_of _ (by decide +kernel)) ggX11_mixes_X11_areTwoPillows
set_option maxRecDepth 20000 in
theorem ggX11_mixes_X9_remember : GoodIn wsX11_mixes wsX9_remember := goodIn_r _ [19, 20, 21, 22, 23, 24, 25, 26, 27, 28, 29, 30, 31, 76, 77, 78, 79, 80, 81] (by decide +kernel) (by decide +kernel)
set_option maxRecDepth 20000 in
theorem gX11_mixes_X9_remember : GoodIn wsX11_mixes (wsV RX11 163 RX9 yX9_remember wsX9_remember) := goodIn_app (goodIn_of _ (by decide +kernel)) ggX11_mixes_X9_remember
set_option maxRecDepth 20000 in
theorem ggX11_mixes_X8_mix : GoodIn wsX11_mixes wsX8_mix := goodIn_r _ [36, 37, 38, 39, 35, 40, 41, 42, 43, 44, 45, 46, 29, 30, 31, 76] (by decide +kernel) (by decide +kernel)
set_option maxRecDepth 20000 in
theorem gX11_mixes_X8_mix : GoodIn wsX11_mixes (wsV RX11 191 RX8 yX8_mix wsX8_mix) := goodIn_app (goodIn_of _ (by decide +kernel)) ggX11_mixes_X8_mix
set_option maxRecDepth 20000 in
theorem ggX11_mixes_X8_thingsOn : GoodIn wsX11_mixes wsX8_thingsOn := goodIn_r _ [50, 37, 38, 39, 35, 40, 41, 76] (by decide +kernel) (by decide +kernel)
set_option maxRecDepth 20000 in
theorem gX11_mixes_X8_thingsOn : GoodIn wsX11_mixes (wsV RX11 132 RX8 yX8_thingsOn wsX8_thingsOn) := goodIn_app (goodIn_of _ (by decide +kernel)) ggX11_mixes_X8_thingsOn
set_option maxRecDepth 20000 in
theorem ggX11_mixes_J6_bitCount_0f7a4 : GoodIn wsX11_mixes wsJ6_bitCount_0f7a4 := goodIn_r _ [54, 55, 56, 57] (by decide +kernel) (by decide +kernel)
set_option maxRecDepth 20000 in
theorem gX11_mixes_J6_bitCount_0f7a4 : GoodIn wsX11_mixes (va_wsS RX11 182 yJ6_bitCount_0f7a4 wsJ6_bitCount_0f7a4) := goodIn_app (goodIn_of _ (by decide +kernel)) ggX11_mixes_J6_bitCount_0f7a4
theorem dX11_mixes_0 : decode cX11_mixes 0 = .ok (.aload_n 0, 1) := by decide +kernel
theorem dX11_mixes_1 : decode cX11_mixes 1 = .ok (.iload_n 1, 1) := by decide +kernel
theorem dX11_mixes_2 : decode cX11_mixes 2 = .ok (.iload_n 2, 1) := by decide +kernel
theorem dX11_mixes_3 : decode cX11_mixes 3 = .ok (.invokevirtual 187, 3) := by decide +kernel
theorem dX11_mixes_6 : decode cX11_mixes 6 = .ok (.ifCond .ne 5, 3) := by decide +kernel
theorem dX11_mixes_9 : decode cX11_mixes 9 = .ok (.iconst (-1), 1) := by decide +kernel
theorem dX11_mixes_10 : decode cX11_mixes 10 = .ok (.ireturn, 1) := by decide +kernel
theorem dX11_mixes_11 : decode cX11_mixes 11 = .ok (.aload_n 0, 1) := by decide +kernel
theorem dX11_mixes_12 : decode cX11_mixes 12 = .ok (.getfield 26, 3) := by decide +kernel
theorem dX11_mixes_15 : decode cX11_mixes 15 = .ok (.aload_n 0, 1) := by decide +kernel
theorem dX11_mixes_16 : decode cX11_mixes 16 = .ok (.getfield 19, 3) := by decide +kernel
theorem dX11_mixes_19 : decode cX11_mixes 19 = .ok (.invokevirtual 163, 3) := by decide +kernel
theorem dX11_mixes_22 : decode cX11_mixes 22 = .ok (.aload_n 0, 1) := by decide +kernel
theorem dX11_mixes_23 : decode cX11_mixes 23 = .ok (.getfield 19, 3) := by decide +kernel
theorem dX11_mixes_26 : decode cX11_mixes 26 = .ok (.iload_n 1, 1) := by decide +kernel
theorem dX11_mixes_27 : decode cX11_mixes 27 = .ok (.iload_n 2, 1) := by decide +kernel
theorem dX11_mixes_28 : decode cX11_mixes 28 = .ok (.invokevirtual 191, 3) := by decide +kernel
theorem dX11_mixes_31 : decode cX11_mixes 31 = .ok (.aload_n 0, 1) := by decide +kernel
theorem dX11_mixes_32 : decode cX11_mixes 32 = .ok (.getfield 19, 3) := by decide +kernel
theorem dX11_mixes_35 : decode cX11_mixes 35 = .ok (.iload_n 1, 1) := by decide +kernel
theorem dX11_mixes_36 : decode cX11_mixes 36 = .ok (.invokevirtual 132, 3) := by decide +kernel
theorem dX11_mixes_39 : decode cX11_mixes 39 = .ok (.invokestatic 182, 3) := by decide +kernel
theorem dX11_mixes_42 : decode cX11_mixes 42 = .ok (.ireturn, 1) := by decide +kernel
set_option maxRecDepth 20000 in
theorem ggX11_examines_X10_hasPillow : GoodIn wsX11_examines wsX10_hasPillow := goodIn_r _ [8, 9, 73, 74, 75, 76, 77] (by decide +kernel) (by decide +kernel)
set_option maxRecDepth 20000 in
theorem gX11_examines_X10_hasPillow : GoodIn wsX11_examines (wsV RX11 129 RX10 yX10_hasPillow wsX10_hasPillow) := goodIn_app (goodIn_of _ (by decide +kernel)) ggX11_examines_X10_hasPillow
set_option maxRecDepth 20000 in
theorem ggX11_examines_X8_isExamined : GoodIn wsX11_examines wsX8_isExamined := goodIn_r _ [14, 15, 78] (by decide +kernel) (by decide +kernel)
set_option maxRecDepth 20000 in
theorem gX11_examines_X8_isExamined : GoodIn wsX11_examines (wsV RX11 138 RX8 yX8_isExamined wsX8_isExamined) := goodIn_app (goodIn_of _ (by decide +kernel)) ggX11_examines_X8_isExamined
set_option maxRecDepth 20000 in
theorem ggX11_examines_X8_knownThings : GoodIn wsX11_examines wsX8_knownThings := goodIn_r _ [19, 15, 20, 21, 22, 13, 23, 24, 25, 26, 27, 28, 29, 30, 31, 78] (by decide +kernel) (by decide +kernel)
set_option maxRecDepth 20000 in
theorem gX11_examines_X8_knownThings : GoodIn wsX11_examines (wsV RX11 148 RX8 yX8_knownThings wsX8_knownThings) := goodIn_app (goodIn_of _ (by decide +kernel)) ggX11_examines_X8_knownThings
set_option maxRecDepth 20000 in
theorem ggX11_examines_X9_remember : GoodIn wsX11_examines wsX9_remember := goodIn_r _ [36, 37, 38, 39, 40, 41, 42, 43, 44, 45, 46, 47, 48, 78, 79, 80, 81, 82, 83] (by decide +kernel) (by decide +kernel)
set_option maxRecDepth 20000 in
theorem gX11_examines_X9_remember : GoodIn wsX11_examines (wsV RX11 163 RX9 yX9_remember wsX9_remember) := goodIn_app (goodIn_of _ (by decide +kernel)) ggX11_examines_X9_remember
set_option maxRecDepth 20000 in
theorem ggX11_examines_X8_examine : GoodIn wsX11_examines wsX8_examine := goodIn_r _ [52, 15, 78] (by decide +kernel) (by decide +kernel)
set_option maxRecDepth 20000 in
theorem gX11_examines_X8_examine : GoodIn wsX11_examines (wsV RX11 194 RX8 yX8_examine wsX8_examine) := goodIn_app (goodIn_of _ (by decide +kernel)) ggX11_examines_X8_examine
set_option maxRecDepth 20000 in
theorem ggX11_examines_J6_bitCount_0f7a4 : GoodIn wsX11_examines wsJ6_bitCount_0f7a4 := goodIn_r _ [56, 57, 58, 59] (by decide +kernel) (by decide +kernel)
set_option maxRecDepth 20000 in
theorem gX11_examines_J6_bitCount_0f7a4 : GoodIn wsX11_examines (va_wsS RX11 182 yJ6_bitCount_0f7a4 wsJ6_bitCount_0f7a4) := goodIn_app (goodIn_of _ (by decide +kernel)) ggX11_examines_J6_bitCount_0f7a4
theorem dX11_examines_0 : decode cX11_examines 0 = .ok (.aload_n 0, 1) := by decide +kernel
theorem dX11_examines_1 : decode cX11_examines 1 = .ok (.getfield 75, 3) := by decide +kernel
theorem dX11_examines_4 : decode cX11_examines 4 = .ok (.iload_n 1, 1) := by decide +kernel
theorem dX11_examines_5 : decode cX11_examines 5 = .ok (.invokevirtual 129, 3) := by decide +kernel
theorem dX11_examines_8 : decode cX11_examines 8 = .ok (.ifCond .ne 5, 3) := by decide +kernel
theorem dX11_examines_11 : decode cX11_examines 11 = .ok (.iconst (-1), 1) := by decide +kernel
theorem dX11_examines_12 : decode cX11_examines 12 = .ok (.ireturn, 1) := by decide +kernel
theorem dX11_examines_13 : decode cX11_examines 13 = .ok (.aload_n 0, 1) := by decide +kernel
theorem dX11_examines_14 : decode cX11_examines 14 = .ok (.getfield 19, 3) := by decide +kernel
theorem dX11_examines_17 : decode cX11_examines 17 = .ok (.iload_n 1, 1) := by decide +kernel
theorem dX11_examines_18 : decode cX11_examines 18 = .ok (.invokevirtual 138, 3) := by decide +kernel
theorem dX11_examines_21 : decode cX11_examines 21 = .ok (.ifCond .eq 6, 3) := by decide +kernel
theorem dX11_examines_24 : decode cX11_examines 24 = .ok (.bipush (-2), 2) := by decide +kernel
theorem dX11_examines_26 : decode cX11_examines 26 = .ok (.ireturn, 1) := by decide +kernel
theorem dX11_examines_27 : decode cX11_examines 27 = .ok (.aload_n 0, 1) := by decide +kernel
theorem dX11_examines_28 : decode cX11_examines 28 = .ok (.getfield 19, 3) := by decide +kernel
theorem dX11_examines_31 : decode cX11_examines 31 = .ok (.invokevirtual 148, 3) := by decide +kernel
theorem dX11_examines_34 : decode cX11_examines 34 = .ok (.istore_n 2, 1) := by decide +kernel
theorem dX11_examines_35 : decode cX11_examines 35 = .ok (.aload_n 0, 1) := by decide +kernel
theorem dX11_examines_36 : decode cX11_examines 36 = .ok (.getfield 26, 3) := by decide +kernel
theorem dX11_examines_39 : decode cX11_examines 39 = .ok (.aload_n 0, 1) := by decide +kernel
theorem dX11_examines_40 : decode cX11_examines 40 = .ok (.getfield 19, 3) := by decide +kernel
theorem dX11_examines_43 : decode cX11_examines 43 = .ok (.invokevirtual 163, 3) := by decide +kernel
theorem dX11_examines_46 : decode cX11_examines 46 = .ok (.aload_n 0, 1) := by decide +kernel
theorem dX11_examines_47 : decode cX11_examines 47 = .ok (.getfield 19, 3) := by decide +kernel
theorem dX11_examines_50 : decode cX11_examines 50 = .ok (.iload_n 1, 1) := by decide +kernel
theorem dX11_examines_51 : decode cX11_examines 51 = .ok (.invokevirtual 194, 3) := by decide +kernel
theorem dX11_examines_54 : decode cX11_examines 54 = .ok (.aload_n 0, 1) := by decide +kernel
theorem dX11_examines_55 : decode cX11_examines 55 = .ok (.getfield 19, 3) := by decide +kernel
theorem dX11_examines_58 : decode cX11_examines 58 = .ok (.invokevirtual 148, 3) := by decide +kernel
theorem dX11_examines_61 : decode cX11_examines 61 = .ok (.iload_n 2, 1) := by decide +kernel
theorem dX11_examines_62 : decode cX11_examines 62 = .ok (.iconst (-1), 1) := by decide +kernel
theorem dX11_examines_63 : decode cX11_examines 63 = .ok (.ixor, 1) := by decide +kernel
theorem dX11_examines_64 : decode cX11_examines 64 = .ok (.iand, 1) := by decide +kernel
theorem dX11_examines_65 : decode cX11_examines 65 = .ok (.invokestatic 182, 3) := by decide +kernel
theorem dX11_examines_68 : decode cX11_examines 68 = .ok (.ireturn, 1) := by decide +kernel
set_option maxRecDepth 20000 in
theorem ggX11_undo_X9_restoreLatest : GoodIn wsX11_undo wsX9_restoreLatest := goodIn_r _ [8, 9, 10, 11, 12, 13, 14, 15, 16, 30, 31, 32, 33, 34, 35] (by decide +kernel) (by decide +kernel)
set_option maxRecDepth 20000 in
theorem gX11_undo_X9_restoreLatest : GoodIn wsX11_undo (wsV RX11 197 RX9 yX9_restoreLatest wsX9_restoreLatest) := goodIn_app (goodIn_of _ (by decide +kernel)) ggX11_undo_X9_restoreLatest
theorem dX11_undo_0 : decode cX11_undo 0 = .ok (.aload_n 0, 1) := by decide +kernel
theorem dX11_undo_1 : decode cX11_undo 1 = .ok (.getfield 26, 3) := by decide +kernel
theorem dX11_undo_4 : decode cX11_undo 4 = .ok (.aload_n 0, 1) := by decide +kernel
theorem dX11_undo_5 : decode cX11_undo 5 = .ok (.getfield 19, 3) := by decide +kernel
theorem dX11_undo_8 : decode cX11_undo 8 = .ok (.invokevirtual 197, 3) := by decide +kernel
theorem dX11_undo_11 : decode cX11_undo 11 = .ok (.ifCond .eq 13, 3) := by decide +kernel
theorem dX11_undo_14 : decode cX11_undo 14 = .ok (.aload_n 0, 1) := by decide +kernel
theorem dX11_undo_15 : decode cX11_undo 15 = .ok (.getfield 26, 3) := by decide +kernel
theorem dX11_undo_18 : decode cX11_undo 18 = .ok (.getfield 160, 3) := by decide +kernel
theorem dX11_undo_21 : decode cX11_undo 21 = .ok (.goto 5, 3) := by decide +kernel
theorem dX11_undo_24 : decode cX11_undo 24 = .ok (.bipush (-2), 2) := by decide +kernel
theorem dX11_undo_26 : decode cX11_undo 26 = .ok (.ireturn, 1) := by decide +kernel
set_option maxRecDepth 20000 in
theorem ggX11_whose_X10_hasPillow : GoodIn wsX11_whose wsX10_hasPillow := goodIn_r _ [8, 9, 53, 54, 55, 56, 57] (by decide +kernel) (by decide +kernel)
set_option maxRecDepth 20000 in
theorem gX11_whose_X10_hasPillow : GoodIn wsX11_whose (wsV RX11 129 RX10 yX10_hasPillow wsX10_hasPillow) := goodIn_app (goodIn_of _ (by decide +kernel)) ggX11_whose_X10_hasPillow
set_option maxRecDepth 20000 in
theorem ggX11_whose_X11_isZeroOrOne : GoodIn wsX11_whose wsX11_isZeroOrOne := goodIn_r _ [13] (by decide +kernel) (by decide +kernel)
set_option maxRecDepth 20000 in
theorem gX11_whose_X11_isZeroOrOne : GoodIn wsX11_whose (va_wsS RX11 201 yX11_isZeroOrOne wsX11_isZeroOrOne) := goodIn_app (goodIn_of _ (by decide +kernel)) ggX11_whose_X11_isZeroOrOne
set_option maxRecDepth 20000 in
theorem ggX11_whose_X8_thingsOn : GoodIn wsX11_whose wsX8_thingsOn := goodIn_r _ [18, 19, 20, 21, 17, 22, 23, 58] (by decide +kernel) (by decide +kernel)
set_option maxRecDepth 20000 in
theorem gX11_whose_X8_thingsOn : GoodIn wsX11_whose (wsV RX11 132 RX8 yX8_thingsOn wsX8_thingsOn) := goodIn_app (goodIn_of _ (by decide +kernel)) ggX11_whose_X8_thingsOn
set_option maxRecDepth 20000 in
theorem ggX11_whose_X10_knownTo : GoodIn wsX11_whose wsX10_knownTo := goodIn_r _ [27, 28, 29, 53, 54, 55, 56, 57] (by decide +kernel) (by decide +kernel)
set_option maxRecDepth 20000 in
theorem gX11_whose_X10_knownTo : GoodIn wsX11_whose (wsV RX11 207 RX10 yX10_knownTo wsX10_knownTo) := goodIn_app (goodIn_of _ (by decide +kernel)) ggX11_whose_X10_knownTo
set_option maxRecDepth 20000 in
theorem ggX11_whose_X11_fewerOf : GoodIn wsX11_whose wsX11_fewerOf := goodIn_r _ [32, 33, 34, 35, 36, 37, 38, 39] (by decide +kernel) (by decide +kernel)
set_option maxRecDepth 20000 in
theorem gX11_whose_X11_fewerOf : GoodIn wsX11_whose (va_wsS RX11 210 yX11_fewerOf wsX11_fewerOf) := goodIn_app (goodIn_of _ (by decide +kernel)) ggX11_whose_X11_fewerOf
theorem dX11_whose_0 : decode cX11_whose 0 = .ok (.aload_n 0, 1) := by decide +kernel
theorem dX11_whose_1 : decode cX11_whose 1 = .ok (.getfield 75, 3) := by decide +kernel
theorem dX11_whose_4 : decode cX11_whose 4 = .ok (.iload_n 1, 1) := by decide +kernel
theorem dX11_whose_5 : decode cX11_whose 5 = .ok (.invokevirtual 129, 3) := by decide +kernel
theorem dX11_whose_8 : decode cX11_whose 8 = .ok (.ifCond .eq 10, 3) := by decide +kernel
theorem dX11_whose_11 : decode cX11_whose 11 = .ok (.iload_n 2, 1) := by decide +kernel
theorem dX11_whose_12 : decode cX11_whose 12 = .ok (.invokestatic 201, 3) := by decide +kernel
theorem dX11_whose_15 : decode cX11_whose 15 = .ok (.ifCond .ne 5, 3) := by decide +kernel
theorem dX11_whose_18 : decode cX11_whose 18 = .ok (.iconst (-1), 1) := by decide +kernel
theorem dX11_whose_19 : decode cX11_whose 19 = .ok (.ireturn, 1) := by decide +kernel
theorem dX11_whose_20 : decode cX11_whose 20 = .ok (.aload_n 0, 1) := by decide +kernel
theorem dX11_whose_21 : decode cX11_whose 21 = .ok (.getfield 19, 3) := by decide +kernel
theorem dX11_whose_24 : decode cX11_whose 24 = .ok (.iload_n 1, 1) := by decide +kernel
theorem dX11_whose_25 : decode cX11_whose 25 = .ok (.invokevirtual 132, 3) := by decide +kernel
theorem dX11_whose_28 : decode cX11_whose 28 = .ok (.istore_n 3, 1) := by decide +kernel
theorem dX11_whose_29 : decode cX11_whose 29 = .ok (.iconst 0, 1) := by decide +kernel
theorem dX11_whose_30 : decode cX11_whose 30 = .ok (.istore 4, 2) := by decide +kernel
theorem dX11_whose_32 : decode cX11_whose 32 = .ok (.bipush (-9), 2) := by decide +kernel
theorem dX11_whose_34 : decode cX11_whose 34 = .ok (.istore 5, 2) := by decide +kernel
theorem dX11_whose_36 : decode cX11_whose 36 = .ok (.iconst 0, 1) := by decide +kernel
theorem dX11_whose_37 : decode cX11_whose 37 = .ok (.istore 6, 2) := by decide +kernel
theorem dX11_whose_39 : decode cX11_whose 39 = .ok (.iload 6, 2) := by decide +kernel
theorem dX11_whose_41 : decode cX11_whose 41 = .ok (.iconst 1, 1) := by decide +kernel
theorem dX11_whose_42 : decode cX11_whose 42 = .ok (.aload_n 0, 1) := by decide +kernel
theorem dX11_whose_43 : decode cX11_whose 43 = .ok (.getfield 75, 3) := by decide +kernel
theorem dX11_whose_46 : decode cX11_whose 46 = .ok (.getfield 204, 3) := by decide +kernel
theorem dX11_whose_49 : decode cX11_whose 49 = .ok (.ishl, 1) := by decide +kernel
theorem dX11_whose_50 : decode cX11_whose 50 = .ok (.if_icmp .ge 37, 3) := by decide +kernel
theorem dX11_whose_53 : decode cX11_whose 53 = .ok (.iload_n 3, 1) := by decide +kernel
theorem dX11_whose_54 : decode cX11_whose 54 = .ok (.aload_n 0, 1) := by decide +kernel
theorem dX11_whose_55 : decode cX11_whose 55 = .ok (.getfield 75, 3) := by decide +kernel
theorem dX11_whose_58 : decode cX11_whose 58 = .ok (.iload 6, 2) := by decide +kernel
theorem dX11_whose_60 : decode cX11_whose 60 = .ok (.invokevirtual 207, 3) := by decide +kernel
theorem dX11_whose_63 : decode cX11_whose 63 = .ok (.iconst (-1), 1) := by decide +kernel
theorem dX11_whose_64 : decode cX11_whose 64 = .ok (.ixor, 1) := by decide +kernel
theorem dX11_whose_65 : decode cX11_whose 65 = .ok (.iand, 1) := by decide +kernel
theorem dX11_whose_66 : decode cX11_whose 66 = .ok (.ifCond .ne 15, 3) := by decide +kernel
theorem dX11_whose_69 : decode cX11_whose 69 = .ok (.iinc 4 1, 3) := by decide +kernel
theorem dX11_whose_72 : decode cX11_whose 72 = .ok (.iload 5, 2) := by decide +kernel
theorem dX11_whose_74 : decode cX11_whose 74 = .ok (.iload 6, 2) := by decide +kernel
theorem dX11_whose_76 : decode cX11_whose 76 = .ok (.invokestatic 210, 3) := by decide +kernel
theorem dX11_whose_79 : decode cX11_whose 79 = .ok (.istore 5, 2) := by decide +kernel
theorem dX11_whose_81 : decode cX11_whose 81 = .ok (.iinc 6 1, 3) := by decide +kernel
theorem dX11_whose_84 : decode cX11_whose 84 = .ok (.goto (-45), 3) := by decide +kernel
theorem dX11_whose_87 : decode cX11_whose 87 = .ok (.iload_n 2, 1) := by decide +kernel
theorem dX11_whose_88 : decode cX11_whose 88 = .ok (.ifCond .ne 8, 3) := by decide +kernel
theorem dX11_whose_91 : decode cX11_whose 91 = .ok (.iload 4, 2) := by decide +kernel
theorem dX11_whose_93 : decode cX11_whose 93 = .ok (.goto 5, 3) := by decide +kernel
theorem dX11_whose_96 : decode cX11_whose 96 = .ok (.iload 5, 2) := by decide +kernel
theorem dX11_whose_98 : decode cX11_whose 98 = .ok (.ireturn, 1) := by decide +kernel
set_option maxRecDepth 20000 in
theorem ggX11_so_X11_isZeroOrOne : GoodIn wsX11_so wsX11_isZeroOrOne := goodIn_r _ [6] (by decide +kernel) (by decide +kernel)
set_option maxRecDepth 20000 in
theorem gX11_so_X11_isZeroOrOne : GoodIn wsX11_so (va_wsS RX11 201 yX11_isZeroOrOne wsX11_isZeroOrOne) := goodIn_app (goodIn_of _ (by decide +kernel)) ggX11_so_X11_isZeroOrOne
set_option maxRecDepth 20000 in
theorem ggX11_so_X10_clashesWithin : GoodIn wsX11_so wsX10_clashesWithin := goodIn_r _ [11, 12, 13, 14, 15, 16, 17, 18, 19, 47, 48, 49, 50, 51] (by decide +kernel) (by decide +kernel)
set_option maxRecDepth 20000 in
theorem gX11_so_X10_clashesWithin : GoodIn wsX11_so (wsV RX11 154 RX10 yX10_clashesWithin wsX10_clashesWithin) := goodIn_app (goodIn_of _ (by decide +kernel)) ggX11_so_X10_clashesWithin
set_option maxRecDepth 20000 in
theorem ggX11_so_X8_timesOfSet : GoodIn wsX11_so wsX8_timesOfSet := goodIn_r _ [24, 25, 26, 27, 23, 28, 29, 30, 31, 32, 33, 52] (by decide +kernel) (by decide +kernel)
set_option maxRecDepth 20000 in
theorem gX11_so_X8_timesOfSet : GoodIn wsX11_so (wsV RX11 213 RX8 yX8_timesOfSet wsX8_timesOfSet) := goodIn_app (goodIn_of _ (by decide +kernel)) ggX11_so_X8_timesOfSet
theorem dX11_so_0 : decode cX11_so 0 = .ok (.iload_n 1, 1) := by decide +kernel
theorem dX11_so_1 : decode cX11_so 1 = .ok (.invokestatic 201, 3) := by decide +kernel
theorem dX11_so_4 : decode cX11_so 4 = .ok (.ifCond .ne 5, 3) := by decide +kernel
theorem dX11_so_7 : decode cX11_so 7 = .ok (.iconst (-1), 1) := by decide +kernel
theorem dX11_so_8 : decode cX11_so 8 = .ok (.ireturn, 1) := by decide +kernel
theorem dX11_so_9 : decode cX11_so 9 = .ok (.iconst 0, 1) := by decide +kernel
theorem dX11_so_10 : decode cX11_so 10 = .ok (.istore_n 2, 1) := by decide +kernel
theorem dX11_so_11 : decode cX11_so 11 = .ok (.iconst 0, 1) := by decide +kernel
theorem dX11_so_12 : decode cX11_so 12 = .ok (.istore_n 3, 1) := by decide +kernel
theorem dX11_so_13 : decode cX11_so 13 = .ok (.iconst 1, 1) := by decide +kernel
theorem dX11_so_14 : decode cX11_so 14 = .ok (.istore 4, 2) := by decide +kernel
theorem dX11_so_16 : decode cX11_so 16 = .ok (.iload 4, 2) := by decide +kernel
theorem dX11_so_18 : decode cX11_so 18 = .ok (.sipush 128, 3) := by decide +kernel
theorem dX11_so_21 : decode cX11_so 21 = .ok (.if_icmp .ge 44, 3) := by decide +kernel
theorem dX11_so_24 : decode cX11_so 24 = .ok (.aload_n 0, 1) := by decide +kernel
theorem dX11_so_25 : decode cX11_so 25 = .ok (.getfield 75, 3) := by decide +kernel
theorem dX11_so_28 : decode cX11_so 28 = .ok (.iload 4, 2) := by decide +kernel
theorem dX11_so_30 : decode cX11_so 30 = .ok (.invokevirtual 154, 3) := by decide +kernel
theorem dX11_so_33 : decode cX11_so 33 = .ok (.ifCond .ne 26, 3) := by decide +kernel
theorem dX11_so_36 : decode cX11_so 36 = .ok (.aload_n 0, 1) := by decide +kernel
theorem dX11_so_37 : decode cX11_so 37 = .ok (.getfield 19, 3) := by decide +kernel
theorem dX11_so_40 : decode cX11_so 40 = .ok (.iload 4, 2) := by decide +kernel
theorem dX11_so_42 : decode cX11_so 42 = .ok (.invokevirtual 213, 3) := by decide +kernel
theorem dX11_so_45 : decode cX11_so 45 = .ok (.istore 5, 2) := by decide +kernel
theorem dX11_so_47 : decode cX11_so 47 = .ok (.iload 5, 2) := by decide +kernel
theorem dX11_so_49 : decode cX11_so 49 = .ok (.iload_n 3, 1) := by decide +kernel
theorem dX11_so_50 : decode cX11_so 50 = .ok (.if_icmp .le 9, 3) := by decide +kernel
theorem dX11_so_53 : decode cX11_so 53 = .ok (.iload 5, 2) := by decide +kernel
theorem dX11_so_55 : decode cX11_so 55 = .ok (.istore_n 3, 1) := by decide +kernel
theorem dX11_so_56 : decode cX11_so 56 = .ok (.iload 4, 2) := by decide +kernel
theorem dX11_so_58 : decode cX11_so 58 = .ok (.istore_n 2, 1) := by decide +kernel
theorem dX11_so_59 : decode cX11_so 59 = .ok (.iinc 4 1, 3) := by decide +kernel
theorem dX11_so_62 : decode cX11_so 62 = .ok (.goto (-46), 3) := by decide +kernel
theorem dX11_so_65 : decode cX11_so 65 = .ok (.iload_n 1, 1) := by decide +kernel
theorem dX11_so_66 : decode cX11_so 66 = .ok (.ifCond .ne 7, 3) := by decide +kernel
theorem dX11_so_69 : decode cX11_so 69 = .ok (.iload_n 2, 1) := by decide +kernel
theorem dX11_so_70 : decode cX11_so 70 = .ok (.goto 4, 3) := by decide +kernel
theorem dX11_so_73 : decode cX11_so 73 = .ok (.iload_n 3, 1) := by decide +kernel
theorem dX11_so_74 : decode cX11_so 74 = .ok (.ireturn, 1) := by decide +kernel
set_option maxRecDepth 20000 in
theorem ggX11_tally_X11_areTwoPillows : GoodIn wsX11_tally wsX11_areTwoPillows := goodIn_r _ [6, 7, 8, 9, 10, 11, 12, 13, 31, 32, 33, 34, 35, 36, 37, 38, 39, 40, 41, 42, 43, 44, 45, 46, 47, 48] (by decide +kernel) (by decide +kernel)
set_option maxRecDepth 20000 in
theorem gX11_tally_X11_areTwoPillows : GoodIn wsX11_tally (wsV RX11 187 RX11 yX11_areTwoPillows wsX11_areTwoPillows) := goodIn_app (goodIn_of _ (by decide +kernel)) ggX11_tally_X11_areTwoPillows
set_option maxRecDepth 20000 in
theorem ggX11_tally_X8_thingsOn : GoodIn wsX11_tally wsX8_thingsOn := goodIn_r _ [18, 19, 20, 21, 17, 22, 23, 49] (by decide +kernel) (by decide +kernel)
set_option maxRecDepth 20000 in
theorem gX11_tally_X8_thingsOn : GoodIn wsX11_tally (wsV RX11 132 RX8 yX8_thingsOn wsX8_thingsOn) := goodIn_app (goodIn_of _ (by decide +kernel)) ggX11_tally_X8_thingsOn
set_option maxRecDepth 20000 in
theorem ggX11_tally_J6_bitCount_0f7a4 : GoodIn wsX11_tally wsJ6_bitCount_0f7a4 := goodIn_r _ [27, 28, 29, 30] (by decide +kernel) (by decide +kernel)
set_option maxRecDepth 20000 in
theorem gX11_tally_J6_bitCount_0f7a4 : GoodIn wsX11_tally (va_wsS RX11 182 yJ6_bitCount_0f7a4 wsJ6_bitCount_0f7a4) := goodIn_app (goodIn_of _ (by decide +kernel)) ggX11_tally_J6_bitCount_0f7a4
theorem dX11_tally_0 : decode cX11_tally 0 = .ok (.aload_n 0, 1) := by decide +kernel
theorem dX11_tally_1 : decode cX11_tally 1 = .ok (.iload_n 1, 1) := by decide +kernel
theorem dX11_tally_2 : decode cX11_tally 2 = .ok (.iload_n 2, 1) := by decide +kernel
theorem dX11_tally_3 : decode cX11_tally 3 = .ok (.invokevirtual 187, 3) := by decide +kernel
theorem dX11_tally_6 : decode cX11_tally 6 = .ok (.ifCond .eq 26, 3) := by decide +kernel
theorem dX11_tally_9 : decode cX11_tally 9 = .ok (.aload_n 0, 1) := by decide +kernel
theorem dX11_tally_10 : decode cX11_tally 10 = .ok (.getfield 19, 3) := by decide +kernel
theorem dX11_tally_13 : decode cX11_tally 13 = .ok (.iload_n 1, 1) := by decide +kernel
theorem dX11_tally_14 : decode cX11_tally 14 = .ok (.invokevirtual 132, 3) := by decide +kernel
theorem dX11_tally_17 : decode cX11_tally 17 = .ok (.aload_n 0, 1) := by decide +kernel
theorem dX11_tally_18 : decode cX11_tally 18 = .ok (.getfield 19, 3) := by decide +kernel
theorem dX11_tally_21 : decode cX11_tally 21 = .ok (.iload_n 2, 1) := by decide +kernel
theorem dX11_tally_22 : decode cX11_tally 22 = .ok (.invokevirtual 132, 3) := by decide +kernel
theorem dX11_tally_25 : decode cX11_tally 25 = .ok (.ixor, 1) := by decide +kernel
theorem dX11_tally_26 : decode cX11_tally 26 = .ok (.invokestatic 182, 3) := by decide +kernel
theorem dX11_tally_29 : decode cX11_tally 29 = .ok (.goto 4, 3) := by decide +kernel
theorem dX11_tally_32 : decode cX11_tally 32 = .ok (.iconst (-1), 1) := by decide +kernel
theorem dX11_tally_33 : decode cX11_tally 33 = .ok (.ireturn, 1) := by decide +kernel
set_option maxRecDepth 20000 in
theorem ggX11_fit_X10_hasPerson : GoodIn wsX11_fit wsX10_hasPerson := goodIn_r _ [8, 9, 71, 72, 73, 74, 75] (by decide +kernel) (by decide +kernel)
set_option maxRecDepth 20000 in
theorem gX11_fit_X10_hasPerson : GoodIn wsX11_fit (wsV RX11 107 RX10 yX10_hasPerson wsX10_hasPerson) := goodIn_app (goodIn_of _ (by decide +kernel)) ggX11_fit_X10_hasPerson
set_option maxRecDepth 20000 in
theorem ggX11_fit_X0_weigh : GoodIn wsX11_fit wsX0_weigh := goodIn_r _ [14, 15, 16, 17, 18, 19, 20, 21, 22, 23, 24, 25, 26, 27, 28, 29, 30, 31, 32, 33, 34, 35, 13, 36, 37, 38, 39, 40, 41, 42, 43, 44, 45, 76, 77, 71, 72, 73, 74, 75, 78] (by decide +kernel) (by decide +kernel)
set_option maxRecDepth 20000 in
theorem gX11_fit_X0_weigh : GoodIn wsX11_fit (wsV RX11 216 RX0 yX0_weigh wsX0_weigh) := goodIn_app (goodIn_of _ (by decide +kernel)) ggX11_fit_X0_weigh
set_option maxRecDepth 20000 in
theorem ggX11_fit_X0_explained : GoodIn wsX11_fit wsX0_explained := goodIn_r _ [49, 15, 76, 77] (by decide +kernel) (by decide +kernel)
set_option maxRecDepth 20000 in
theorem gX11_fit_X0_explained : GoodIn wsX11_fit (wsV RX11 220 RX0 yX0_explained wsX0_explained) := goodIn_app (goodIn_of _ (by decide +kernel)) ggX11_fit_X0_explained
set_option maxRecDepth 20000 in
theorem ggX11_fit_X0_pillowOf : GoodIn wsX11_fit wsX0_pillowOf := goodIn_r _ [53, 54, 55, 56, 13, 57, 15, 37, 42, 43, 44, 45, 17, 76, 77, 71, 72, 73, 74, 75] (by decide +kernel) (by decide +kernel)
set_option maxRecDepth 20000 in
theorem gX11_fit_X0_pillowOf : GoodIn wsX11_fit (wsV RX11 223 RX0 yX0_pillowOf wsX0_pillowOf) := goodIn_app (goodIn_of _ (by decide +kernel)) ggX11_fit_X0_pillowOf
theorem dX11_fit_0 : decode cX11_fit 0 = .ok (.iload_n 1, 1) := by decide +kernel
theorem dX11_fit_1 : decode cX11_fit 1 = .ok (.iconst (-1), 1) := by decide +kernel
theorem dX11_fit_2 : decode cX11_fit 2 = .ok (.if_icmp .eq 16, 3) := by decide +kernel
theorem dX11_fit_5 : decode cX11_fit 5 = .ok (.aload_n 0, 1) := by decide +kernel
theorem dX11_fit_6 : decode cX11_fit 6 = .ok (.getfield 75, 3) := by decide +kernel
theorem dX11_fit_9 : decode cX11_fit 9 = .ok (.iload_n 1, 1) := by decide +kernel
theorem dX11_fit_10 : decode cX11_fit 10 = .ok (.invokevirtual 107, 3) := by decide +kernel
theorem dX11_fit_13 : decode cX11_fit 13 = .ok (.ifCond .ne 5, 3) := by decide +kernel
theorem dX11_fit_16 : decode cX11_fit 16 = .ok (.iconst (-1), 1) := by decide +kernel
theorem dX11_fit_17 : decode cX11_fit 17 = .ok (.ireturn, 1) := by decide +kernel
theorem dX11_fit_18 : decode cX11_fit 18 = .ok (.aload_n 0, 1) := by decide +kernel
theorem dX11_fit_19 : decode cX11_fit 19 = .ok (.getfield 33, 3) := by decide +kernel
theorem dX11_fit_22 : decode cX11_fit 22 = .ok (.aload_n 0, 1) := by decide +kernel
theorem dX11_fit_23 : decode cX11_fit 23 = .ok (.getfield 75, 3) := by decide +kernel
theorem dX11_fit_26 : decode cX11_fit 26 = .ok (.aload_n 0, 1) := by decide +kernel
theorem dX11_fit_27 : decode cX11_fit 27 = .ok (.getfield 19, 3) := by decide +kernel
theorem dX11_fit_30 : decode cX11_fit 30 = .ok (.invokevirtual 216, 3) := by decide +kernel
theorem dX11_fit_33 : decode cX11_fit 33 = .ok (.iload_n 1, 1) := by decide +kernel
theorem dX11_fit_34 : decode cX11_fit 34 = .ok (.iconst (-1), 1) := by decide +kernel
theorem dX11_fit_35 : decode cX11_fit 35 = .ok (.if_icmp .ne 13, 3) := by decide +kernel
theorem dX11_fit_38 : decode cX11_fit 38 = .ok (.aload_n 0, 1) := by decide +kernel
theorem dX11_fit_39 : decode cX11_fit 39 = .ok (.getfield 33, 3) := by decide +kernel
theorem dX11_fit_42 : decode cX11_fit 42 = .ok (.invokevirtual 220, 3) := by decide +kernel
theorem dX11_fit_45 : decode cX11_fit 45 = .ok (.goto 15, 3) := by decide +kernel
theorem dX11_fit_48 : decode cX11_fit 48 = .ok (.aload_n 0, 1) := by decide +kernel
theorem dX11_fit_49 : decode cX11_fit 49 = .ok (.getfield 33, 3) := by decide +kernel
theorem dX11_fit_52 : decode cX11_fit 52 = .ok (.aload_n 0, 1) := by decide +kernel
theorem dX11_fit_53 : decode cX11_fit 53 = .ok (.getfield 75, 3) := by decide +kernel
theorem dX11_fit_56 : decode cX11_fit 56 = .ok (.iload_n 1, 1) := by decide +kernel
theorem dX11_fit_57 : decode cX11_fit 57 = .ok (.invokevirtual 223, 3) := by decide +kernel
theorem dX11_fit_60 : decode cX11_fit 60 = .ok (.ireturn, 1) := by decide +kernel
set_option maxRecDepth 20000 in
theorem ggX11_looks_X8_allThings : GoodIn wsX11_looks wsX8_allThings := goodIn_r _ [8, 9, 10, 11, 7, 12, 13, 14, 15, 16, 17, 18, 19, 20, 21, 56] (by decide +kernel) (by decide +kernel)
set_option maxRecDepth 20000 in
theorem gX11_looks_X8_allThings : GoodIn wsX11_looks (wsV RX11 151 RX8 yX8_allThings wsX8_allThings) := goodIn_app (goodIn_of _ (by decide +kernel)) ggX11_looks_X8_allThings
set_option maxRecDepth 20000 in
theorem ggX11_looks_X8_knownThings : GoodIn wsX11_looks wsX8_knownThings := goodIn_r _ [25, 21, 9, 10, 11, 7, 12, 13, 14, 15, 16, 17, 18, 19, 20, 56] (by decide +kernel) (by decide +kernel)
set_option maxRecDepth 20000 in
theorem gX11_looks_X8_knownThings : GoodIn wsX11_looks (wsV RX11 148 RX8 yX8_knownThings wsX8_knownThings) := goodIn_app (goodIn_of _ (by decide +kernel)) ggX11_looks_X8_knownThings
set_option maxRecDepth 20000 in
theorem ggX11_looks_X8_thingsOnSet : GoodIn wsX11_looks wsX8_thingsOnSet := goodIn_r _ [12, 13, 14, 15, 7, 16, 17, 18, 19, 20, 21, 56] (by decide +kernel) (by decide +kernel)
set_option maxRecDepth 20000 in
theorem gX11_looks_X8_thingsOnSet : GoodIn wsX11_looks (wsV RX11 229 RX8 yX8_thingsOnSet wsX8_thingsOnSet) := goodIn_app (goodIn_of _ (by decide +kernel)) ggX11_looks_X8_thingsOnSet
set_option maxRecDepth 20000 in
theorem ggX11_looks_X11_fewerOf : GoodIn wsX11_looks wsX11_fewerOf := goodIn_r _ [30, 31, 32, 33, 34, 35, 36, 37] (by decide +kernel) (by decide +kernel)
set_option maxRecDepth 20000 in
theorem gX11_looks_X11_fewerOf : GoodIn wsX11_looks (va_wsS RX11 210 yX11_fewerOf wsX11_fewerOf) := goodIn_app (goodIn_of _ (by decide +kernel)) ggX11_looks_X11_fewerOf
theorem dX11_looks_0 : decode cX11_looks 0 = .ok (.aload_n 0, 1) := by decide +kernel
theorem dX11_looks_1 : decode cX11_looks 1 = .ok (.getfield 19, 3) := by decide +kernel
theorem dX11_looks_4 : decode cX11_looks 4 = .ok (.invokevirtual 151, 3) := by decide +kernel
theorem dX11_looks_7 : decode cX11_looks 7 = .ok (.aload_n 0, 1) := by decide +kernel
theorem dX11_looks_8 : decode cX11_looks 8 = .ok (.getfield 19, 3) := by decide +kernel
theorem dX11_looks_11 : decode cX11_looks 11 = .ok (.invokevirtual 148, 3) := by decide +kernel
theorem dX11_looks_14 : decode cX11_looks 14 = .ok (.iconst (-1), 1) := by decide +kernel
theorem dX11_looks_15 : decode cX11_looks 15 = .ok (.ixor, 1) := by decide +kernel
theorem dX11_looks_16 : decode cX11_looks 16 = .ok (.iand, 1) := by decide +kernel
theorem dX11_looks_17 : decode cX11_looks 17 = .ok (.istore_n 1, 1) := by decide +kernel
theorem dX11_looks_18 : decode cX11_looks 18 = .ok (.bipush (-9), 2) := by decide +kernel
theorem dX11_looks_20 : decode cX11_looks 20 = .ok (.istore_n 2, 1) := by decide +kernel
theorem dX11_looks_21 : decode cX11_looks 21 = .ok (.iconst 0, 1) := by decide +kernel
theorem dX11_looks_22 : decode cX11_looks 22 = .ok (.istore_n 3, 1) := by decide +kernel
theorem dX11_looks_23 : decode cX11_looks 23 = .ok (.iload_n 3, 1) := by decide +kernel
theorem dX11_looks_24 : decode cX11_looks 24 = .ok (.iconst 1, 1) := by decide +kernel
theorem dX11_looks_25 : decode cX11_looks 25 = .ok (.aload_n 0, 1) := by decide +kernel
theorem dX11_looks_26 : decode cX11_looks 26 = .ok (.getfield 75, 3) := by decide +kernel
theorem dX11_looks_29 : decode cX11_looks 29 = .ok (.getfield 226, 3) := by decide +kernel
theorem dX11_looks_32 : decode cX11_looks 32 = .ok (.ishl, 1) := by decide +kernel
theorem dX11_looks_33 : decode cX11_looks 33 = .ok (.if_icmp .ge 30, 3) := by decide +kernel
theorem dX11_looks_36 : decode cX11_looks 36 = .ok (.iload_n 1, 1) := by decide +kernel
theorem dX11_looks_37 : decode cX11_looks 37 = .ok (.aload_n 0, 1) := by decide +kernel
theorem dX11_looks_38 : decode cX11_looks 38 = .ok (.getfield 19, 3) := by decide +kernel
theorem dX11_looks_41 : decode cX11_looks 41 = .ok (.iload_n 3, 1) := by decide +kernel
theorem dX11_looks_42 : decode cX11_looks 42 = .ok (.invokevirtual 229, 3) := by decide +kernel
theorem dX11_looks_45 : decode cX11_looks 45 = .ok (.iconst (-1), 1) := by decide +kernel
theorem dX11_looks_46 : decode cX11_looks 46 = .ok (.ixor, 1) := by decide +kernel
theorem dX11_looks_47 : decode cX11_looks 47 = .ok (.iand, 1) := by decide +kernel
theorem dX11_looks_48 : decode cX11_looks 48 = .ok (.ifCond .ne 9, 3) := by decide +kernel
theorem dX11_looks_51 : decode cX11_looks 51 = .ok (.iload_n 2, 1) := by decide +kernel
theorem dX11_looks_52 : decode cX11_looks 52 = .ok (.iload_n 3, 1) := by decide +kernel
theorem dX11_looks_53 : decode cX11_looks 53 = .ok (.invokestatic 210, 3) := by decide +kernel
theorem dX11_looks_56 : decode cX11_looks 56 = .ok (.istore_n 2, 1) := by decide +kernel
theorem dX11_looks_57 : decode cX11_looks 57 = .ok (.iinc 3 1, 3) := by decide +kernel
theorem dX11_looks_60 : decode cX11_looks 60 = .ok (.goto (-37), 3) := by decide +kernel
theorem dX11_looks_63 : decode cX11_looks 63 = .ok (.iload_n 2, 1) := by decide +kernel
theorem dX11_looks_64 : decode cX11_looks 64 = .ok (.ireturn, 1) := by decide +kernel
set_option maxRecDepth 20000 in
theorem ggX11_next_X8_knownThings : GoodIn wsX11_next wsX8_knownThings := goodIn_r _ [8, 9, 10, 11, 12, 7, 13, 14, 15, 16, 17, 18, 19, 20, 21, 52] (by decide +kernel) (by decide +kernel)
set_option maxRecDepth 20000 in
theorem gX11_next_X8_knownThings : GoodIn wsX11_next (wsV RX11 148 RX8 yX8_knownThings wsX8_knownThings) := goodIn_app (goodIn_of _ (by decide +kernel)) ggX11_next_X8_knownThings
set_option maxRecDepth 20000 in
theorem ggX11_next_X8_thingsOn : GoodIn wsX11_next wsX8_thingsOn := goodIn_r _ [17, 18, 19, 20, 7, 21, 9, 52] (by decide +kernel) (by decide +kernel)
set_option maxRecDepth 20000 in
theorem gX11_next_X8_thingsOn : GoodIn wsX11_next (wsV RX11 132 RX8 yX8_thingsOn wsX8_thingsOn) := goodIn_app (goodIn_of _ (by decide +kernel)) ggX11_next_X8_thingsOn
set_option maxRecDepth 20000 in
theorem ggX11_next_J6_bitCount_0f7a4 : GoodIn wsX11_next wsJ6_bitCount_0f7a4 := goodIn_r _ [26, 27, 28, 29] (by decide +kernel) (by decide +kernel)
set_option maxRecDepth 20000 in
theorem gX11_next_J6_bitCount_0f7a4 : GoodIn wsX11_next (va_wsS RX11 182 yJ6_bitCount_0f7a4 wsJ6_bitCount_0f7a4) := goodIn_app (goodIn_of _ (by decide +kernel)) ggX11_next_J6_bitCount_0f7a4
set_option maxRecDepth 20000 in
theorem ggX11_next_X8_isExamined : GoodIn wsX11_next wsX8_isExamined := goodIn_r _ [33, 9, 52] (by decide +kernel) (by decide +kernel)
set_option maxRecDepth 20000 in
theorem gX11_next_X8_isExamined : GoodIn wsX11_next (wsV RX11 138 RX8 yX8_isExamined wsX8_isExamined) := goodIn_app (goodIn_of _ (by decide +kernel)) ggX11_next_X8_isExamined
theorem dX11_next_0 : decode cX11_next 0 = .ok (.aload_n 0, 1) := by decide +kernel
theorem dX11_next_1 : decode cX11_next 1 = .ok (.getfield 19, 3) := by decide +kernel
theorem dX11_next_4 : decode cX11_next 4 = .ok (.invokevirtual 148, 3) := by decide +kernel
theorem dX11_next_7 : decode cX11_next 7 = .ok (.istore_n 1, 1) := by decide +kernel
theorem dX11_next_8 : decode cX11_next 8 = .ok (.bipush (-9), 2) := by decide +kernel
theorem dX11_next_10 : decode cX11_next 10 = .ok (.istore_n 2, 1) := by decide +kernel
theorem dX11_next_11 : decode cX11_next 11 = .ok (.iconst (-1), 1) := by decide +kernel
theorem dX11_next_12 : decode cX11_next 12 = .ok (.istore_n 3, 1) := by decide +kernel
theorem dX11_next_13 : decode cX11_next 13 = .ok (.iconst 0, 1) := by decide +kernel
theorem dX11_next_14 : decode cX11_next 14 = .ok (.istore 4, 2) := by decide +kernel
theorem dX11_next_16 : decode cX11_next 16 = .ok (.iload 4, 2) := by decide +kernel
theorem dX11_next_18 : decode cX11_next 18 = .ok (.aload_n 0, 1) := by decide +kernel
theorem dX11_next_19 : decode cX11_next 19 = .ok (.getfield 75, 3) := by decide +kernel
theorem dX11_next_22 : decode cX11_next 22 = .ok (.getfield 226, 3) := by decide +kernel
theorem dX11_next_25 : decode cX11_next 25 = .ok (.if_icmp .ge 51, 3) := by decide +kernel
theorem dX11_next_28 : decode cX11_next 28 = .ok (.aload_n 0, 1) := by decide +kernel
theorem dX11_next_29 : decode cX11_next 29 = .ok (.getfield 19, 3) := by decide +kernel
theorem dX11_next_32 : decode cX11_next 32 = .ok (.iload 4, 2) := by decide +kernel
theorem dX11_next_34 : decode cX11_next 34 = .ok (.invokevirtual 132, 3) := by decide +kernel
theorem dX11_next_37 : decode cX11_next 37 = .ok (.iload_n 1, 1) := by decide +kernel
theorem dX11_next_38 : decode cX11_next 38 = .ok (.iconst (-1), 1) := by decide +kernel
theorem dX11_next_39 : decode cX11_next 39 = .ok (.ixor, 1) := by decide +kernel
theorem dX11_next_40 : decode cX11_next 40 = .ok (.iand, 1) := by decide +kernel
theorem dX11_next_41 : decode cX11_next 41 = .ok (.invokestatic 182, 3) := by decide +kernel
theorem dX11_next_44 : decode cX11_next 44 = .ok (.istore 5, 2) := by decide +kernel
theorem dX11_next_46 : decode cX11_next 46 = .ok (.aload_n 0, 1) := by decide +kernel
theorem dX11_next_47 : decode cX11_next 47 = .ok (.getfield 19, 3) := by decide +kernel
theorem dX11_next_50 : decode cX11_next 50 = .ok (.iload 4, 2) := by decide +kernel
theorem dX11_next_52 : decode cX11_next 52 = .ok (.invokevirtual 138, 3) := by decide +kernel
theorem dX11_next_55 : decode cX11_next 55 = .ok (.ifCond .ne 15, 3) := by decide +kernel
theorem dX11_next_58 : decode cX11_next 58 = .ok (.iload 5, 2) := by decide +kernel
theorem dX11_next_60 : decode cX11_next 60 = .ok (.iload_n 3, 1) := by decide +kernel
theorem dX11_next_61 : decode cX11_next 61 = .ok (.if_icmp .le 9, 3) := by decide +kernel
theorem dX11_next_64 : decode cX11_next 64 = .ok (.iload 5, 2) := by decide +kernel
theorem dX11_next_66 : decode cX11_next 66 = .ok (.istore_n 3, 1) := by decide +kernel
theorem dX11_next_67 : decode cX11_next 67 = .ok (.iload 4, 2) := by decide +kernel
theorem dX11_next_69 : decode cX11_next 69 = .ok (.istore_n 2, 1) := by decide +kernel
theorem dX11_next_70 : decode cX11_next 70 = .ok (.iinc 4 1, 3) := by decide +kernel
theorem dX11_next_73 : decode cX11_next 73 = .ok (.goto (-57), 3) := by decide +kernel
theorem dX11_next_76 : decode cX11_next 76 = .ok (.iload_n 2, 1) := by decide +kernel
theorem dX11_next_77 : decode cX11_next 77 = .ok (.ireturn, 1) := by decide +kernel
set_option maxRecDepth 20000 in
theorem ggX11_inNights_X11_isDraw : GoodIn wsX11_inNights wsX11_isDraw := goodIn_r _ [7] (by decide +kernel) (by decide +kernel)
set_option maxRecDepth 20000 in
theorem gX11_inNights_X11_isDraw : GoodIn wsX11_inNights (va_wsS RX11 171 yX11_isDraw wsX11_isDraw) := goodIn_app (goodIn_of _ (by decide +kernel)) ggX11_inNights_X11_isDraw
set_option maxRecDepth 20000 in
theorem ggX11_inNights_X10_hasPillow : GoodIn wsX11_inNights wsX10_hasPillow := goodIn_r _ [12, 13, 75, 76, 77, 78, 79] (by decide +kernel) (by decide +kernel)
set_option maxRecDepth 20000 in
theorem gX11_inNights_X10_hasPillow : GoodIn wsX11_inNights (wsV RX11 129 RX10 yX10_hasPillow wsX10_hasPillow) := goodIn_app (goodIn_of _ (by decide +kernel)) ggX11_inNights_X10_hasPillow
set_option maxRecDepth 20000 in
theorem ggX11_inNights_X8_thingsOn : GoodIn wsX11_inNights wsX8_thingsOn := goodIn_r _ [18, 19, 20, 21, 17, 22, 23, 80] (by decide +kernel) (by decide +kernel)
set_option maxRecDepth 20000 in
theorem gX11_inNights_X8_thingsOn : GoodIn wsX11_inNights (wsV RX11 132 RX8 yX8_thingsOn wsX8_thingsOn) := goodIn_app (goodIn_of _ (by decide +kernel)) ggX11_inNights_X8_thingsOn
set_option maxRecDepth 20000 in
theorem ggX11_inNights_X8_nightNumber : GoodIn wsX11_inNights wsX8_nightNumber := goodIn_r _ [27, 23, 80] (by decide +kernel) (by decide +kernel)
set_option maxRecDepth 20000 in
theorem gX11_inNights_X8_nightNumber : GoodIn wsX11_inNights (wsV RX11 145 RX8 yX8_nightNumber wsX8_nightNumber) := goodIn_app (goodIn_of _ (by decide +kernel)) ggX11_inNights_X8_nightNumber
set_option maxRecDepth 20000 in
theorem ggX11_inNights_X11_listen : GoodIn wsX11_inNights wsX11_listen := goodIn_r _ [31, 3, 1, 32, 2, 33, 34, 35, 36, 37, 38, 39, 17, 40, 23, 41, 42, 43, 11, 44, 45, 46, 47, 48, 49, 50, 51, 52, 53, 54, 55, 56, 57, 58, 59, 60, 61, 62, 63, 64, 65, 66, 67, 68, 69, 70, 71, 72, 73, 74, 75, 76, 77, 78, 79, 80] (by decide +kernel) (by decide +kernel)
set_option maxRecDepth 20000 in
theorem gX11_inNights_X11_listen : GoodIn wsX11_inNights (wsV RX11 232 RX11 yX11_listen wsX11_listen) := goodIn_app (goodIn_of _ (by decide +kernel)) ggX11_inNights_X11_listen
theorem dX11_inNights_0 : decode cX11_inNights 0 = .ok (.iload_n 1, 1) := by decide +kernel
theorem dX11_inNights_1 : decode cX11_inNights 1 = .ok (.invokestatic 171, 3) := by decide +kernel
theorem dX11_inNights_4 : decode cX11_inNights 4 = .ok (.ifCond .eq 24, 3) := by decide +kernel
theorem dX11_inNights_7 : decode cX11_inNights 7 = .ok (.iload_n 2, 1) := by decide +kernel
theorem dX11_inNights_8 : decode cX11_inNights 8 = .ok (.ifCond .lt 20, 3) := by decide +kernel
theorem dX11_inNights_11 : decode cX11_inNights 11 = .ok (.iload_n 2, 1) := by decide +kernel
theorem dX11_inNights_12 : decode cX11_inNights 12 = .ok (.bipush 20, 2) := by decide +kernel
theorem dX11_inNights_14 : decode cX11_inNights 14 = .ok (.if_icmp .gt 14, 3) := by decide +kernel
theorem dX11_inNights_17 : decode cX11_inNights 17 = .ok (.aload_n 0, 1) := by decide +kernel
theorem dX11_inNights_18 : decode cX11_inNights 18 = .ok (.getfield 75, 3) := by decide +kernel
theorem dX11_inNights_21 : decode cX11_inNights 21 = .ok (.iload_n 3, 1) := by decide +kernel
theorem dX11_inNights_22 : decode cX11_inNights 22 = .ok (.invokevirtual 129, 3) := by decide +kernel
theorem dX11_inNights_25 : decode cX11_inNights 25 = .ok (.ifCond .ne 5, 3) := by decide +kernel
theorem dX11_inNights_28 : decode cX11_inNights 28 = .ok (.iconst (-1), 1) := by decide +kernel
theorem dX11_inNights_29 : decode cX11_inNights 29 = .ok (.ireturn, 1) := by decide +kernel
theorem dX11_inNights_30 : decode cX11_inNights 30 = .ok (.aload_n 0, 1) := by decide +kernel
theorem dX11_inNights_31 : decode cX11_inNights 31 = .ok (.getfield 19, 3) := by decide +kernel
theorem dX11_inNights_34 : decode cX11_inNights 34 = .ok (.iload_n 3, 1) := by decide +kernel
theorem dX11_inNights_35 : decode cX11_inNights 35 = .ok (.invokevirtual 132, 3) := by decide +kernel
theorem dX11_inNights_38 : decode cX11_inNights 38 = .ok (.istore 4, 2) := by decide +kernel
theorem dX11_inNights_40 : decode cX11_inNights 40 = .ok (.iconst 0, 1) := by decide +kernel
theorem dX11_inNights_41 : decode cX11_inNights 41 = .ok (.istore 5, 2) := by decide +kernel
theorem dX11_inNights_43 : decode cX11_inNights 43 = .ok (.iload 5, 2) := by decide +kernel
theorem dX11_inNights_45 : decode cX11_inNights 45 = .ok (.iload_n 2, 1) := by decide +kernel
theorem dX11_inNights_46 : decode cX11_inNights 46 = .ok (.if_icmp .ge 42, 3) := by decide +kernel
theorem dX11_inNights_49 : decode cX11_inNights 49 = .ok (.aload_n 0, 1) := by decide +kernel
theorem dX11_inNights_50 : decode cX11_inNights 50 = .ok (.iload_n 1, 1) := by decide +kernel
theorem dX11_inNights_51 : decode cX11_inNights 51 = .ok (.iload 5, 2) := by decide +kernel
theorem dX11_inNights_53 : decode cX11_inNights 53 = .ok (.iadd, 1) := by decide +kernel
theorem dX11_inNights_54 : decode cX11_inNights 54 = .ok (.sipush 10000, 3) := by decide +kernel
theorem dX11_inNights_57 : decode cX11_inNights 57 = .ok (.irem, 1) := by decide +kernel
theorem dX11_inNights_58 : decode cX11_inNights 58 = .ok (.aload_n 0, 1) := by decide +kernel
theorem dX11_inNights_59 : decode cX11_inNights 59 = .ok (.getfield 19, 3) := by decide +kernel
theorem dX11_inNights_62 : decode cX11_inNights 62 = .ok (.invokevirtual 145, 3) := by decide +kernel
theorem dX11_inNights_65 : decode cX11_inNights 65 = .ok (.iload 5, 2) := by decide +kernel
theorem dX11_inNights_67 : decode cX11_inNights 67 = .ok (.iadd, 1) := by decide +kernel
theorem dX11_inNights_68 : decode cX11_inNights 68 = .ok (.invokevirtual 232, 3) := by decide +kernel
theorem dX11_inNights_71 : decode cX11_inNights 71 = .ok (.iload 4, 2) := by decide +kernel
theorem dX11_inNights_73 : decode cX11_inNights 73 = .ok (.aload_n 0, 1) := by decide +kernel
theorem dX11_inNights_74 : decode cX11_inNights 74 = .ok (.getfield 69, 3) := by decide +kernel
theorem dX11_inNights_77 : decode cX11_inNights 77 = .ok (.iload_n 3, 1) := by decide +kernel
theorem dX11_inNights_78 : decode cX11_inNights 78 = .ok (.iaload, 1) := by decide +kernel
theorem dX11_inNights_79 : decode cX11_inNights 79 = .ok (.ior, 1) := by decide +kernel
theorem dX11_inNights_80 : decode cX11_inNights 80 = .ok (.istore 4, 2) := by decide +kernel
theorem dX11_inNights_82 : decode cX11_inNights 82 = .ok (.iinc 5 1, 3) := by decide +kernel
theorem dX11_inNights_85 : decode cX11_inNights 85 = .ok (.goto (-42), 3) := by decide +kernel
theorem dX11_inNights_88 : decode cX11_inNights 88 = .ok (.iload 4, 2) := by decide +kernel
theorem dX11_inNights_90 : decode cX11_inNights 90 = .ok (.ireturn, 1) := by decide +kernel
set_option maxRecDepth 20000 in
theorem ggX11_notes_X10_hasPillow : GoodIn wsX11_notes wsX10_hasPillow := goodIn_r _ [10, 11, 32, 33, 34, 35, 36] (by decide +kernel) (by decide +kernel)
set_option maxRecDepth 20000 in
theorem gX11_notes_X10_hasPillow : GoodIn wsX11_notes (wsV RX11 129 RX10 yX10_hasPillow wsX10_hasPillow) := goodIn_app (goodIn_of _ (by decide +kernel)) ggX11_notes_X10_hasPillow
set_option maxRecDepth 20000 in
theorem ggX11_notes_X11_isThing : GoodIn wsX11_notes wsX11_isThing := goodIn_r _ [15] (by decide +kernel) (by decide +kernel)
set_option maxRecDepth 20000 in
theorem gX11_notes_X11_isThing : GoodIn wsX11_notes (va_wsS RX11 123 yX11_isThing wsX11_isThing) := goodIn_app (goodIn_of _ (by decide +kernel)) ggX11_notes_X11_isThing
set_option maxRecDepth 20000 in
theorem ggX11_notes_X11_isZeroOrOne : GoodIn wsX11_notes wsX11_isZeroOrOne := goodIn_r _ [18] (by decide +kernel) (by decide +kernel)
set_option maxRecDepth 20000 in
theorem gX11_notes_X11_isZeroOrOne : GoodIn wsX11_notes (va_wsS RX11 201 yX11_isZeroOrOne wsX11_isZeroOrOne) := goodIn_app (goodIn_of _ (by decide +kernel)) ggX11_notes_X11_isZeroOrOne
theorem dX11_notes_0 : decode cX11_notes 0 = .ok (.aload_n 0, 1) := by decide +kernel
theorem dX11_notes_1 : decode cX11_notes 1 = .ok (.getfield 75, 3) := by decide +kernel
theorem dX11_notes_4 : decode cX11_notes 4 = .ok (.iload_n 1, 1) := by decide +kernel
theorem dX11_notes_5 : decode cX11_notes 5 = .ok (.invokevirtual 129, 3) := by decide +kernel
theorem dX11_notes_8 : decode cX11_notes 8 = .ok (.ifCond .eq 17, 3) := by decide +kernel
theorem dX11_notes_11 : decode cX11_notes 11 = .ok (.iload_n 2, 1) := by decide +kernel
theorem dX11_notes_12 : decode cX11_notes 12 = .ok (.invokestatic 123, 3) := by decide +kernel
theorem dX11_notes_15 : decode cX11_notes 15 = .ok (.ifCond .eq 10, 3) := by decide +kernel
theorem dX11_notes_18 : decode cX11_notes 18 = .ok (.iload_n 3, 1) := by decide +kernel
theorem dX11_notes_19 : decode cX11_notes 19 = .ok (.invokestatic 201, 3) := by decide +kernel
theorem dX11_notes_22 : decode cX11_notes 22 = .ok (.ifCond .ne 5, 3) := by decide +kernel
theorem dX11_notes_25 : decode cX11_notes 25 = .ok (.iconst (-1), 1) := by decide +kernel
theorem dX11_notes_26 : decode cX11_notes 26 = .ok (.ireturn, 1) := by decide +kernel
theorem dX11_notes_27 : decode cX11_notes 27 = .ok (.aload_n 0, 1) := by decide +kernel
theorem dX11_notes_28 : decode cX11_notes 28 = .ok (.getfield 104, 3) := by decide +kernel
theorem dX11_notes_31 : decode cX11_notes 31 = .ok (.iconst 5, 1) := by decide +kernel
theorem dX11_notes_32 : decode cX11_notes 32 = .ok (.if_icmp .lt 6, 3) := by decide +kernel
theorem dX11_notes_35 : decode cX11_notes 35 = .ok (.bipush (-3), 2) := by decide +kernel
theorem dX11_notes_37 : decode cX11_notes 37 = .ok (.ireturn, 1) := by decide +kernel
theorem dX11_notes_38 : decode cX11_notes 38 = .ok (.aload_n 0, 1) := by decide +kernel
theorem dX11_notes_39 : decode cX11_notes 39 = .ok (.getfield 59, 3) := by decide +kernel
theorem dX11_notes_42 : decode cX11_notes 42 = .ok (.aload_n 0, 1) := by decide +kernel
theorem dX11_notes_43 : decode cX11_notes 43 = .ok (.getfield 104, 3) := by decide +kernel
theorem dX11_notes_46 : decode cX11_notes 46 = .ok (.iload_n 1, 1) := by decide +kernel
theorem dX11_notes_47 : decode cX11_notes 47 = .ok (.iastore, 1) := by decide +kernel
theorem dX11_notes_48 : decode cX11_notes 48 = .ok (.aload_n 0, 1) := by decide +kernel
theorem dX11_notes_49 : decode cX11_notes 49 = .ok (.getfield 63, 3) := by decide +kernel
theorem dX11_notes_52 : decode cX11_notes 52 = .ok (.aload_n 0, 1) := by decide +kernel
theorem dX11_notes_53 : decode cX11_notes 53 = .ok (.getfield 104, 3) := by decide +kernel
theorem dX11_notes_56 : decode cX11_notes 56 = .ok (.iload_n 2, 1) := by decide +kernel
theorem dX11_notes_57 : decode cX11_notes 57 = .ok (.iastore, 1) := by decide +kernel
theorem dX11_notes_58 : decode cX11_notes 58 = .ok (.aload_n 0, 1) := by decide +kernel
theorem dX11_notes_59 : decode cX11_notes 59 = .ok (.getfield 66, 3) := by decide +kernel
theorem dX11_notes_62 : decode cX11_notes 62 = .ok (.aload_n 0, 1) := by decide +kernel
theorem dX11_notes_63 : decode cX11_notes 63 = .ok (.getfield 104, 3) := by decide +kernel
theorem dX11_notes_66 : decode cX11_notes 66 = .ok (.iload_n 3, 1) := by decide +kernel
theorem dX11_notes_67 : decode cX11_notes 67 = .ok (.iastore, 1) := by decide +kernel
theorem dX11_notes_68 : decode cX11_notes 68 = .ok (.aload_n 0, 1) := by decide +kernel
theorem dX11_notes_69 : decode cX11_notes 69 = .ok (.dup, 1) := by decide +kernel
theorem dX11_notes_70 : decode cX11_notes 70 = .ok (.getfield 104, 3) := by decide +kernel
theorem dX11_notes_73 : decode cX11_notes 73 = .ok (.iconst 1, 1) := by decide +kernel
theorem dX11_notes_74 : decode cX11_notes 74 = .ok (.iadd, 1) := by decide +kernel
theorem dX11_notes_75 : decode cX11_notes 75 = .ok (.putfield 104, 3) := by decide +kernel
theorem dX11_notes_78 : decode cX11_notes 78 = .ok (.aload_n 0, 1) := by decide +kernel
theorem dX11_notes_79 : decode cX11_notes 79 = .ok (.getfield 104, 3) := by decide +kernel
theorem dX11_notes_82 : decode cX11_notes 82 = .ok (.ireturn, 1) := by decide +kernel
theorem dX11_forget_0 : decode cX11_forget 0 = .ok (.aload_n 0, 1) := by decide +kernel
theorem dX11_forget_1 : decode cX11_forget 1 = .ok (.getfield 104, 3) := by decide +kernel
theorem dX11_forget_4 : decode cX11_forget 4 = .ok (.istore_n 1, 1) := by decide +kernel
theorem dX11_forget_5 : decode cX11_forget 5 = .ok (.aload_n 0, 1) := by decide +kernel
theorem dX11_forget_6 : decode cX11_forget 6 = .ok (.iconst 0, 1) := by decide +kernel
theorem dX11_forget_7 : decode cX11_forget 7 = .ok (.putfield 104, 3) := by decide +kernel
theorem dX11_forget_10 : decode cX11_forget 10 = .ok (.iload_n 1, 1) := by decide +kernel
theorem dX11_forget_11 : decode cX11_forget 11 = .ok (.ireturn, 1) := by decide +kernel
set_option maxRecDepth 20000 in
theorem ggX11_which_X11_isZeroOrOne : GoodIn wsX11_which wsX11_isZeroOrOne := goodIn_r _ [5] (by decide +kernel) (by decide +kernel)
set_option maxRecDepth 20000 in
theorem gX11_which_X11_isZeroOrOne : GoodIn wsX11_which (va_wsS RX11 201 yX11_isZeroOrOne wsX11_isZeroOrOne) := goodIn_app (goodIn_of _ (by decide +kernel)) ggX11_which_X11_isZeroOrOne
set_option maxRecDepth 20000 in
theorem ggX11_which_X8_nightNumber : GoodIn wsX11_which wsX8_nightNumber := goodIn_r _ [10, 11, 70] (by decide +kernel) (by decide +kernel)
set_option maxRecDepth 20000 in
theorem gX11_which_X8_nightNumber : GoodIn wsX11_which (wsV RX11 145 RX8 yX8_nightNumber wsX8_nightNumber) := goodIn_app (goodIn_of _ (by decide +kernel)) ggX11_which_X8_nightNumber
set_option maxRecDepth 20000 in
theorem ggX11_which_X11_listen : GoodIn wsX11_which wsX11_listen := goodIn_r _ [15, 16, 17, 18, 1, 19, 20, 21, 22, 23, 24, 25, 9, 26, 11, 27, 28, 29, 30, 31, 32, 33, 34, 35, 36, 37, 38, 39, 40, 41, 42, 43, 44, 45, 46, 47, 48, 57, 58, 59, 60, 61, 62, 63, 64, 65, 66, 67, 68, 69, 71, 72, 73, 74, 75, 70] (by decide +kernel) (by decide +kernel)
set_option maxRecDepth 20000 in
theorem gX11_which_X11_listen : GoodIn wsX11_which (wsV RX11 232 RX11 yX11_listen wsX11_listen) := goodIn_app (goodIn_of _ (by decide +kernel)) ggX11_which_X11_listen
set_option maxRecDepth 20000 in
theorem ggX11_which_X11_agreesWithNotes : GoodIn wsX11_which wsX11_agreesWithNotes := goodIn_r _ [52, 53, 54, 16, 55, 56, 57, 58, 59, 60, 61, 62, 63, 64, 65, 66, 67, 68, 69] (by decide +kernel) (by decide +kernel)
set_option maxRecDepth 20000 in
theorem gX11_which_X11_agreesWithNotes : GoodIn wsX11_which (wsV RX11 235 RX11 yX11_agreesWithNotes wsX11_agreesWithNotes) := goodIn_app (goodIn_of _ (by decide +kernel)) ggX11_which_X11_agreesWithNotes
theorem dX11_which_0 : decode cX11_which 0 = .ok (.iload_n 1, 1) := by decide +kernel
theorem dX11_which_1 : decode cX11_which 1 = .ok (.invokestatic 201, 3) := by decide +kernel
theorem dX11_which_4 : decode cX11_which 4 = .ok (.ifCond .ne 5, 3) := by decide +kernel
theorem dX11_which_7 : decode cX11_which 7 = .ok (.iconst (-1), 1) := by decide +kernel
theorem dX11_which_8 : decode cX11_which 8 = .ok (.ireturn, 1) := by decide +kernel
theorem dX11_which_9 : decode cX11_which 9 = .ok (.iconst 0, 1) := by decide +kernel
theorem dX11_which_10 : decode cX11_which 10 = .ok (.istore_n 2, 1) := by decide +kernel
theorem dX11_which_11 : decode cX11_which 11 = .ok (.bipush (-9), 2) := by decide +kernel
theorem dX11_which_13 : decode cX11_which 13 = .ok (.istore_n 3, 1) := by decide +kernel
theorem dX11_which_14 : decode cX11_which 14 = .ok (.iconst 0, 1) := by decide +kernel
theorem dX11_which_15 : decode cX11_which 15 = .ok (.istore 4, 2) := by decide +kernel
theorem dX11_which_17 : decode cX11_which 17 = .ok (.iload 4, 2) := by decide +kernel
theorem dX11_which_19 : decode cX11_which 19 = .ok (.sipush 500, 3) := by decide +kernel
theorem dX11_which_22 : decode cX11_which 22 = .ok (.if_icmp .ge 45, 3) := by decide +kernel
theorem dX11_which_25 : decode cX11_which 25 = .ok (.aload_n 0, 1) := by decide +kernel
theorem dX11_which_26 : decode cX11_which 26 = .ok (.iload 4, 2) := by decide +kernel
theorem dX11_which_28 : decode cX11_which 28 = .ok (.aload_n 0, 1) := by decide +kernel
theorem dX11_which_29 : decode cX11_which 29 = .ok (.getfield 19, 3) := by decide +kernel
theorem dX11_which_32 : decode cX11_which 32 = .ok (.invokevirtual 145, 3) := by decide +kernel
theorem dX11_which_35 : decode cX11_which 35 = .ok (.invokevirtual 232, 3) := by decide +kernel
theorem dX11_which_38 : decode cX11_which 38 = .ok (.aload_n 0, 1) := by decide +kernel
theorem dX11_which_39 : decode cX11_which 39 = .ok (.invokevirtual 235, 3) := by decide +kernel
theorem dX11_which_42 : decode cX11_which 42 = .ok (.ifCond .eq 19, 3) := by decide +kernel
theorem dX11_which_45 : decode cX11_which 45 = .ok (.iinc 2 1, 3) := by decide +kernel
theorem dX11_which_48 : decode cX11_which 48 = .ok (.iload_n 3, 1) := by decide +kernel
theorem dX11_which_49 : decode cX11_which 49 = .ok (.bipush (-9), 2) := by decide +kernel
theorem dX11_which_51 : decode cX11_which 51 = .ok (.if_icmp .ne 8, 3) := by decide +kernel
theorem dX11_which_54 : decode cX11_which 54 = .ok (.iload 4, 2) := by decide +kernel
theorem dX11_which_56 : decode cX11_which 56 = .ok (.goto 4, 3) := by decide +kernel
theorem dX11_which_59 : decode cX11_which 59 = .ok (.iload_n 3, 1) := by decide +kernel
theorem dX11_which_60 : decode cX11_which 60 = .ok (.istore_n 3, 1) := by decide +kernel
theorem dX11_which_61 : decode cX11_which 61 = .ok (.iinc 4 1, 3) := by decide +kernel
theorem dX11_which_64 : decode cX11_which 64 = .ok (.goto (-47), 3) := by decide +kernel
theorem dX11_which_67 : decode cX11_which 67 = .ok (.iload_n 1, 1) := by decide +kernel
theorem dX11_which_68 : decode cX11_which 68 = .ok (.ifCond .ne 7, 3) := by decide +kernel
theorem dX11_which_71 : decode cX11_which 71 = .ok (.iload_n 2, 1) := by decide +kernel
theorem dX11_which_72 : decode cX11_which 72 = .ok (.goto 4, 3) := by decide +kernel
theorem dX11_which_75 : decode cX11_which 75 = .ok (.iload_n 3, 1) := by decide +kernel
theorem dX11_which_76 : decode cX11_which 76 = .ok (.ireturn, 1) := by decide +kernel
set_option maxRecDepth 20000 in
theorem ggX11_odds_X10_hasPerson : GoodIn wsX11_odds wsX10_hasPerson := goodIn_r _ [9, 10, 44, 45, 46, 47, 48] (by decide +kernel) (by decide +kernel)
set_option maxRecDepth 20000 in
theorem gX11_odds_X10_hasPerson : GoodIn wsX11_odds (wsV RX11 107 RX10 yX10_hasPerson wsX10_hasPerson) := goodIn_app (goodIn_of _ (by decide +kernel)) ggX11_odds_X10_hasPerson
set_option maxRecDepth 20000 in
theorem ggX11_odds_X11_isThing : GoodIn wsX11_odds wsX11_isThing := goodIn_r _ [14] (by decide +kernel) (by decide +kernel)
set_option maxRecDepth 20000 in
theorem gX11_odds_X11_isThing : GoodIn wsX11_odds (va_wsS RX11 123 yX11_isThing wsX11_isThing) := goodIn_app (goodIn_of _ (by decide +kernel)) ggX11_odds_X11_isThing
set_option maxRecDepth 20000 in
theorem ggX11_odds_X11_isZeroOrOne : GoodIn wsX11_odds wsX11_isZeroOrOne := goodIn_r _ [17] (by decide +kernel) (by decide +kernel)
set_option maxRecDepth 20000 in
theorem gX11_odds_X11_isZeroOrOne : GoodIn wsX11_odds (va_wsS RX11 201 yX11_isZeroOrOne wsX11_isZeroOrOne) := goodIn_app (goodIn_of _ (by decide +kernel)) ggX11_odds_X11_isZeroOrOne
set_option maxRecDepth 20000 in
theorem ggX11_odds_J6_bitCount_0f7a4 : GoodIn wsX11_odds wsJ6_bitCount_0f7a4 := goodIn_r _ [21, 22, 23, 24] (by decide +kernel) (by decide +kernel)
set_option maxRecDepth 20000 in
theorem gX11_odds_J6_bitCount_0f7a4 : GoodIn wsX11_odds (va_wsS RX11 182 yJ6_bitCount_0f7a4 wsJ6_bitCount_0f7a4) := goodIn_app (goodIn_of _ (by decide +kernel)) ggX11_odds_J6_bitCount_0f7a4
set_option maxRecDepth 20000 in
theorem ggX11_odds_X11_commonDivisor : GoodIn wsX11_odds wsX11_commonDivisor := goodIn_r _ [27] (by decide +kernel) (by decide +kernel)
set_option maxRecDepth 20000 in
theorem gX11_odds_X11_commonDivisor : GoodIn wsX11_odds (va_wsS RX11 241 yX11_commonDivisor wsX11_commonDivisor) := goodIn_app (goodIn_of _ (by decide +kernel)) ggX11_odds_X11_commonDivisor
set_option maxRecDepth 20000 in
theorem ggX11_odds_X11_power : GoodIn wsX11_odds wsX11_power := goodIn_r _ [30] (by decide +kernel) (by decide +kernel)
set_option maxRecDepth 20000 in
theorem gX11_odds_X11_power : GoodIn wsX11_odds (va_wsS RX11 244 yX11_power wsX11_power) := goodIn_app (goodIn_of _ (by decide +kernel)) ggX11_odds_X11_power
theorem dX11_odds_0 : decode cX11_odds 0 = .ok (.aload_n 0, 1) := by decide +kernel
theorem dX11_odds_1 : decode cX11_odds 1 = .ok (.getfield 75, 3) := by decide +kernel
theorem dX11_odds_4 : decode cX11_odds 4 = .ok (.iload_n 1, 1) := by decide +kernel
theorem dX11_odds_5 : decode cX11_odds 5 = .ok (.invokevirtual 107, 3) := by decide +kernel
theorem dX11_odds_8 : decode cX11_odds 8 = .ok (.ifCond .eq 27, 3) := by decide +kernel
theorem dX11_odds_11 : decode cX11_odds 11 = .ok (.iload_n 2, 1) := by decide +kernel
theorem dX11_odds_12 : decode cX11_odds 12 = .ok (.invokestatic 123, 3) := by decide +kernel
theorem dX11_odds_15 : decode cX11_odds 15 = .ok (.ifCond .eq 20, 3) := by decide +kernel
theorem dX11_odds_18 : decode cX11_odds 18 = .ok (.iload_n 3, 1) := by decide +kernel
theorem dX11_odds_19 : decode cX11_odds 19 = .ok (.ifCond .lt 16, 3) := by decide +kernel
theorem dX11_odds_22 : decode cX11_odds 22 = .ok (.iload_n 3, 1) := by decide +kernel
theorem dX11_odds_23 : decode cX11_odds 23 = .ok (.iconst 5, 1) := by decide +kernel
theorem dX11_odds_24 : decode cX11_odds 24 = .ok (.if_icmp .gt 11, 3) := by decide +kernel
theorem dX11_odds_27 : decode cX11_odds 27 = .ok (.iload 4, 2) := by decide +kernel
theorem dX11_odds_29 : decode cX11_odds 29 = .ok (.invokestatic 201, 3) := by decide +kernel
theorem dX11_odds_32 : decode cX11_odds 32 = .ok (.ifCond .ne 7, 3) := by decide +kernel
theorem dX11_odds_35 : decode cX11_odds 35 = .ok (.ldc2_w 239, 3) := by decide +kernel
theorem dX11_odds_38 : decode cX11_odds 38 = .ok (.lreturn, 1) := by decide +kernel
theorem dX11_odds_39 : decode cX11_odds 39 = .ok (.bipush 10, 2) := by decide +kernel
theorem dX11_odds_41 : decode cX11_odds 41 = .ok (.aload_n 0, 1) := by decide +kernel
theorem dX11_odds_42 : decode cX11_odds 42 = .ok (.getfield 75, 3) := by decide +kernel
theorem dX11_odds_45 : decode cX11_odds 45 = .ok (.getfield 110, 3) := by decide +kernel
theorem dX11_odds_48 : decode cX11_odds 48 = .ok (.iload_n 1, 1) := by decide +kernel
theorem dX11_odds_49 : decode cX11_odds 49 = .ok (.iaload, 1) := by decide +kernel
theorem dX11_odds_50 : decode cX11_odds 50 = .ok (.invokestatic 182, 3) := by decide +kernel
theorem dX11_odds_53 : decode cX11_odds 53 = .ok (.imul, 1) := by decide +kernel
theorem dX11_odds_54 : decode cX11_odds 54 = .ok (.istore 5, 2) := by decide +kernel
theorem dX11_odds_56 : decode cX11_odds 56 = .ok (.aload_n 0, 1) := by decide +kernel
theorem dX11_odds_57 : decode cX11_odds 57 = .ok (.getfield 75, 3) := by decide +kernel
theorem dX11_odds_60 : decode cX11_odds 60 = .ok (.getfield 110, 3) := by decide +kernel
theorem dX11_odds_63 : decode cX11_odds 63 = .ok (.iload_n 1, 1) := by decide +kernel
theorem dX11_odds_64 : decode cX11_odds 64 = .ok (.iaload, 1) := by decide +kernel
theorem dX11_odds_65 : decode cX11_odds 65 = .ok (.iload_n 2, 1) := by decide +kernel
theorem dX11_odds_66 : decode cX11_odds 66 = .ok (.ishr, 1) := by decide +kernel
theorem dX11_odds_67 : decode cX11_odds 67 = .ok (.iconst 1, 1) := by decide +kernel
theorem dX11_odds_68 : decode cX11_odds 68 = .ok (.iand, 1) := by decide +kernel
theorem dX11_odds_69 : decode cX11_odds 69 = .ok (.ifCond .eq 8, 3) := by decide +kernel
theorem dX11_odds_72 : decode cX11_odds 72 = .ok (.iload 5, 2) := by decide +kernel
theorem dX11_odds_74 : decode cX11_odds 74 = .ok (.ifCond .ne 7, 3) := by decide +kernel
theorem dX11_odds_77 : decode cX11_odds 77 = .ok (.iload 4, 2) := by decide +kernel
theorem dX11_odds_79 : decode cX11_odds 79 = .ok (.i2l, 1) := by decide +kernel
theorem dX11_odds_80 : decode cX11_odds 80 = .ok (.lreturn, 1) := by decide +kernel
theorem dX11_odds_81 : decode cX11_odds 81 = .ok (.iload 5, 2) := by decide +kernel
theorem dX11_odds_83 : decode cX11_odds 83 = .ok (.aload_n 0, 1) := by decide +kernel
theorem dX11_odds_84 : decode cX11_odds 84 = .ok (.getfield 75, 3) := by decide +kernel
theorem dX11_odds_87 : decode cX11_odds 87 = .ok (.getfield 113, 3) := by decide +kernel
theorem dX11_odds_90 : decode cX11_odds 90 = .ok (.iload_n 1, 1) := by decide +kernel
theorem dX11_odds_91 : decode cX11_odds 91 = .ok (.iaload, 1) := by decide +kernel
theorem dX11_odds_92 : decode cX11_odds 92 = .ok (.isub, 1) := by decide +kernel
theorem dX11_odds_93 : decode cX11_odds 93 = .ok (.istore 6, 2) := by decide +kernel
theorem dX11_odds_95 : decode cX11_odds 95 = .ok (.iload 5, 2) := by decide +kernel
theorem dX11_odds_97 : decode cX11_odds 97 = .ok (.iload 6, 2) := by decide +kernel
theorem dX11_odds_99 : decode cX11_odds 99 = .ok (.invokestatic 241, 3) := by decide +kernel
theorem dX11_odds_102 : decode cX11_odds 102 = .ok (.istore 7, 2) := by decide +kernel
theorem dX11_odds_104 : decode cX11_odds 104 = .ok (.iload 5, 2) := by decide +kernel
theorem dX11_odds_106 : decode cX11_odds 106 = .ok (.iload 7, 2) := by decide +kernel
theorem dX11_odds_108 : decode cX11_odds 108 = .ok (.idiv, 1) := by decide +kernel
theorem dX11_odds_109 : decode cX11_odds 109 = .ok (.iload_n 3, 1) := by decide +kernel
theorem dX11_odds_110 : decode cX11_odds 110 = .ok (.invokestatic 244, 3) := by decide +kernel
theorem dX11_odds_113 : decode cX11_odds 113 = .ok (.lstore 8, 2) := by decide +kernel
theorem dX11_odds_115 : decode cX11_odds 115 = .ok (.iload 4, 2) := by decide +kernel
theorem dX11_odds_117 : decode cX11_odds 117 = .ok (.ifCond .ne 18, 3) := by decide +kernel
theorem dX11_odds_120 : decode cX11_odds 120 = .ok (.lload 8, 2) := by decide +kernel
theorem dX11_odds_122 : decode cX11_odds 122 = .ok (.iload 6, 2) := by decide +kernel
theorem dX11_odds_124 : decode cX11_odds 124 = .ok (.iload 7, 2) := by decide +kernel
theorem dX11_odds_126 : decode cX11_odds 126 = .ok (.idiv, 1) := by decide +kernel
theorem dX11_odds_127 : decode cX11_odds 127 = .ok (.iload_n 3, 1) := by decide +kernel
theorem dX11_odds_128 : decode cX11_odds 128 = .ok (.invokestatic 244, 3) := by decide +kernel
theorem dX11_odds_131 : decode cX11_odds 131 = .ok (.lsub, 1) := by decide +kernel
theorem dX11_odds_132 : decode cX11_odds 132 = .ok (.goto 5, 3) := by decide +kernel
theorem dX11_odds_135 : decode cX11_odds 135 = .ok (.lload 8, 2) := by decide +kernel
theorem dX11_odds_137 : decode cX11_odds 137 = .ok (.lreturn, 1) := by decide +kernel
set_option maxRecDepth 20000 in
theorem ggX11_rate_X10_hasPillow : GoodIn wsX11_rate wsX10_hasPillow := goodIn_r _ [11, 12, 122, 123, 124, 125, 126] (by decide +kernel) (by decide +kernel)
set_option maxRecDepth 20000 in
theorem gX11_rate_X10_hasPillow : GoodIn wsX11_rate (wsV RX11 129 RX10 yX10_hasPillow wsX10_hasPillow) := goodIn_app (goodIn_of _ (by decide +kernel)) ggX11_rate_X10_hasPillow
set_option maxRecDepth 20000 in
theorem ggX11_rate_X1_rating : GoodIn wsX11_rate wsX1_rating := goodIn_r _ [19, 20, 21, 22, 23, 14, 24, 25, 26, 27, 28, 29, 30, 31, 32, 33, 34, 35, 36, 37, 38, 39, 40, 41, 42, 43, 44, 45, 46, 47, 48, 49, 116, 117, 118, 119, 120, 121, 127] (by decide +kernel) (by decide +kernel)
set_option maxRecDepth 20000 in
theorem gX11_rate_X1_rating_u253X1 : GoodIn wsX11_rate (va_wsO RX11 253 RX1 "PillowCourt$KindPillow" ⟨"PillowCourt$KindPillow", "rating", "(LPillowCourt$Scene;I)I"⟩ yX1_rating wsX1_rating) := goodIn_app (goodIn_of _ (by decide +kernel)) ggX11_rate_X1_rating
set_option maxRecDepth 20000 in
theorem ggX11_rate_X2_rating : GoodIn wsX11_rate wsX2_rating := goodIn_r _ [53, 54, 55, 56, 57, 14, 58, 25, 26, 27, 28, 29, 30, 31, 32, 33, 34, 35, 36, 37, 38, 39, 40, 41, 42, 43, 44, 45, 59, 60, 61, 62, 63, 64, 65, 66, 67, 116, 117, 118, 119, 120, 121, 127] (by decide +kernel) (by decide +kernel)
set_option maxRecDepth 20000 in
theorem gX11_rate_X2_rating_u253X2 : GoodIn wsX11_rate (va_wsO RX11 253 RX2 "PillowCourt$KindPillow" ⟨"PillowCourt$KindPillow", "rating", "(LPillowCourt$Scene;I)I"⟩ yX2_rating wsX2_rating) := goodIn_app (goodIn_of _ (by decide +kernel)) ggX11_rate_X2_rating
set_option maxRecDepth 20000 in
theorem ggX11_rate_X3_rating : GoodIn wsX11_rate wsX3_rating := goodIn_r _ [71, 72, 73, 74, 75, 14, 76, 25, 26, 27, 28, 29, 30, 31, 32, 33, 34, 35, 36, 37, 38, 39, 40, 41, 42, 43, 44, 45, 77, 78, 79, 80, 116, 117, 118, 119, 120, 121, 127] (by decide +kernel) (by decide +kernel)
set_option maxRecDepth 20000 in
theorem gX11_rate_X3_rating_u253X3 : GoodIn wsX11_rate (va_wsO RX11 253 RX3 "PillowCourt$KindPillow" ⟨"PillowCourt$KindPillow", "rating", "(LPillowCourt$Scene;I)I"⟩ yX3_rating wsX3_rating) := goodIn_app (goodIn_of _ (by decide +kernel)) ggX11_rate_X3_rating
set_option maxRecDepth 20000 in
theorem ggX11_rate_X4_rating : GoodIn wsX11_rate wsX4_rating := goodIn_r _ [84, 85, 86, 87, 88, 89, 90, 69, 70, 71, 72, 73, 74, 75, 14, 76, 25, 26, 27, 28, 29, 30, 31, 32, 33, 34, 35, 36, 37, 38, 39, 40, 41, 42, 43, 44, 45, 77, 78, 79, 80, 116, 117, 118, 119, 120, 121, 127] (by decide +kernel) (by decide +kernel)
set_option maxRecDepth 20000 in
theorem gX11_rate_X4_rating_u253X4 : GoodIn wsX11_rate (va_wsO RX11 253 RX4 "PillowCourt$KindPillow" ⟨"PillowCourt$KindPillow", "rating", "(LPillowCourt$Scene;I)I"⟩ yX4_rating wsX4_rating) := goodIn_app (goodIn_of _ (by decide +kernel)) ggX11_rate_X4_rating
set_option maxRecDepth 20000 in
theorem ggX11_rate_X5_rating : GoodIn wsX11_rate wsX5_rating := goodIn_r _ [94, 95, 96, 97, 98, 99, 100, 51, 52, 53, 54, 55, 56, 57, 14, 58, 25, 26, 27, 28, 29, 30, 31, 32, 33, 34, 35, 36, 37, 38, 39, 40, 41, 42, 43, 44, 45, 59, 60, 61, 62, 63, 64, 65, 66, 67, 116, 117, 118, 119, 120, 121, 127] (by decide +kernel) (by decide +kernel)
set_option maxRecDepth 20000 in
theorem gX11_rate_X5_rating_u253X5 : GoodIn wsX11_rate (va_wsO RX11 253 RX5 "PillowCourt$KindPillow" ⟨"PillowCourt$KindPillow", "rating", "(LPillowCourt$Scene;I)I"⟩ yX5_rating wsX5_rating) := goodIn_app (goodIn_of _ (by decide +kernel)) ggX11_rate_X5_rating
set_option maxRecDepth 20000 in
theorem ggX11_rate_X6_rating : GoodIn wsX11_rate wsX6_rating := goodIn_r _ [27, 28, 29, 30, 31, 32, 33, 34, 35, 36, 37, 38, 39, 40, 41, 42, 43, 44, 45, 116, 117, 118, 119, 120, 121, 127] (by decide +kernel) (by decide +kernel)
set_option maxRecDepth 20000 in
theorem gX11_rate_X6_rating : GoodIn wsX11_rate (wsV RX11 253 RX6 yX6_rating wsX6_rating) := goodIn_app (goodIn_of _ (by decide +kernel)) ggX11_rate_X6_rating
