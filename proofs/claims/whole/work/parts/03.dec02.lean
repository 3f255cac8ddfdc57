theorem dX10_addClash_0 : decode cX10_addClash 0 = .ok (.aload_n 0, 1) := by decide +kernel
theorem dX10_addClash_1 : decode cX10_addClash 1 = .ok (.getfield 18, 3) := by decide +kernel
theorem dX10_addClash_4 : decode cX10_addClash 4 = .ok (.iload_n 1, 1) := by decide +kernel
theorem dX10_addClash_5 : decode cX10_addClash 5 = .ok (.dup2, 1) := by decide +kernel
theorem dX10_addClash_6 : decode cX10_addClash 6 = .ok (.iaload, 1) := by decide +kernel
theorem dX10_addClash_7 : decode cX10_addClash 7 = .ok (.iconst 1, 1) := by decide +kernel
theorem dX10_addClash_8 : decode cX10_addClash 8 = .ok (.iload_n 2, 1) := by decide +kernel
theorem dX10_addClash_9 : decode cX10_addClash 9 = .ok (.ishl, 1) := by decide +kernel
theorem dX10_addClash_10 : decode cX10_addClash 10 = .ok (.ior, 1) := by decide +kernel
theorem dX10_addClash_11 : decode cX10_addClash 11 = .ok (.iastore, 1) := by decide +kernel
theorem dX10_addClash_12 : decode cX10_addClash 12 = .ok (.aload_n 0, 1) := by decide +kernel
theorem dX10_addClash_13 : decode cX10_addClash 13 = .ok (.getfield 18, 3) := by decide +kernel
theorem dX10_addClash_16 : decode cX10_addClash 16 = .ok (.iload_n 2, 1) := by decide +kernel
theorem dX10_addClash_17 : decode cX10_addClash 17 = .ok (.dup2, 1) := by decide +kernel
theorem dX10_addClash_18 : decode cX10_addClash 18 = .ok (.iaload, 1) := by decide +kernel
theorem dX10_addClash_19 : decode cX10_addClash 19 = .ok (.iconst 1, 1) := by decide +kernel
theorem dX10_addClash_20 : decode cX10_addClash 20 = .ok (.iload_n 1, 1) := by decide +kernel
theorem dX10_addClash_21 : decode cX10_addClash 21 = .ok (.ishl, 1) := by decide +kernel
theorem dX10_addClash_22 : decode cX10_addClash 22 = .ok (.ior, 1) := by decide +kernel
theorem dX10_addClash_23 : decode cX10_addClash 23 = .ok (.iastore, 1) := by decide +kernel
theorem dX10_addClash_24 : decode cX10_addClash 24 = .ok (.return_, 1) := by decide +kernel
theorem dX10_knownTo_0 : decode cX10_knownTo 0 = .ok (.iconst 0, 1) := by decide +kernel
theorem dX10_knownTo_1 : decode cX10_knownTo 1 = .ok (.istore_n 2, 1) := by decide +kernel
theorem dX10_knownTo_2 : decode cX10_knownTo 2 = .ok (.iconst 0, 1) := by decide +kernel
theorem dX10_knownTo_3 : decode cX10_knownTo 3 = .ok (.istore_n 3, 1) := by decide +kernel
theorem dX10_knownTo_4 : decode cX10_knownTo 4 = .ok (.iload_n 3, 1) := by decide +kernel
theorem dX10_knownTo_5 : decode cX10_knownTo 5 = .ok (.aload_n 0, 1) := by decide +kernel
theorem dX10_knownTo_6 : decode cX10_knownTo 6 = .ok (.getfield 31, 3) := by decide +kernel
theorem dX10_knownTo_9 : decode cX10_knownTo 9 = .ok (.if_icmp .ge 26, 3) := by decide +kernel
theorem dX10_knownTo_12 : decode cX10_knownTo 12 = .ok (.iload_n 1, 1) := by decide +kernel
theorem dX10_knownTo_13 : decode cX10_knownTo 13 = .ok (.iload_n 3, 1) := by decide +kernel
theorem dX10_knownTo_14 : decode cX10_knownTo 14 = .ok (.ishr, 1) := by decide +kernel
theorem dX10_knownTo_15 : decode cX10_knownTo 15 = .ok (.iconst 1, 1) := by decide +kernel
theorem dX10_knownTo_16 : decode cX10_knownTo 16 = .ok (.iand, 1) := by decide +kernel
theorem dX10_knownTo_17 : decode cX10_knownTo 17 = .ok (.ifCond .eq 12, 3) := by decide +kernel
theorem dX10_knownTo_20 : decode cX10_knownTo 20 = .ok (.iload_n 2, 1) := by decide +kernel
theorem dX10_knownTo_21 : decode cX10_knownTo 21 = .ok (.aload_n 0, 1) := by decide +kernel
theorem dX10_knownTo_22 : decode cX10_knownTo 22 = .ok (.getfield 9, 3) := by decide +kernel
theorem dX10_knownTo_25 : decode cX10_knownTo 25 = .ok (.iload_n 3, 1) := by decide +kernel
theorem dX10_knownTo_26 : decode cX10_knownTo 26 = .ok (.iaload, 1) := by decide +kernel
theorem dX10_knownTo_27 : decode cX10_knownTo 27 = .ok (.ior, 1) := by decide +kernel
theorem dX10_knownTo_28 : decode cX10_knownTo 28 = .ok (.istore_n 2, 1) := by decide +kernel
theorem dX10_knownTo_29 : decode cX10_knownTo 29 = .ok (.iinc 3 1, 3) := by decide +kernel
theorem dX10_knownTo_32 : decode cX10_knownTo 32 = .ok (.goto (-28), 3) := by decide +kernel
theorem dX10_knownTo_35 : decode cX10_knownTo 35 = .ok (.iload_n 2, 1) := by decide +kernel
theorem dX10_knownTo_36 : decode cX10_knownTo 36 = .ok (.ireturn, 1) := by decide +kernel
theorem dX10_knownToOne_0 : decode cX10_knownToOne 0 = .ok (.iconst 0, 1) := by decide +kernel
theorem dX10_knownToOne_1 : decode cX10_knownToOne 1 = .ok (.istore_n 1, 1) := by decide +kernel
theorem dX10_knownToOne_2 : decode cX10_knownToOne 2 = .ok (.iconst 0, 1) := by decide +kernel
theorem dX10_knownToOne_3 : decode cX10_knownToOne 3 = .ok (.istore_n 2, 1) := by decide +kernel
theorem dX10_knownToOne_4 : decode cX10_knownToOne 4 = .ok (.iconst 0, 1) := by decide +kernel
theorem dX10_knownToOne_5 : decode cX10_knownToOne 5 = .ok (.istore_n 3, 1) := by decide +kernel
theorem dX10_knownToOne_6 : decode cX10_knownToOne 6 = .ok (.iload_n 3, 1) := by decide +kernel
theorem dX10_knownToOne_7 : decode cX10_knownToOne 7 = .ok (.aload_n 0, 1) := by decide +kernel
theorem dX10_knownToOne_8 : decode cX10_knownToOne 8 = .ok (.getfield 31, 3) := by decide +kernel
theorem dX10_knownToOne_11 : decode cX10_knownToOne 11 = .ok (.if_icmp .ge 29, 3) := by decide +kernel
theorem dX10_knownToOne_14 : decode cX10_knownToOne 14 = .ok (.iload_n 2, 1) := by decide +kernel
theorem dX10_knownToOne_15 : decode cX10_knownToOne 15 = .ok (.iload_n 1, 1) := by decide +kernel
theorem dX10_knownToOne_16 : decode cX10_knownToOne 16 = .ok (.aload_n 0, 1) := by decide +kernel
theorem dX10_knownToOne_17 : decode cX10_knownToOne 17 = .ok (.getfield 9, 3) := by decide +kernel
theorem dX10_knownToOne_20 : decode cX10_knownToOne 20 = .ok (.iload_n 3, 1) := by decide +kernel
theorem dX10_knownToOne_21 : decode cX10_knownToOne 21 = .ok (.iaload, 1) := by decide +kernel
theorem dX10_knownToOne_22 : decode cX10_knownToOne 22 = .ok (.iand, 1) := by decide +kernel
theorem dX10_knownToOne_23 : decode cX10_knownToOne 23 = .ok (.ior, 1) := by decide +kernel
theorem dX10_knownToOne_24 : decode cX10_knownToOne 24 = .ok (.istore_n 2, 1) := by decide +kernel
theorem dX10_knownToOne_25 : decode cX10_knownToOne 25 = .ok (.iload_n 1, 1) := by decide +kernel
theorem dX10_knownToOne_26 : decode cX10_knownToOne 26 = .ok (.aload_n 0, 1) := by decide +kernel
theorem dX10_knownToOne_27 : decode cX10_knownToOne 27 = .ok (.getfield 9, 3) := by decide +kernel
theorem dX10_knownToOne_30 : decode cX10_knownToOne 30 = .ok (.iload_n 3, 1) := by decide +kernel
theorem dX10_knownToOne_31 : decode cX10_knownToOne 31 = .ok (.iaload, 1) := by decide +kernel
theorem dX10_knownToOne_32 : decode cX10_knownToOne 32 = .ok (.ior, 1) := by decide +kernel
theorem dX10_knownToOne_33 : decode cX10_knownToOne 33 = .ok (.istore_n 1, 1) := by decide +kernel
theorem dX10_knownToOne_34 : decode cX10_knownToOne 34 = .ok (.iinc 3 1, 3) := by decide +kernel
theorem dX10_knownToOne_37 : decode cX10_knownToOne 37 = .ok (.goto (-31), 3) := by decide +kernel
theorem dX10_knownToOne_40 : decode cX10_knownToOne 40 = .ok (.iload_n 1, 1) := by decide +kernel
theorem dX10_knownToOne_41 : decode cX10_knownToOne 41 = .ok (.iload_n 2, 1) := by decide +kernel
theorem dX10_knownToOne_42 : decode cX10_knownToOne 42 = .ok (.iconst (-1), 1) := by decide +kernel
theorem dX10_knownToOne_43 : decode cX10_knownToOne 43 = .ok (.ixor, 1) := by decide +kernel
theorem dX10_knownToOne_44 : decode cX10_knownToOne 44 = .ok (.iand, 1) := by decide +kernel
theorem dX10_knownToOne_45 : decode cX10_knownToOne 45 = .ok (.ireturn, 1) := by decide +kernel
set_option maxRecDepth 20000 in
theorem ggX10_clashesWithin_J6_bitCount_0f7a4 : GoodIn wsX10_clashesWithin wsJ6_bitCount_0f7a4 := goodIn_r _ [5, 6, 7, 8] (by decide +kernel) (by decide +kernel)
set_option maxRecDepth 20000 in
theorem gX10_clashesWithin_J6_bitCount_0f7a4 : GoodIn wsX10_clashesWithin (va_wsS RX10 34 yJ6_bitCount_0f7a4 wsJ6_bitCount_0f7a4) := goodIn_app (goodIn_of _ (by decide +kernel)) ggX10_clashesWithin_J6_bitCount_0f7a4
theorem dX10_clashesWithin_0 : decode cX10_clashesWithin 0 = .ok (.iconst 0, 1) := by decide +kernel
theorem dX10_clashesWithin_1 : decode cX10_clashesWithin 1 = .ok (.istore_n 2, 1) := by decide +kernel
theorem dX10_clashesWithin_2 : decode cX10_clashesWithin 2 = .ok (.iconst 0, 1) := by decide +kernel
theorem dX10_clashesWithin_3 : decode cX10_clashesWithin 3 = .ok (.istore_n 3, 1) := by decide +kernel
theorem dX10_clashesWithin_4 : decode cX10_clashesWithin 4 = .ok (.iload_n 3, 1) := by decide +kernel
theorem dX10_clashesWithin_5 : decode cX10_clashesWithin 5 = .ok (.bipush 7, 2) := by decide +kernel
theorem dX10_clashesWithin_7 : decode cX10_clashesWithin 7 = .ok (.if_icmp .ge 31, 3) := by decide +kernel
theorem dX10_clashesWithin_10 : decode cX10_clashesWithin 10 = .ok (.iload_n 1, 1) := by decide +kernel
theorem dX10_clashesWithin_11 : decode cX10_clashesWithin 11 = .ok (.iload_n 3, 1) := by decide +kernel
theorem dX10_clashesWithin_12 : decode cX10_clashesWithin 12 = .ok (.ishr, 1) := by decide +kernel
theorem dX10_clashesWithin_13 : decode cX10_clashesWithin 13 = .ok (.iconst 1, 1) := by decide +kernel
theorem dX10_clashesWithin_14 : decode cX10_clashesWithin 14 = .ok (.iand, 1) := by decide +kernel
theorem dX10_clashesWithin_15 : decode cX10_clashesWithin 15 = .ok (.ifCond .eq 17, 3) := by decide +kernel
theorem dX10_clashesWithin_18 : decode cX10_clashesWithin 18 = .ok (.iload_n 2, 1) := by decide +kernel
theorem dX10_clashesWithin_19 : decode cX10_clashesWithin 19 = .ok (.aload_n 0, 1) := by decide +kernel
theorem dX10_clashesWithin_20 : decode cX10_clashesWithin 20 = .ok (.getfield 18, 3) := by decide +kernel
theorem dX10_clashesWithin_23 : decode cX10_clashesWithin 23 = .ok (.iload_n 3, 1) := by decide +kernel
theorem dX10_clashesWithin_24 : decode cX10_clashesWithin 24 = .ok (.iaload, 1) := by decide +kernel
theorem dX10_clashesWithin_25 : decode cX10_clashesWithin 25 = .ok (.iload_n 1, 1) := by decide +kernel
theorem dX10_clashesWithin_26 : decode cX10_clashesWithin 26 = .ok (.iand, 1) := by decide +kernel
theorem dX10_clashesWithin_27 : decode cX10_clashesWithin 27 = .ok (.invokestatic 34, 3) := by decide +kernel
theorem dX10_clashesWithin_30 : decode cX10_clashesWithin 30 = .ok (.iadd, 1) := by decide +kernel
theorem dX10_clashesWithin_31 : decode cX10_clashesWithin 31 = .ok (.istore_n 2, 1) := by decide +kernel
theorem dX10_clashesWithin_32 : decode cX10_clashesWithin 32 = .ok (.iinc 3 1, 3) := by decide +kernel
theorem dX10_clashesWithin_35 : decode cX10_clashesWithin 35 = .ok (.goto (-31), 3) := by decide +kernel
theorem dX10_clashesWithin_38 : decode cX10_clashesWithin 38 = .ok (.iload_n 2, 1) := by decide +kernel
theorem dX10_clashesWithin_39 : decode cX10_clashesWithin 39 = .ok (.iconst 2, 1) := by decide +kernel
theorem dX10_clashesWithin_40 : decode cX10_clashesWithin 40 = .ok (.idiv, 1) := by decide +kernel
theorem dX10_clashesWithin_41 : decode cX10_clashesWithin 41 = .ok (.ireturn, 1) := by decide +kernel
set_option maxRecDepth 20000 in
theorem ggX10_thingSaid_J6_bitCount_0f7a4 : GoodIn wsX10_thingSaid wsJ6_bitCount_0f7a4 := goodIn_r _ [11, 12, 13, 14] (by decide +kernel) (by decide +kernel)
set_option maxRecDepth 20000 in
theorem gX10_thingSaid_J6_bitCount_0f7a4 : GoodIn wsX10_thingSaid (va_wsS RX10 34 yJ6_bitCount_0f7a4 wsJ6_bitCount_0f7a4) := goodIn_app (goodIn_of _ (by decide +kernel)) ggX10_thingSaid_J6_bitCount_0f7a4
set_option maxRecDepth 20000 in
theorem ggX10_thingSaid_X10_thingAt : GoodIn wsX10_thingSaid wsX10_thingAt := goodIn_r _ [18] (by decide +kernel) (by decide +kernel)
set_option maxRecDepth 20000 in
theorem gX10_thingSaid_X10_thingAt : GoodIn wsX10_thingSaid (va_wsS RX10 50 yX10_thingAt wsX10_thingAt) := goodIn_app (goodIn_of _ (by decide +kernel)) ggX10_thingSaid_X10_thingAt
theorem dX10_thingSaid_0 : decode cX10_thingSaid 0 = .ok (.aload_n 0, 1) := by decide +kernel
theorem dX10_thingSaid_1 : decode cX10_thingSaid 1 = .ok (.getfield 9, 3) := by decide +kernel
theorem dX10_thingSaid_4 : decode cX10_thingSaid 4 = .ok (.iload_n 1, 1) := by decide +kernel
theorem dX10_thingSaid_5 : decode cX10_thingSaid 5 = .ok (.iaload, 1) := by decide +kernel
theorem dX10_thingSaid_6 : decode cX10_thingSaid 6 = .ok (.invokestatic 34, 3) := by decide +kernel
theorem dX10_thingSaid_9 : decode cX10_thingSaid 9 = .ok (.istore 4, 2) := by decide +kernel
theorem dX10_thingSaid_11 : decode cX10_thingSaid 11 = .ok (.ldc2_w 40, 3) := by decide +kernel
theorem dX10_thingSaid_14 : decode cX10_thingSaid 14 = .ok (.iload_n 2, 1) := by decide +kernel
theorem dX10_thingSaid_15 : decode cX10_thingSaid 15 = .ok (.i2l, 1) := by decide +kernel
theorem dX10_thingSaid_16 : decode cX10_thingSaid 16 = .ok (.lmul, 1) := by decide +kernel
theorem dX10_thingSaid_17 : decode cX10_thingSaid 17 = .ok (.ldc2_w 42, 3) := by decide +kernel
theorem dX10_thingSaid_20 : decode cX10_thingSaid 20 = .ok (.iload_n 1, 1) := by decide +kernel
theorem dX10_thingSaid_21 : decode cX10_thingSaid 21 = .ok (.i2l, 1) := by decide +kernel
theorem dX10_thingSaid_22 : decode cX10_thingSaid 22 = .ok (.lmul, 1) := by decide +kernel
theorem dX10_thingSaid_23 : decode cX10_thingSaid 23 = .ok (.ladd, 1) := by decide +kernel
theorem dX10_thingSaid_24 : decode cX10_thingSaid 24 = .ok (.ldc2_w 44, 3) := by decide +kernel
theorem dX10_thingSaid_27 : decode cX10_thingSaid 27 = .ok (.iload_n 3, 1) := by decide +kernel
theorem dX10_thingSaid_28 : decode cX10_thingSaid 28 = .ok (.i2l, 1) := by decide +kernel
theorem dX10_thingSaid_29 : decode cX10_thingSaid 29 = .ok (.lmul, 1) := by decide +kernel
theorem dX10_thingSaid_30 : decode cX10_thingSaid 30 = .ok (.ladd, 1) := by decide +kernel
theorem dX10_thingSaid_31 : decode cX10_thingSaid 31 = .ok (.lconst 1, 1) := by decide +kernel
theorem dX10_thingSaid_32 : decode cX10_thingSaid 32 = .ok (.ladd, 1) := by decide +kernel
theorem dX10_thingSaid_33 : decode cX10_thingSaid 33 = .ok (.lstore 5, 2) := by decide +kernel
theorem dX10_thingSaid_35 : decode cX10_thingSaid 35 = .ok (.lload 5, 2) := by decide +kernel
theorem dX10_thingSaid_37 : decode cX10_thingSaid 37 = .ok (.lload 5, 2) := by decide +kernel
theorem dX10_thingSaid_39 : decode cX10_thingSaid 39 = .ok (.lmul, 1) := by decide +kernel
theorem dX10_thingSaid_40 : decode cX10_thingSaid 40 = .ok (.ldc2_w 46, 3) := by decide +kernel
theorem dX10_thingSaid_43 : decode cX10_thingSaid 43 = .ok (.lrem, 1) := by decide +kernel
theorem dX10_thingSaid_44 : decode cX10_thingSaid 44 = .ok (.ldc2_w 48, 3) := by decide +kernel
theorem dX10_thingSaid_47 : decode cX10_thingSaid 47 = .ok (.ldiv, 1) := by decide +kernel
theorem dX10_thingSaid_48 : decode cX10_thingSaid 48 = .ok (.l2i, 1) := by decide +kernel
theorem dX10_thingSaid_49 : decode cX10_thingSaid 49 = .ok (.istore 7, 2) := by decide +kernel
theorem dX10_thingSaid_51 : decode cX10_thingSaid 51 = .ok (.iload 4, 2) := by decide +kernel
theorem dX10_thingSaid_53 : decode cX10_thingSaid 53 = .ok (.ifCond .eq 17, 3) := by decide +kernel
theorem dX10_thingSaid_56 : decode cX10_thingSaid 56 = .ok (.iload 7, 2) := by decide +kernel
theorem dX10_thingSaid_58 : decode cX10_thingSaid 58 = .ok (.bipush 10, 2) := by decide +kernel
theorem dX10_thingSaid_60 : decode cX10_thingSaid 60 = .ok (.irem, 1) := by decide +kernel
theorem dX10_thingSaid_61 : decode cX10_thingSaid 61 = .ok (.aload_n 0, 1) := by decide +kernel
theorem dX10_thingSaid_62 : decode cX10_thingSaid 62 = .ok (.getfield 15, 3) := by decide +kernel
theorem dX10_thingSaid_65 : decode cX10_thingSaid 65 = .ok (.iload_n 1, 1) := by decide +kernel
theorem dX10_thingSaid_66 : decode cX10_thingSaid 66 = .ok (.iaload, 1) := by decide +kernel
theorem dX10_thingSaid_67 : decode cX10_thingSaid 67 = .ok (.if_icmp .lt 6, 3) := by decide +kernel
theorem dX10_thingSaid_70 : decode cX10_thingSaid 70 = .ok (.bipush (-9), 2) := by decide +kernel
theorem dX10_thingSaid_72 : decode cX10_thingSaid 72 = .ok (.ireturn, 1) := by decide +kernel
theorem dX10_thingSaid_73 : decode cX10_thingSaid 73 = .ok (.aload_n 0, 1) := by decide +kernel
theorem dX10_thingSaid_74 : decode cX10_thingSaid 74 = .ok (.getfield 9, 3) := by decide +kernel
theorem dX10_thingSaid_77 : decode cX10_thingSaid 77 = .ok (.iload_n 1, 1) := by decide +kernel
theorem dX10_thingSaid_78 : decode cX10_thingSaid 78 = .ok (.iaload, 1) := by decide +kernel
theorem dX10_thingSaid_79 : decode cX10_thingSaid 79 = .ok (.iload 7, 2) := by decide +kernel
theorem dX10_thingSaid_81 : decode cX10_thingSaid 81 = .ok (.bipush 10, 2) := by decide +kernel
theorem dX10_thingSaid_83 : decode cX10_thingSaid 83 = .ok (.idiv, 1) := by decide +kernel
theorem dX10_thingSaid_84 : decode cX10_thingSaid 84 = .ok (.iload 4, 2) := by decide +kernel
theorem dX10_thingSaid_86 : decode cX10_thingSaid 86 = .ok (.irem, 1) := by decide +kernel
theorem dX10_thingSaid_87 : decode cX10_thingSaid 87 = .ok (.invokestatic 50, 3) := by decide +kernel
theorem dX10_thingSaid_90 : decode cX10_thingSaid 90 = .ok (.ireturn, 1) := by decide +kernel
theorem dX10_thingAt_0 : decode cX10_thingAt 0 = .ok (.iconst 0, 1) := by decide +kernel
theorem dX10_thingAt_1 : decode cX10_thingAt 1 = .ok (.istore_n 2, 1) := by decide +kernel
theorem dX10_thingAt_2 : decode cX10_thingAt 2 = .ok (.iconst 0, 1) := by decide +kernel
theorem dX10_thingAt_3 : decode cX10_thingAt 3 = .ok (.istore_n 3, 1) := by decide +kernel
theorem dX10_thingAt_4 : decode cX10_thingAt 4 = .ok (.iload_n 3, 1) := by decide +kernel
theorem dX10_thingAt_5 : decode cX10_thingAt 5 = .ok (.bipush 7, 2) := by decide +kernel
theorem dX10_thingAt_7 : decode cX10_thingAt 7 = .ok (.if_icmp .ge 27, 3) := by decide +kernel
theorem dX10_thingAt_10 : decode cX10_thingAt 10 = .ok (.iload_n 0, 1) := by decide +kernel
theorem dX10_thingAt_11 : decode cX10_thingAt 11 = .ok (.iload_n 3, 1) := by decide +kernel
theorem dX10_thingAt_12 : decode cX10_thingAt 12 = .ok (.ishr, 1) := by decide +kernel
theorem dX10_thingAt_13 : decode cX10_thingAt 13 = .ok (.iconst 1, 1) := by decide +kernel
theorem dX10_thingAt_14 : decode cX10_thingAt 14 = .ok (.iand, 1) := by decide +kernel
theorem dX10_thingAt_15 : decode cX10_thingAt 15 = .ok (.ifCond .eq 13, 3) := by decide +kernel
theorem dX10_thingAt_18 : decode cX10_thingAt 18 = .ok (.iload_n 2, 1) := by decide +kernel
theorem dX10_thingAt_19 : decode cX10_thingAt 19 = .ok (.iload_n 1, 1) := by decide +kernel
theorem dX10_thingAt_20 : decode cX10_thingAt 20 = .ok (.if_icmp .ne 5, 3) := by decide +kernel
theorem dX10_thingAt_23 : decode cX10_thingAt 23 = .ok (.iload_n 3, 1) := by decide +kernel
theorem dX10_thingAt_24 : decode cX10_thingAt 24 = .ok (.ireturn, 1) := by decide +kernel
theorem dX10_thingAt_25 : decode cX10_thingAt 25 = .ok (.iinc 2 1, 3) := by decide +kernel
theorem dX10_thingAt_28 : decode cX10_thingAt 28 = .ok (.iinc 3 1, 3) := by decide +kernel
theorem dX10_thingAt_31 : decode cX10_thingAt 31 = .ok (.goto (-27), 3) := by decide +kernel
theorem dX10_thingAt_34 : decode cX10_thingAt 34 = .ok (.bipush (-9), 2) := by decide +kernel
theorem dX10_thingAt_36 : decode cX10_thingAt 36 = .ok (.ireturn, 1) := by decide +kernel
set_option maxRecDepth 20000 in
theorem ggX11_init_X7_init : GoodIn wsX11_init wsX7_init := goodIn_r _ [50, 51, 2, 3, 39, 52, 110, 111, 112, 113, 114, 115] (by decide +kernel) (by decide +kernel)
set_option maxRecDepth 20000 in
theorem gX11_init_X7_init_n11 : GoodIn wsX11_init (wsX7_init) := ggX11_init_X7_init
set_option maxRecDepth 20000 in
theorem ggX11_init_X8_init : GoodIn wsX11_init wsX8_init := goodIn_r _ [54, 55, 2, 3, 39, 56, 129] (by decide +kernel) (by decide +kernel)
set_option maxRecDepth 20000 in
theorem gX11_init_X8_init_n18 : GoodIn wsX11_init (wsX8_init) := ggX11_init_X8_init
set_option maxRecDepth 20000 in
theorem ggX11_init_X9_init : GoodIn wsX11_init wsX9_init := goodIn_r _ [58, 59, 2, 3, 39, 60, 61, 62, 63, 130, 131, 132, 133, 134] (by decide +kernel) (by decide +kernel)
set_option maxRecDepth 20000 in
theorem gX11_init_X9_init_n25 : GoodIn wsX11_init (wsX9_init) := ggX11_init_X9_init
set_option maxRecDepth 20000 in
theorem ggX11_init_X0_init : GoodIn wsX11_init wsX0_init := goodIn_r _ [65, 66, 2, 3, 39, 67, 68, 135, 136] (by decide +kernel) (by decide +kernel)
set_option maxRecDepth 20000 in
theorem gX11_init_X0_init_n32 : GoodIn wsX11_init (wsX0_init) := ggX11_init_X0_init
set_option maxRecDepth 20000 in
theorem ggX11_init_X6_init : GoodIn wsX11_init wsX6_init := goodIn_r _ [70, 71, 2, 3] (by decide +kernel) (by decide +kernel)
set_option maxRecDepth 20000 in
theorem gX11_init_X6_init_n39 : GoodIn wsX11_init (wsX6_init) := ggX11_init_X6_init
set_option maxRecDepth 20000 in
theorem ggX11_init_X3_init : GoodIn wsX11_init wsX3_init := goodIn_r _ [73, 69, 22, 70, 71, 2, 3] (by decide +kernel) (by decide +kernel)
set_option maxRecDepth 20000 in
theorem gX11_init_X3_init_n42 : GoodIn wsX11_init (wsX3_init) := ggX11_init_X3_init
set_option maxRecDepth 20000 in
theorem ggX11_init_X2_init : GoodIn wsX11_init wsX2_init := goodIn_r _ [75, 69, 22, 70, 71, 2, 3] (by decide +kernel) (by decide +kernel)
set_option maxRecDepth 20000 in
theorem gX11_init_X2_init_n45 : GoodIn wsX11_init (wsX2_init) := ggX11_init_X2_init
set_option maxRecDepth 20000 in
theorem ggX11_init_X4_init : GoodIn wsX11_init wsX4_init := goodIn_r _ [77, 72, 25, 73, 69, 22, 70, 71, 2, 3] (by decide +kernel) (by decide +kernel)
set_option maxRecDepth 20000 in
theorem gX11_init_X4_init_n48 : GoodIn wsX11_init (wsX4_init) := ggX11_init_X4_init
set_option maxRecDepth 20000 in
theorem ggX11_init_X5_init : GoodIn wsX11_init wsX5_init := goodIn_r _ [79, 74, 28, 75, 69, 22, 70, 71, 2, 3] (by decide +kernel) (by decide +kernel)
set_option maxRecDepth 20000 in
theorem gX11_init_X5_init_n51 : GoodIn wsX11_init (wsX5_init) := ggX11_init_X5_init
set_option maxRecDepth 20000 in
theorem ggX11_init_X1_init : GoodIn wsX11_init wsX1_init := goodIn_r _ [81, 69, 22, 70, 71, 2, 3] (by decide +kernel) (by decide +kernel)
set_option maxRecDepth 20000 in
theorem gX11_init_X1_init_n54 : GoodIn wsX11_init (wsX1_init) := ggX11_init_X1_init
set_option maxRecDepth 20000 in
theorem ggX11_init_X10_init : GoodIn wsX11_init wsX10_init := goodIn_r _ [83, 84, 2, 3, 39, 85, 86, 87, 88, 143, 144, 145, 146, 147] (by decide +kernel) (by decide +kernel)
set_option maxRecDepth 20000 in
theorem gX11_init_X10_init_n74 : GoodIn wsX11_init (wsX10_init) := ggX11_init_X10_init
set_option maxRecDepth 20000 in
theorem ggX11_init_X8_begin : GoodIn wsX11_init wsX8_begin := goodIn_r _ [92, 56, 93, 94, 95, 96, 97, 98, 99, 46, 100, 101, 102, 103, 104, 105, 88, 106, 107, 108, 10, 109, 129, 143, 144, 145, 146, 147] (by decide +kernel) (by decide +kernel)
set_option maxRecDepth 20000 in
theorem gX11_init_X8_begin : GoodIn wsX11_init (wsV RX11 82 RX8 yX8_begin wsX8_begin) := goodIn_app (goodIn_of _ (by decide +kernel)) ggX11_init_X8_begin
theorem dX11_init_0 : decode cX11_init 0 = .ok (.aload_n 0, 1) := by decide +kernel
theorem dX11_init_1 : decode cX11_init 1 = .ok (.invokespecial 3, 3) := by decide +kernel
theorem dX11_init_4 : decode cX11_init 4 = .ok (.aload_n 0, 1) := by decide +kernel
theorem dX11_init_5 : decode cX11_init 5 = .ok (.new 9, 3) := by decide +kernel
theorem dX11_init_8 : decode cX11_init 8 = .ok (.dup, 1) := by decide +kernel
theorem dX11_init_9 : decode cX11_init 9 = .ok (.invokespecial 11, 3) := by decide +kernel
theorem dX11_init_12 : decode cX11_init 12 = .ok (.putfield 12, 3) := by decide +kernel
theorem dX11_init_15 : decode cX11_init 15 = .ok (.aload_n 0, 1) := by decide +kernel
theorem dX11_init_16 : decode cX11_init 16 = .ok (.new 16, 3) := by decide +kernel
theorem dX11_init_19 : decode cX11_init 19 = .ok (.dup, 1) := by decide +kernel
theorem dX11_init_20 : decode cX11_init 20 = .ok (.invokespecial 18, 3) := by decide +kernel
theorem dX11_init_23 : decode cX11_init 23 = .ok (.putfield 19, 3) := by decide +kernel
theorem dX11_init_26 : decode cX11_init 26 = .ok (.aload_n 0, 1) := by decide +kernel
theorem dX11_init_27 : decode cX11_init 27 = .ok (.new 23, 3) := by decide +kernel
theorem dX11_init_30 : decode cX11_init 30 = .ok (.dup, 1) := by decide +kernel
theorem dX11_init_31 : decode cX11_init 31 = .ok (.invokespecial 25, 3) := by decide +kernel
theorem dX11_init_34 : decode cX11_init 34 = .ok (.putfield 26, 3) := by decide +kernel
theorem dX11_init_37 : decode cX11_init 37 = .ok (.aload_n 0, 1) := by decide +kernel
theorem dX11_init_38 : decode cX11_init 38 = .ok (.new 30, 3) := by decide +kernel
theorem dX11_init_41 : decode cX11_init 41 = .ok (.dup, 1) := by decide +kernel
theorem dX11_init_42 : decode cX11_init 42 = .ok (.invokespecial 32, 3) := by decide +kernel
theorem dX11_init_45 : decode cX11_init 45 = .ok (.putfield 33, 3) := by decide +kernel
theorem dX11_init_48 : decode cX11_init 48 = .ok (.aload_n 0, 1) := by decide +kernel
theorem dX11_init_49 : decode cX11_init 49 = .ok (.bipush 6, 2) := by decide +kernel
theorem dX11_init_51 : decode cX11_init 51 = .ok (.anewarray 37, 3) := by decide +kernel
theorem dX11_init_54 : decode cX11_init 54 = .ok (.dup, 1) := by decide +kernel
theorem dX11_init_55 : decode cX11_init 55 = .ok (.iconst 0, 1) := by decide +kernel
theorem dX11_init_56 : decode cX11_init 56 = .ok (.new 37, 3) := by decide +kernel
theorem dX11_init_59 : decode cX11_init 59 = .ok (.dup, 1) := by decide +kernel
theorem dX11_init_60 : decode cX11_init 60 = .ok (.invokespecial 39, 3) := by decide +kernel
theorem dX11_init_63 : decode cX11_init 63 = .ok (.aastore, 1) := by decide +kernel
theorem dX11_init_64 : decode cX11_init 64 = .ok (.dup, 1) := by decide +kernel
theorem dX11_init_65 : decode cX11_init 65 = .ok (.iconst 1, 1) := by decide +kernel
theorem dX11_init_66 : decode cX11_init 66 = .ok (.new 40, 3) := by decide +kernel
theorem dX11_init_69 : decode cX11_init 69 = .ok (.dup, 1) := by decide +kernel
theorem dX11_init_70 : decode cX11_init 70 = .ok (.invokespecial 42, 3) := by decide +kernel
theorem dX11_init_73 : decode cX11_init 73 = .ok (.aastore, 1) := by decide +kernel
theorem dX11_init_74 : decode cX11_init 74 = .ok (.dup, 1) := by decide +kernel
theorem dX11_init_75 : decode cX11_init 75 = .ok (.iconst 2, 1) := by decide +kernel
theorem dX11_init_76 : decode cX11_init 76 = .ok (.new 43, 3) := by decide +kernel
theorem dX11_init_79 : decode cX11_init 79 = .ok (.dup, 1) := by decide +kernel
theorem dX11_init_80 : decode cX11_init 80 = .ok (.invokespecial 45, 3) := by decide +kernel
theorem dX11_init_83 : decode cX11_init 83 = .ok (.aastore, 1) := by decide +kernel
theorem dX11_init_84 : decode cX11_init 84 = .ok (.dup, 1) := by decide +kernel
theorem dX11_init_85 : decode cX11_init 85 = .ok (.iconst 3, 1) := by decide +kernel
theorem dX11_init_86 : decode cX11_init 86 = .ok (.new 46, 3) := by decide +kernel
theorem dX11_init_89 : decode cX11_init 89 = .ok (.dup, 1) := by decide +kernel
theorem dX11_init_90 : decode cX11_init 90 = .ok (.invokespecial 48, 3) := by decide +kernel
theorem dX11_init_93 : decode cX11_init 93 = .ok (.aastore, 1) := by decide +kernel
theorem dX11_init_94 : decode cX11_init 94 = .ok (.dup, 1) := by decide +kernel
theorem dX11_init_95 : decode cX11_init 95 = .ok (.iconst 4, 1) := by decide +kernel
theorem dX11_init_96 : decode cX11_init 96 = .ok (.new 49, 3) := by decide +kernel
theorem dX11_init_99 : decode cX11_init 99 = .ok (.dup, 1) := by decide +kernel
theorem dX11_init_100 : decode cX11_init 100 = .ok (.invokespecial 51, 3) := by decide +kernel
theorem dX11_init_103 : decode cX11_init 103 = .ok (.aastore, 1) := by decide +kernel
theorem dX11_init_104 : decode cX11_init 104 = .ok (.dup, 1) := by decide +kernel
theorem dX11_init_105 : decode cX11_init 105 = .ok (.iconst 5, 1) := by decide +kernel
theorem dX11_init_106 : decode cX11_init 106 = .ok (.new 52, 3) := by decide +kernel
theorem dX11_init_109 : decode cX11_init 109 = .ok (.dup, 1) := by decide +kernel
theorem dX11_init_110 : decode cX11_init 110 = .ok (.invokespecial 54, 3) := by decide +kernel
theorem dX11_init_113 : decode cX11_init 113 = .ok (.aastore, 1) := by decide +kernel
theorem dX11_init_114 : decode cX11_init 114 = .ok (.putfield 55, 3) := by decide +kernel
theorem dX11_init_117 : decode cX11_init 117 = .ok (.aload_n 0, 1) := by decide +kernel
theorem dX11_init_118 : decode cX11_init 118 = .ok (.iconst 5, 1) := by decide +kernel
theorem dX11_init_119 : decode cX11_init 119 = .ok (.newarray .int, 2) := by decide +kernel
theorem dX11_init_121 : decode cX11_init 121 = .ok (.putfield 59, 3) := by decide +kernel
theorem dX11_init_124 : decode cX11_init 124 = .ok (.aload_n 0, 1) := by decide +kernel
theorem dX11_init_125 : decode cX11_init 125 = .ok (.iconst 5, 1) := by decide +kernel
theorem dX11_init_126 : decode cX11_init 126 = .ok (.newarray .int, 2) := by decide +kernel
theorem dX11_init_128 : decode cX11_init 128 = .ok (.putfield 63, 3) := by decide +kernel
theorem dX11_init_131 : decode cX11_init 131 = .ok (.aload_n 0, 1) := by decide +kernel
theorem dX11_init_132 : decode cX11_init 132 = .ok (.iconst 5, 1) := by decide +kernel
theorem dX11_init_133 : decode cX11_init 133 = .ok (.newarray .int, 2) := by decide +kernel
theorem dX11_init_135 : decode cX11_init 135 = .ok (.putfield 66, 3) := by decide +kernel
theorem dX11_init_138 : decode cX11_init 138 = .ok (.aload_n 0, 1) := by decide +kernel
theorem dX11_init_139 : decode cX11_init 139 = .ok (.bipush 6, 2) := by decide +kernel
theorem dX11_init_141 : decode cX11_init 141 = .ok (.newarray .int, 2) := by decide +kernel
theorem dX11_init_143 : decode cX11_init 143 = .ok (.putfield 69, 3) := by decide +kernel
theorem dX11_init_146 : decode cX11_init 146 = .ok (.aload_n 0, 1) := by decide +kernel
theorem dX11_init_147 : decode cX11_init 147 = .ok (.new 72, 3) := by decide +kernel
theorem dX11_init_150 : decode cX11_init 150 = .ok (.dup, 1) := by decide +kernel
theorem dX11_init_151 : decode cX11_init 151 = .ok (.invokespecial 74, 3) := by decide +kernel
theorem dX11_init_154 : decode cX11_init 154 = .ok (.putfield 75, 3) := by decide +kernel
theorem dX11_init_157 : decode cX11_init 157 = .ok (.aload_n 0, 1) := by decide +kernel
theorem dX11_init_158 : decode cX11_init 158 = .ok (.new 72, 3) := by decide +kernel
theorem dX11_init_161 : decode cX11_init 161 = .ok (.dup, 1) := by decide +kernel
theorem dX11_init_162 : decode cX11_init 162 = .ok (.invokespecial 74, 3) := by decide +kernel
theorem dX11_init_165 : decode cX11_init 165 = .ok (.putfield 79, 3) := by decide +kernel
theorem dX11_init_168 : decode cX11_init 168 = .ok (.aload_n 0, 1) := by decide +kernel
theorem dX11_init_169 : decode cX11_init 169 = .ok (.getfield 19, 3) := by decide +kernel
theorem dX11_init_172 : decode cX11_init 172 = .ok (.aload_n 0, 1) := by decide +kernel
theorem dX11_init_173 : decode cX11_init 173 = .ok (.getfield 75, 3) := by decide +kernel
theorem dX11_init_176 : decode cX11_init 176 = .ok (.invokevirtual 82, 3) := by decide +kernel
theorem dX11_init_179 : decode cX11_init 179 = .ok (.return_, 1) := by decide +kernel
set_option maxRecDepth 20000 in
theorem ggX11_type_X7_append : GoodIn wsX11_type wsX7_append := goodIn_r _ [7, 8, 9, 23, 24, 25, 26, 27, 28] (by decide +kernel) (by decide +kernel)
set_option maxRecDepth 20000 in
theorem gX11_type_X7_append : GoodIn wsX11_type (wsV RX11 86 RX7 yX7_append wsX7_append) := goodIn_app (goodIn_of _ (by decide +kernel)) ggX11_type_X7_append
theorem dX11_type_0 : decode cX11_type 0 = .ok (.iload_n 1, 1) := by decide +kernel
theorem dX11_type_1 : decode cX11_type 1 = .ok (.ifCond .lt 10, 3) := by decide +kernel
theorem dX11_type_4 : decode cX11_type 4 = .ok (.iload_n 1, 1) := by decide +kernel
theorem dX11_type_5 : decode cX11_type 5 = .ok (.sipush 255, 3) := by decide +kernel
theorem dX11_type_8 : decode cX11_type 8 = .ok (.if_icmp .le 5, 3) := by decide +kernel
theorem dX11_type_11 : decode cX11_type 11 = .ok (.iconst (-1), 1) := by decide +kernel
theorem dX11_type_12 : decode cX11_type 12 = .ok (.ireturn, 1) := by decide +kernel
theorem dX11_type_13 : decode cX11_type 13 = .ok (.aload_n 0, 1) := by decide +kernel
theorem dX11_type_14 : decode cX11_type 14 = .ok (.getfield 12, 3) := by decide +kernel
theorem dX11_type_17 : decode cX11_type 17 = .ok (.iload_n 1, 1) := by decide +kernel
theorem dX11_type_18 : decode cX11_type 18 = .ok (.invokevirtual 86, 3) := by decide +kernel
theorem dX11_type_21 : decode cX11_type 21 = .ok (.ifCond .eq 13, 3) := by decide +kernel
theorem dX11_type_24 : decode cX11_type 24 = .ok (.aload_n 0, 1) := by decide +kernel
theorem dX11_type_25 : decode cX11_type 25 = .ok (.getfield 12, 3) := by decide +kernel
theorem dX11_type_28 : decode cX11_type 28 = .ok (.getfield 90, 3) := by decide +kernel
theorem dX11_type_31 : decode cX11_type 31 = .ok (.goto 5, 3) := by decide +kernel
theorem dX11_type_34 : decode cX11_type 34 = .ok (.bipush (-3), 2) := by decide +kernel
theorem dX11_type_36 : decode cX11_type 36 = .ok (.ireturn, 1) := by decide +kernel
set_option maxRecDepth 20000 in
theorem ggX11_clear_X7_empty : GoodIn wsX11_clear wsX7_empty := goodIn_r _ [6, 7, 21, 22, 23, 24, 25, 26] (by decide +kernel) (by decide +kernel)
set_option maxRecDepth 20000 in
theorem gX11_clear_X7_empty : GoodIn wsX11_clear (wsV RX11 94 RX7 yX7_empty wsX7_empty) := goodIn_app (goodIn_of _ (by decide +kernel)) ggX11_clear_X7_empty
theorem dX11_clear_0 : decode cX11_clear 0 = .ok (.aload_n 0, 1) := by decide +kernel
theorem dX11_clear_1 : decode cX11_clear 1 = .ok (.getfield 12, 3) := by decide +kernel
theorem dX11_clear_4 : decode cX11_clear 4 = .ok (.invokevirtual 94, 3) := by decide +kernel
theorem dX11_clear_7 : decode cX11_clear 7 = .ok (.ireturn, 1) := by decide +kernel
set_option maxRecDepth 20000 in
theorem ggX11_court_X7_read : GoodIn wsX11_court wsX7_read := goodIn_r _ [11, 12, 13, 14, 15, 16, 17, 18, 19, 20, 21, 22, 23, 24, 25, 26, 27, 28, 29, 10, 30, 31, 32, 33, 34, 35, 36, 37, 38, 39, 40, 41, 42, 43, 44, 45, 46, 47, 48, 49, 50, 51, 52, 53, 54, 55, 56, 57, 58, 59, 60, 61, 62, 63, 64, 65, 66, 67, 68, 69, 70, 71, 72, 73, 74, 75, 76, 77, 78, 79, 123, 124, 125, 126, 127, 128, 129, 130, 131, 132, 133] (by decide +kernel) (by decide +kernel)
set_option maxRecDepth 20000 in
theorem gX11_court_X7_read : GoodIn wsX11_court (wsV RX11 98 RX7 yX7_read wsX7_read) := goodIn_app (goodIn_of _ (by decide +kernel)) ggX11_court_X7_read
set_option maxRecDepth 20000 in
theorem ggX11_court_X7_empty : GoodIn wsX11_court wsX7_empty := goodIn_r _ [83, 31, 123, 124, 125, 126, 127, 128] (by decide +kernel) (by decide +kernel)
set_option maxRecDepth 20000 in
theorem gX11_court_X7_empty : GoodIn wsX11_court (wsV RX11 94 RX7 yX7_empty wsX7_empty) := goodIn_app (goodIn_of _ (by decide +kernel)) ggX11_court_X7_empty
set_option maxRecDepth 20000 in
theorem ggX11_court_X8_begin : GoodIn wsX11_court wsX8_begin := goodIn_r _ [88, 89, 90, 24, 25, 26, 91, 92, 93, 18, 94, 21, 95, 96, 97, 98, 22, 99, 100, 101, 87, 102, 134, 129, 130, 131, 132, 133] (by decide +kernel) (by decide +kernel)
set_option maxRecDepth 20000 in
theorem gX11_court_X8_begin : GoodIn wsX11_court (wsV RX11 82 RX8 yX8_begin wsX8_begin) := goodIn_app (goodIn_of _ (by decide +kernel)) ggX11_court_X8_begin
set_option maxRecDepth 20000 in
theorem ggX11_court_X9_empty : GoodIn wsX11_court wsX9_empty := goodIn_r _ [107, 108, 109, 135, 136, 137, 138, 139] (by decide +kernel) (by decide +kernel)
set_option maxRecDepth 20000 in
theorem gX11_court_X9_empty : GoodIn wsX11_court (wsV RX11 102 RX9 yX9_empty wsX9_empty) := goodIn_app (goodIn_of _ (by decide +kernel)) ggX11_court_X9_empty
theorem dX11_court_0 : decode cX11_court 0 = .ok (.aload_n 0, 1) := by decide +kernel
theorem dX11_court_1 : decode cX11_court 1 = .ok (.getfield 12, 3) := by decide +kernel
theorem dX11_court_4 : decode cX11_court 4 = .ok (.aload_n 0, 1) := by decide +kernel
theorem dX11_court_5 : decode cX11_court 5 = .ok (.getfield 79, 3) := by decide +kernel
theorem dX11_court_8 : decode cX11_court 8 = .ok (.invokevirtual 98, 3) := by decide +kernel
theorem dX11_court_11 : decode cX11_court 11 = .ok (.istore_n 1, 1) := by decide +kernel
theorem dX11_court_12 : decode cX11_court 12 = .ok (.iload_n 1, 1) := by decide +kernel
theorem dX11_court_13 : decode cX11_court 13 = .ok (.ifCond .ge 5, 3) := by decide +kernel
theorem dX11_court_16 : decode cX11_court 16 = .ok (.iload_n 1, 1) := by decide +kernel
theorem dX11_court_17 : decode cX11_court 17 = .ok (.ireturn, 1) := by decide +kernel
theorem dX11_court_18 : decode cX11_court 18 = .ok (.aload_n 0, 1) := by decide +kernel
theorem dX11_court_19 : decode cX11_court 19 = .ok (.getfield 79, 3) := by decide +kernel
theorem dX11_court_22 : decode cX11_court 22 = .ok (.astore_n 2, 1) := by decide +kernel
theorem dX11_court_23 : decode cX11_court 23 = .ok (.aload_n 0, 1) := by decide +kernel
theorem dX11_court_24 : decode cX11_court 24 = .ok (.aload_n 0, 1) := by decide +kernel
theorem dX11_court_25 : decode cX11_court 25 = .ok (.getfield 75, 3) := by decide +kernel
theorem dX11_court_28 : decode cX11_court 28 = .ok (.putfield 79, 3) := by decide +kernel
theorem dX11_court_31 : decode cX11_court 31 = .ok (.aload_n 0, 1) := by decide +kernel
theorem dX11_court_32 : decode cX11_court 32 = .ok (.aload_n 2, 1) := by decide +kernel
theorem dX11_court_33 : decode cX11_court 33 = .ok (.putfield 75, 3) := by decide +kernel
theorem dX11_court_36 : decode cX11_court 36 = .ok (.aload_n 0, 1) := by decide +kernel
theorem dX11_court_37 : decode cX11_court 37 = .ok (.getfield 12, 3) := by decide +kernel
theorem dX11_court_40 : decode cX11_court 40 = .ok (.invokevirtual 94, 3) := by decide +kernel
theorem dX11_court_43 : decode cX11_court 43 = .ok (.pop, 1) := by decide +kernel
theorem dX11_court_44 : decode cX11_court 44 = .ok (.aload_n 0, 1) := by decide +kernel
theorem dX11_court_45 : decode cX11_court 45 = .ok (.getfield 19, 3) := by decide +kernel
theorem dX11_court_48 : decode cX11_court 48 = .ok (.aload_n 0, 1) := by decide +kernel
theorem dX11_court_49 : decode cX11_court 49 = .ok (.getfield 75, 3) := by decide +kernel
theorem dX11_court_52 : decode cX11_court 52 = .ok (.invokevirtual 82, 3) := by decide +kernel
theorem dX11_court_55 : decode cX11_court 55 = .ok (.aload_n 0, 1) := by decide +kernel
theorem dX11_court_56 : decode cX11_court 56 = .ok (.getfield 26, 3) := by decide +kernel
theorem dX11_court_59 : decode cX11_court 59 = .ok (.invokevirtual 102, 3) := by decide +kernel
theorem dX11_court_62 : decode cX11_court 62 = .ok (.aload_n 0, 1) := by decide +kernel
theorem dX11_court_63 : decode cX11_court 63 = .ok (.iconst 0, 1) := by decide +kernel
theorem dX11_court_64 : decode cX11_court 64 = .ok (.putfield 104, 3) := by decide +kernel
theorem dX11_court_67 : decode cX11_court 67 = .ok (.iload_n 1, 1) := by decide +kernel
theorem dX11_court_68 : decode cX11_court 68 = .ok (.ireturn, 1) := by decide +kernel
set_option maxRecDepth 20000 in
theorem ggX11_person_X10_hasPerson : GoodIn wsX11_person wsX10_hasPerson := goodIn_r _ [9, 10, 46, 47, 48, 49, 50] (by decide +kernel) (by decide +kernel)
set_option maxRecDepth 20000 in
theorem gX11_person_X10_hasPerson : GoodIn wsX11_person (wsV RX11 107 RX10 yX10_hasPerson wsX10_hasPerson) := goodIn_app (goodIn_of _ (by decide +kernel)) ggX11_person_X10_hasPerson
set_option maxRecDepth 20000 in
theorem ggX11_person_X8_bedOf : GoodIn wsX11_person wsX8_bedOf := goodIn_r _ [15, 16, 51] (by decide +kernel) (by decide +kernel)
set_option maxRecDepth 20000 in
theorem gX11_person_X8_bedOf : GoodIn wsX11_person (wsV RX11 116 RX8 yX8_bedOf wsX8_bedOf) := goodIn_app (goodIn_of _ (by decide +kernel)) ggX11_person_X8_bedOf
set_option maxRecDepth 20000 in
theorem ggX11_person_X11_safePillows : GoodIn wsX11_person wsX11_safePillows := goodIn_r _ [21, 1, 22, 4, 2, 23, 24, 25, 14, 26, 27, 12, 13, 15, 16, 28, 29, 30, 8, 31, 10, 32, 33, 34, 35, 36, 37, 38, 39, 40, 41, 42, 43, 44, 45, 46, 47, 48, 49, 50, 51] (by decide +kernel) (by decide +kernel)
set_option maxRecDepth 20000 in
theorem gX11_person_X11_safePillows : GoodIn wsX11_person (wsV RX11 120 RX11 yX11_safePillows wsX11_safePillows) := goodIn_app (goodIn_of _ (by decide +kernel)) ggX11_person_X11_safePillows
theorem dX11_person_0 : decode cX11_person 0 = .ok (.aload_n 0, 1) := by decide +kernel
theorem dX11_person_1 : decode cX11_person 1 = .ok (.getfield 75, 3) := by decide +kernel
theorem dX11_person_4 : decode cX11_person 4 = .ok (.iload_n 1, 1) := by decide +kernel
theorem dX11_person_5 : decode cX11_person 5 = .ok (.invokevirtual 107, 3) := by decide +kernel
theorem dX11_person_8 : decode cX11_person 8 = .ok (.ifCond .ne 5, 3) := by decide +kernel
theorem dX11_person_11 : decode cX11_person 11 = .ok (.iconst (-1), 1) := by decide +kernel
theorem dX11_person_12 : decode cX11_person 12 = .ok (.ireturn, 1) := by decide +kernel
theorem dX11_person_13 : decode cX11_person 13 = .ok (.iload_n 2, 1) := by decide +kernel
theorem dX11_person_14 : decode cX11_person 14 = .ok (.tableswitch 65 0 3 #[30, 40, 50, 59], 30) := by decide +kernel
theorem dX11_person_44 : decode cX11_person 44 = .ok (.aload_n 0, 1) := by decide +kernel
theorem dX11_person_45 : decode cX11_person 45 = .ok (.getfield 75, 3) := by decide +kernel
theorem dX11_person_48 : decode cX11_person 48 = .ok (.getfield 110, 3) := by decide +kernel
theorem dX11_person_51 : decode cX11_person 51 = .ok (.iload_n 1, 1) := by decide +kernel
theorem dX11_person_52 : decode cX11_person 52 = .ok (.iaload, 1) := by decide +kernel
theorem dX11_person_53 : decode cX11_person 53 = .ok (.ireturn, 1) := by decide +kernel
theorem dX11_person_54 : decode cX11_person 54 = .ok (.aload_n 0, 1) := by decide +kernel
theorem dX11_person_55 : decode cX11_person 55 = .ok (.getfield 75, 3) := by decide +kernel
theorem dX11_person_58 : decode cX11_person 58 = .ok (.getfield 113, 3) := by decide +kernel
theorem dX11_person_61 : decode cX11_person 61 = .ok (.iload_n 1, 1) := by decide +kernel
theorem dX11_person_62 : decode cX11_person 62 = .ok (.iaload, 1) := by decide +kernel
theorem dX11_person_63 : decode cX11_person 63 = .ok (.ireturn, 1) := by decide +kernel
theorem dX11_person_64 : decode cX11_person 64 = .ok (.aload_n 0, 1) := by decide +kernel
theorem dX11_person_65 : decode cX11_person 65 = .ok (.getfield 19, 3) := by decide +kernel
theorem dX11_person_68 : decode cX11_person 68 = .ok (.iload_n 1, 1) := by decide +kernel
theorem dX11_person_69 : decode cX11_person 69 = .ok (.invokevirtual 116, 3) := by decide +kernel
theorem dX11_person_72 : decode cX11_person 72 = .ok (.ireturn, 1) := by decide +kernel
theorem dX11_person_73 : decode cX11_person 73 = .ok (.aload_n 0, 1) := by decide +kernel
theorem dX11_person_74 : decode cX11_person 74 = .ok (.iload_n 1, 1) := by decide +kernel
theorem dX11_person_75 : decode cX11_person 75 = .ok (.invokevirtual 120, 3) := by decide +kernel
theorem dX11_person_78 : decode cX11_person 78 = .ok (.ireturn, 1) := by decide +kernel
theorem dX11_person_79 : decode cX11_person 79 = .ok (.iconst (-1), 1) := by decide +kernel
theorem dX11_person_80 : decode cX11_person 80 = .ok (.ireturn, 1) := by decide +kernel
set_option maxRecDepth 20000 in
theorem ggX11_clashes_X11_isThing : GoodIn wsX11_clashes wsX11_isThing := goodIn_r _ [6] (by decide +kernel) (by decide +kernel)
set_option maxRecDepth 20000 in
theorem gX11_clashes_X11_isThing : GoodIn wsX11_clashes (va_wsS RX11 123 yX11_isThing wsX11_isThing) := goodIn_app (goodIn_of _ (by decide +kernel)) ggX11_clashes_X11_isThing
theorem dX11_clashes_0 : decode cX11_clashes 0 = .ok (.iload_n 1, 1) := by decide +kernel
theorem dX11_clashes_1 : decode cX11_clashes 1 = .ok (.invokestatic 123, 3) := by decide +kernel
theorem dX11_clashes_4 : decode cX11_clashes 4 = .ok (.ifCond .eq 15, 3) := by decide +kernel
theorem dX11_clashes_7 : decode cX11_clashes 7 = .ok (.aload_n 0, 1) := by decide +kernel
theorem dX11_clashes_8 : decode cX11_clashes 8 = .ok (.getfield 75, 3) := by decide +kernel
theorem dX11_clashes_11 : decode cX11_clashes 11 = .ok (.getfield 126, 3) := by decide +kernel
theorem dX11_clashes_14 : decode cX11_clashes 14 = .ok (.iload_n 1, 1) := by decide +kernel
theorem dX11_clashes_15 : decode cX11_clashes 15 = .ok (.iaload, 1) := by decide +kernel
theorem dX11_clashes_16 : decode cX11_clashes 16 = .ok (.goto 4, 3) := by decide +kernel
theorem dX11_clashes_19 : decode cX11_clashes 19 = .ok (.iconst (-1), 1) := by decide +kernel
theorem dX11_clashes_20 : decode cX11_clashes 20 = .ok (.ireturn, 1) := by decide +kernel
set_option maxRecDepth 20000 in
theorem ggX11_pillow_X10_hasPillow : GoodIn wsX11_pillow wsX10_hasPillow := goodIn_r _ [7, 8, 44, 45, 46, 47, 48] (by decide +kernel) (by decide +kernel)
set_option maxRecDepth 20000 in
theorem gX11_pillow_X10_hasPillow : GoodIn wsX11_pillow (wsV RX11 129 RX10 yX10_hasPillow wsX10_hasPillow) := goodIn_app (goodIn_of _ (by decide +kernel)) ggX11_pillow_X10_hasPillow
set_option maxRecDepth 20000 in
theorem ggX11_pillow_X8_thingsOn : GoodIn wsX11_pillow wsX8_thingsOn := goodIn_r _ [13, 14, 15, 16, 12, 17, 18, 49] (by decide +kernel) (by decide +kernel)
set_option maxRecDepth 20000 in
theorem gX11_pillow_X8_thingsOn : GoodIn wsX11_pillow (wsV RX11 132 RX8 yX8_thingsOn wsX8_thingsOn) := goodIn_app (goodIn_of _ (by decide +kernel)) ggX11_pillow_X8_thingsOn
set_option maxRecDepth 20000 in
theorem ggX11_pillow_X8_sleepersOn : GoodIn wsX11_pillow wsX8_sleepersOn := goodIn_r _ [22, 23, 24, 25, 12, 26, 18, 49] (by decide +kernel) (by decide +kernel)
set_option maxRecDepth 20000 in
theorem gX11_pillow_X8_sleepersOn : GoodIn wsX11_pillow (wsV RX11 135 RX8 yX8_sleepersOn wsX8_sleepersOn) := goodIn_app (goodIn_of _ (by decide +kernel)) ggX11_pillow_X8_sleepersOn
set_option maxRecDepth 20000 in
theorem ggX11_pillow_X8_isExamined : GoodIn wsX11_pillow wsX8_isExamined := goodIn_r _ [30, 18, 49] (by decide +kernel) (by decide +kernel)
set_option maxRecDepth 20000 in
theorem gX11_pillow_X8_isExamined : GoodIn wsX11_pillow (wsV RX11 138 RX8 yX8_isExamined wsX8_isExamined) := goodIn_app (goodIn_of _ (by decide +kernel)) ggX11_pillow_X8_isExamined
theorem dX11_pillow_0 : decode cX11_pillow 0 = .ok (.aload_n 0, 1) := by decide +kernel
theorem dX11_pillow_1 : decode cX11_pillow 1 = .ok (.getfield 75, 3) := by decide +kernel
theorem dX11_pillow_4 : decode cX11_pillow 4 = .ok (.iload_n 1, 1) := by decide +kernel
theorem dX11_pillow_5 : decode cX11_pillow 5 = .ok (.invokevirtual 129, 3) := by decide +kernel
theorem dX11_pillow_8 : decode cX11_pillow 8 = .ok (.ifCond .ne 5, 3) := by decide +kernel
theorem dX11_pillow_11 : decode cX11_pillow 11 = .ok (.iconst (-1), 1) := by decide +kernel
theorem dX11_pillow_12 : decode cX11_pillow 12 = .ok (.ireturn, 1) := by decide +kernel
theorem dX11_pillow_13 : decode cX11_pillow 13 = .ok (.iload_n 2, 1) := by decide +kernel
theorem dX11_pillow_14 : decode cX11_pillow 14 = .ok (.tableswitch 61 0 2 #[26, 35, 44], 26) := by decide +kernel
theorem dX11_pillow_40 : decode cX11_pillow 40 = .ok (.aload_n 0, 1) := by decide +kernel
theorem dX11_pillow_41 : decode cX11_pillow 41 = .ok (.getfield 19, 3) := by decide +kernel
theorem dX11_pillow_44 : decode cX11_pillow 44 = .ok (.iload_n 1, 1) := by decide +kernel
theorem dX11_pillow_45 : decode cX11_pillow 45 = .ok (.invokevirtual 132, 3) := by decide +kernel
theorem dX11_pillow_48 : decode cX11_pillow 48 = .ok (.ireturn, 1) := by decide +kernel
theorem dX11_pillow_49 : decode cX11_pillow 49 = .ok (.aload_n 0, 1) := by decide +kernel
theorem dX11_pillow_50 : decode cX11_pillow 50 = .ok (.getfield 19, 3) := by decide +kernel
theorem dX11_pillow_53 : decode cX11_pillow 53 = .ok (.iload_n 1, 1) := by decide +kernel
theorem dX11_pillow_54 : decode cX11_pillow 54 = .ok (.invokevirtual 135, 3) := by decide +kernel
theorem dX11_pillow_57 : decode cX11_pillow 57 = .ok (.ireturn, 1) := by decide +kernel
theorem dX11_pillow_58 : decode cX11_pillow 58 = .ok (.aload_n 0, 1) := by decide +kernel
theorem dX11_pillow_59 : decode cX11_pillow 59 = .ok (.getfield 19, 3) := by decide +kernel
theorem dX11_pillow_62 : decode cX11_pillow 62 = .ok (.iload_n 1, 1) := by decide +kernel
theorem dX11_pillow_63 : decode cX11_pillow 63 = .ok (.invokevirtual 138, 3) := by decide +kernel
theorem dX11_pillow_66 : decode cX11_pillow 66 = .ok (.ifCond .eq 7, 3) := by decide +kernel
theorem dX11_pillow_69 : decode cX11_pillow 69 = .ok (.iconst 1, 1) := by decide +kernel
theorem dX11_pillow_70 : decode cX11_pillow 70 = .ok (.goto 4, 3) := by decide +kernel
theorem dX11_pillow_73 : decode cX11_pillow 73 = .ok (.iconst 0, 1) := by decide +kernel
theorem dX11_pillow_74 : decode cX11_pillow 74 = .ok (.ireturn, 1) := by decide +kernel
theorem dX11_pillow_75 : decode cX11_pillow 75 = .ok (.iconst (-1), 1) := by decide +kernel
theorem dX11_pillow_76 : decode cX11_pillow 76 = .ok (.ireturn, 1) := by decide +kernel
set_option maxRecDepth 20000 in
theorem ggX11_heard_X10_hasPillow : GoodIn wsX11_heard wsX10_hasPillow := goodIn_r _ [7, 8, 32, 33, 34, 35, 36] (by decide +kernel) (by decide +kernel)
set_option maxRecDepth 20000 in
theorem gX11_heard_X10_hasPillow : GoodIn wsX11_heard (wsV RX11 129 RX10 yX10_hasPillow wsX10_hasPillow) := goodIn_app (goodIn_of _ (by decide +kernel)) ggX11_heard_X10_hasPillow
set_option maxRecDepth 20000 in
theorem ggX11_heard_X11_isThing : GoodIn wsX11_heard wsX11_isThing := goodIn_r _ [12] (by decide +kernel) (by decide +kernel)
set_option maxRecDepth 20000 in
theorem gX11_heard_X11_isThing : GoodIn wsX11_heard (va_wsS RX11 123 yX11_isThing wsX11_isThing) := goodIn_app (goodIn_of _ (by decide +kernel)) ggX11_heard_X11_isThing
set_option maxRecDepth 20000 in
theorem ggX11_heard_X8_times : GoodIn wsX11_heard wsX8_times := goodIn_r _ [17, 18, 37] (by decide +kernel) (by decide +kernel)
set_option maxRecDepth 20000 in
theorem gX11_heard_X8_times : GoodIn wsX11_heard (wsV RX11 141 RX8 yX8_times wsX8_times) := goodIn_app (goodIn_of _ (by decide +kernel)) ggX11_heard_X8_times
theorem dX11_heard_0 : decode cX11_heard 0 = .ok (.aload_n 0, 1) := by decide +kernel
theorem dX11_heard_1 : decode cX11_heard 1 = .ok (.getfield 75, 3) := by decide +kernel
theorem dX11_heard_4 : decode cX11_heard 4 = .ok (.iload_n 1, 1) := by decide +kernel
theorem dX11_heard_5 : decode cX11_heard 5 = .ok (.invokevirtual 129, 3) := by decide +kernel
theorem dX11_heard_8 : decode cX11_heard 8 = .ok (.ifCond .eq 22, 3) := by decide +kernel
theorem dX11_heard_11 : decode cX11_heard 11 = .ok (.iload_n 2, 1) := by decide +kernel
theorem dX11_heard_12 : decode cX11_heard 12 = .ok (.invokestatic 123, 3) := by decide +kernel
theorem dX11_heard_15 : decode cX11_heard 15 = .ok (.ifCond .eq 15, 3) := by decide +kernel
theorem dX11_heard_18 : decode cX11_heard 18 = .ok (.aload_n 0, 1) := by decide +kernel
theorem dX11_heard_19 : decode cX11_heard 19 = .ok (.getfield 19, 3) := by decide +kernel
theorem dX11_heard_22 : decode cX11_heard 22 = .ok (.iload_n 1, 1) := by decide +kernel
theorem dX11_heard_23 : decode cX11_heard 23 = .ok (.iload_n 2, 1) := by decide +kernel
theorem dX11_heard_24 : decode cX11_heard 24 = .ok (.invokevirtual 141, 3) := by decide +kernel
theorem dX11_heard_27 : decode cX11_heard 27 = .ok (.goto 4, 3) := by decide +kernel
theorem dX11_heard_30 : decode cX11_heard 30 = .ok (.iconst (-1), 1) := by decide +kernel
theorem dX11_heard_31 : decode cX11_heard 31 = .ok (.ireturn, 1) := by decide +kernel
set_option maxRecDepth 20000 in
theorem ggX11_now_X8_nightNumber : GoodIn wsX11_now wsX8_nightNumber := goodIn_r _ [9, 10, 68] (by decide +kernel) (by decide +kernel)
set_option maxRecDepth 20000 in
theorem gX11_now_X8_nightNumber : GoodIn wsX11_now (wsV RX11 145 RX8 yX8_nightNumber wsX8_nightNumber) := goodIn_app (goodIn_of _ (by decide +kernel)) ggX11_now_X8_nightNumber
set_option maxRecDepth 20000 in
theorem ggX11_now_X8_knownThings : GoodIn wsX11_now wsX8_knownThings := goodIn_r _ [14, 10, 15, 16, 17, 8, 18, 19, 20, 21, 22, 23, 24, 25, 26, 68] (by decide +kernel) (by decide +kernel)
set_option maxRecDepth 20000 in
theorem gX11_now_X8_knownThings : GoodIn wsX11_now (wsV RX11 148 RX8 yX8_knownThings wsX8_knownThings) := goodIn_app (goodIn_of _ (by decide +kernel)) ggX11_now_X8_knownThings
set_option maxRecDepth 20000 in
theorem ggX11_now_X8_allThings : GoodIn wsX11_now wsX8_allThings := goodIn_r _ [30, 15, 16, 17, 8, 18, 19, 20, 21, 22, 23, 24, 25, 26, 10, 68] (by decide +kernel) (by decide +kernel)
set_option maxRecDepth 20000 in
theorem gX11_now_X8_allThings : GoodIn wsX11_now (wsV RX11 151 RX8 yX8_allThings wsX8_allThings) := goodIn_app (goodIn_of _ (by decide +kernel)) ggX11_now_X8_allThings
set_option maxRecDepth 20000 in
theorem ggX11_now_X10_clashesWithin : GoodIn wsX11_now wsX10_clashesWithin := goodIn_r _ [35, 36, 37, 38, 39, 40, 41, 42, 43, 69, 70, 71, 72, 73] (by decide +kernel) (by decide +kernel)
set_option maxRecDepth 20000 in
theorem gX11_now_X10_clashesWithin : GoodIn wsX11_now (wsV RX11 154 RX10 yX10_clashesWithin wsX10_clashesWithin) := goodIn_app (goodIn_of _ (by decide +kernel)) ggX11_now_X10_clashesWithin
set_option maxRecDepth 20000 in
theorem ggX11_now_X10_knownToOne : GoodIn wsX11_now wsX10_knownToOne := goodIn_r _ [47, 48, 49, 69, 70, 71, 72, 73] (by decide +kernel) (by decide +kernel)
set_option maxRecDepth 20000 in
theorem gX11_now_X10_knownToOne : GoodIn wsX11_now (wsV RX11 157 RX10 yX10_knownToOne wsX10_knownToOne) := goodIn_app (goodIn_of _ (by decide +kernel)) ggX11_now_X10_knownToOne
theorem dX11_now_0 : decode cX11_now 0 = .ok (.iload_n 1, 1) := by decide +kernel
theorem dX11_now_1 : decode cX11_now 1 = .ok (.tableswitch 94 0 5 #[39, 47, 55, 70, 78, 86], 39) := by decide +kernel
theorem dX11_now_40 : decode cX11_now 40 = .ok (.aload_n 0, 1) := by decide +kernel
theorem dX11_now_41 : decode cX11_now 41 = .ok (.getfield 19, 3) := by decide +kernel
theorem dX11_now_44 : decode cX11_now 44 = .ok (.invokevirtual 145, 3) := by decide +kernel
theorem dX11_now_47 : decode cX11_now 47 = .ok (.ireturn, 1) := by decide +kernel
theorem dX11_now_48 : decode cX11_now 48 = .ok (.aload_n 0, 1) := by decide +kernel
theorem dX11_now_49 : decode cX11_now 49 = .ok (.getfield 19, 3) := by decide +kernel
theorem dX11_now_52 : decode cX11_now 52 = .ok (.invokevirtual 148, 3) := by decide +kernel
theorem dX11_now_55 : decode cX11_now 55 = .ok (.ireturn, 1) := by decide +kernel
theorem dX11_now_56 : decode cX11_now 56 = .ok (.aload_n 0, 1) := by decide +kernel
theorem dX11_now_57 : decode cX11_now 57 = .ok (.getfield 75, 3) := by decide +kernel
theorem dX11_now_60 : decode cX11_now 60 = .ok (.aload_n 0, 1) := by decide +kernel
theorem dX11_now_61 : decode cX11_now 61 = .ok (.getfield 19, 3) := by decide +kernel
theorem dX11_now_64 : decode cX11_now 64 = .ok (.invokevirtual 151, 3) := by decide +kernel
theorem dX11_now_67 : decode cX11_now 67 = .ok (.invokevirtual 154, 3) := by decide +kernel
theorem dX11_now_70 : decode cX11_now 70 = .ok (.ireturn, 1) := by decide +kernel
theorem dX11_now_71 : decode cX11_now 71 = .ok (.aload_n 0, 1) := by decide +kernel
theorem dX11_now_72 : decode cX11_now 72 = .ok (.getfield 19, 3) := by decide +kernel
theorem dX11_now_75 : decode cX11_now 75 = .ok (.invokevirtual 151, 3) := by decide +kernel
theorem dX11_now_78 : decode cX11_now 78 = .ok (.ireturn, 1) := by decide +kernel
theorem dX11_now_79 : decode cX11_now 79 = .ok (.aload_n 0, 1) := by decide +kernel
theorem dX11_now_80 : decode cX11_now 80 = .ok (.getfield 75, 3) := by decide +kernel
theorem dX11_now_83 : decode cX11_now 83 = .ok (.invokevirtual 157, 3) := by decide +kernel
theorem dX11_now_86 : decode cX11_now 86 = .ok (.ireturn, 1) := by decide +kernel
theorem dX11_now_87 : decode cX11_now 87 = .ok (.aload_n 0, 1) := by decide +kernel
theorem dX11_now_88 : decode cX11_now 88 = .ok (.getfield 26, 3) := by decide +kernel
theorem dX11_now_91 : decode cX11_now 91 = .ok (.getfield 160, 3) := by decide +kernel
theorem dX11_now_94 : decode cX11_now 94 = .ok (.ireturn, 1) := by decide +kernel
theorem dX11_now_95 : decode cX11_now 95 = .ok (.iconst (-1), 1) := by decide +kernel
theorem dX11_now_96 : decode cX11_now 96 = .ok (.ireturn, 1) := by decide +kernel
set_option maxRecDepth 20000 in
theorem ggX11_lays_X10_hasPerson : GoodIn wsX11_lays wsX10_hasPerson := goodIn_r _ [8, 9, 55, 56, 57, 58, 59] (by decide +kernel) (by decide +kernel)
set_option maxRecDepth 20000 in
theorem gX11_lays_X10_hasPerson : GoodIn wsX11_lays (wsV RX11 107 RX10 yX10_hasPerson wsX10_hasPerson) := goodIn_app (goodIn_of _ (by decide +kernel)) ggX11_lays_X10_hasPerson
set_option maxRecDepth 20000 in
theorem ggX11_lays_X10_hasPillow : GoodIn wsX11_lays wsX10_hasPillow := goodIn_r _ [13, 14, 55, 56, 57, 58, 59] (by decide +kernel) (by decide +kernel)
set_option maxRecDepth 20000 in
theorem gX11_lays_X10_hasPillow : GoodIn wsX11_lays (wsV RX11 129 RX10 yX10_hasPillow wsX10_hasPillow) := goodIn_app (goodIn_of _ (by decide +kernel)) ggX11_lays_X10_hasPillow
set_option maxRecDepth 20000 in
theorem ggX11_lays_X8_bedOf : GoodIn wsX11_lays wsX8_bedOf := goodIn_r _ [19, 20, 60] (by decide +kernel) (by decide +kernel)
set_option maxRecDepth 20000 in
theorem gX11_lays_X8_bedOf : GoodIn wsX11_lays (wsV RX11 116 RX8 yX8_bedOf wsX8_bedOf) := goodIn_app (goodIn_of _ (by decide +kernel)) ggX11_lays_X8_bedOf
set_option maxRecDepth 20000 in
theorem ggX11_lays_X9_remember : GoodIn wsX11_lays wsX9_remember := goodIn_r _ [25, 26, 27, 28, 29, 30, 31, 32, 33, 34, 35, 36, 37, 60, 61, 62, 63, 64, 65] (by decide +kernel) (by decide +kernel)
set_option maxRecDepth 20000 in
theorem gX11_lays_X9_remember : GoodIn wsX11_lays (wsV RX11 163 RX9 yX9_remember wsX9_remember) := goodIn_app (goodIn_of _ (by decide +kernel)) ggX11_lays_X9_remember
set_option maxRecDepth 20000 in
theorem ggX11_lays_X8_lay : GoodIn wsX11_lays wsX8_lay := goodIn_r _ [41, 20, 60] (by decide +kernel) (by decide +kernel)
set_option maxRecDepth 20000 in
theorem gX11_lays_X8_lay : GoodIn wsX11_lays (wsV RX11 167 RX8 yX8_lay wsX8_lay) := goodIn_app (goodIn_of _ (by decide +kernel)) ggX11_lays_X8_lay
theorem dX11_lays_0 : decode cX11_lays 0 = .ok (.aload_n 0, 1) := by decide +kernel
theorem dX11_lays_1 : decode cX11_lays 1 = .ok (.getfield 75, 3) := by decide +kernel
theorem dX11_lays_4 : decode cX11_lays 4 = .ok (.iload_n 1, 1) := by decide +kernel
theorem dX11_lays_5 : decode cX11_lays 5 = .ok (.invokevirtual 107, 3) := by decide +kernel
theorem dX11_lays_8 : decode cX11_lays 8 = .ok (.ifCond .eq 19, 3) := by decide +kernel
theorem dX11_lays_11 : decode cX11_lays 11 = .ok (.iload_n 2, 1) := by decide +kernel
theorem dX11_lays_12 : decode cX11_lays 12 = .ok (.iconst (-1), 1) := by decide +kernel
theorem dX11_lays_13 : decode cX11_lays 13 = .ok (.if_icmp .eq 16, 3) := by decide +kernel
theorem dX11_lays_16 : decode cX11_lays 16 = .ok (.aload_n 0, 1) := by decide +kernel
theorem dX11_lays_17 : decode cX11_lays 17 = .ok (.getfield 75, 3) := by decide +kernel
theorem dX11_lays_20 : decode cX11_lays 20 = .ok (.iload_n 2, 1) := by decide +kernel
theorem dX11_lays_21 : decode cX11_lays 21 = .ok (.invokevirtual 129, 3) := by decide +kernel
theorem dX11_lays_24 : decode cX11_lays 24 = .ok (.ifCond .ne 5, 3) := by decide +kernel
theorem dX11_lays_27 : decode cX11_lays 27 = .ok (.iconst (-1), 1) := by decide +kernel
theorem dX11_lays_28 : decode cX11_lays 28 = .ok (.ireturn, 1) := by decide +kernel
theorem dX11_lays_29 : decode cX11_lays 29 = .ok (.aload_n 0, 1) := by decide +kernel
theorem dX11_lays_30 : decode cX11_lays 30 = .ok (.getfield 19, 3) := by decide +kernel
theorem dX11_lays_33 : decode cX11_lays 33 = .ok (.iload_n 1, 1) := by decide +kernel
theorem dX11_lays_34 : decode cX11_lays 34 = .ok (.invokevirtual 116, 3) := by decide +kernel
theorem dX11_lays_37 : decode cX11_lays 37 = .ok (.istore_n 3, 1) := by decide +kernel
theorem dX11_lays_38 : decode cX11_lays 38 = .ok (.aload_n 0, 1) := by decide +kernel
theorem dX11_lays_39 : decode cX11_lays 39 = .ok (.getfield 26, 3) := by decide +kernel
theorem dX11_lays_42 : decode cX11_lays 42 = .ok (.aload_n 0, 1) := by decide +kernel
theorem dX11_lays_43 : decode cX11_lays 43 = .ok (.getfield 19, 3) := by decide +kernel
theorem dX11_lays_46 : decode cX11_lays 46 = .ok (.invokevirtual 163, 3) := by decide +kernel
theorem dX11_lays_49 : decode cX11_lays 49 = .ok (.aload_n 0, 1) := by decide +kernel
theorem dX11_lays_50 : decode cX11_lays 50 = .ok (.getfield 19, 3) := by decide +kernel
theorem dX11_lays_53 : decode cX11_lays 53 = .ok (.iload_n 1, 1) := by decide +kernel
theorem dX11_lays_54 : decode cX11_lays 54 = .ok (.iload_n 2, 1) := by decide +kernel
theorem dX11_lays_55 : decode cX11_lays 55 = .ok (.iconst (-1), 1) := by decide +kernel
theorem dX11_lays_56 : decode cX11_lays 56 = .ok (.if_icmp .ne 8, 3) := by decide +kernel
theorem dX11_lays_59 : decode cX11_lays 59 = .ok (.bipush (-9), 2) := by decide +kernel
theorem dX11_lays_61 : decode cX11_lays 61 = .ok (.goto 4, 3) := by decide +kernel
theorem dX11_lays_64 : decode cX11_lays 64 = .ok (.iload_n 2, 1) := by decide +kernel
theorem dX11_lays_65 : decode cX11_lays 65 = .ok (.invokevirtual 167, 3) := by decide +kernel
theorem dX11_lays_68 : decode cX11_lays 68 = .ok (.iload_n 3, 1) := by decide +kernel
theorem dX11_lays_69 : decode cX11_lays 69 = .ok (.ireturn, 1) := by decide +kernel
set_option maxRecDepth 20000 in
theorem ggX11_night_X11_isDraw : GoodIn wsX11_night wsX11_isDraw := goodIn_r _ [7] (by decide +kernel) (by decide +kernel)
set_option maxRecDepth 20000 in
theorem gX11_night_X11_isDraw : GoodIn wsX11_night (va_wsS RX11 171 yX11_isDraw wsX11_isDraw) := goodIn_app (goodIn_of _ (by decide +kernel)) ggX11_night_X11_isDraw
set_option maxRecDepth 20000 in
theorem ggX11_night_X8_nightNumber : GoodIn wsX11_night wsX8_nightNumber := goodIn_r _ [12, 13, 89] (by decide +kernel) (by decide +kernel)
set_option maxRecDepth 20000 in
theorem gX11_night_X8_nightNumber : GoodIn wsX11_night (wsV RX11 145 RX8 yX8_nightNumber wsX8_nightNumber) := goodIn_app (goodIn_of _ (by decide +kernel)) ggX11_night_X8_nightNumber
set_option maxRecDepth 20000 in
theorem ggX11_night_X9_remember : GoodIn wsX11_night wsX9_remember := goodIn_r _ [18, 19, 20, 21, 22, 23, 24, 25, 26, 27, 28, 29, 30, 89, 90, 91, 92, 93, 94] (by decide +kernel) (by decide +kernel)
set_option maxRecDepth 20000 in
theorem gX11_night_X9_remember : GoodIn wsX11_night (wsV RX11 163 RX9 yX9_remember wsX9_remember) := goodIn_app (goodIn_of _ (by decide +kernel)) ggX11_night_X9_remember
set_option maxRecDepth 20000 in
theorem ggX11_night_X8_sleep : GoodIn wsX11_night wsX8_sleep := goodIn_r _ [34, 35, 13, 36, 9, 10, 11, 12, 37, 38, 39, 40, 41, 42, 43, 44, 45, 46, 47, 48, 49, 50, 51, 52, 53, 54, 55, 56, 57, 58, 59, 60, 61, 62, 63, 64, 65, 66, 67, 68, 69, 70, 71, 72, 73, 74, 75, 28, 29, 30, 95, 96, 97, 98, 99, 89] (by decide +kernel) (by decide +kernel)
set_option maxRecDepth 20000 in
theorem gX11_night_X8_sleep : GoodIn wsX11_night (wsV RX11 174 RX8 yX8_sleep wsX8_sleep) := goodIn_app (goodIn_of _ (by decide +kernel)) ggX11_night_X8_sleep
theorem dX11_night_0 : decode cX11_night 0 = .ok (.iload_n 1, 1) := by decide +kernel
theorem dX11_night_1 : decode cX11_night 1 = .ok (.invokestatic 171, 3) := by decide +kernel
theorem dX11_night_4 : decode cX11_night 4 = .ok (.ifCond .ne 5, 3) := by decide +kernel
theorem dX11_night_7 : decode cX11_night 7 = .ok (.iconst (-1), 1) := by decide +kernel
theorem dX11_night_8 : decode cX11_night 8 = .ok (.ireturn, 1) := by decide +kernel
theorem dX11_night_9 : decode cX11_night 9 = .ok (.aload_n 0, 1) := by decide +kernel
theorem dX11_night_10 : decode cX11_night 10 = .ok (.getfield 19, 3) := by decide +kernel
theorem dX11_night_13 : decode cX11_night 13 = .ok (.invokevirtual 145, 3) := by decide +kernel
theorem dX11_night_16 : decode cX11_night 16 = .ok (.sipush 999, 3) := by decide +kernel
theorem dX11_night_19 : decode cX11_night 19 = .ok (.if_icmp .lt 6, 3) := by decide +kernel
theorem dX11_night_22 : decode cX11_night 22 = .ok (.bipush (-2), 2) := by decide +kernel
theorem dX11_night_24 : decode cX11_night 24 = .ok (.ireturn, 1) := by decide +kernel
theorem dX11_night_25 : decode cX11_night 25 = .ok (.aload_n 0, 1) := by decide +kernel
theorem dX11_night_26 : decode cX11_night 26 = .ok (.getfield 26, 3) := by decide +kernel
theorem dX11_night_29 : decode cX11_night 29 = .ok (.aload_n 0, 1) := by decide +kernel
theorem dX11_night_30 : decode cX11_night 30 = .ok (.getfield 19, 3) := by decide +kernel
theorem dX11_night_33 : decode cX11_night 33 = .ok (.invokevirtual 163, 3) := by decide +kernel
theorem dX11_night_36 : decode cX11_night 36 = .ok (.aload_n 0, 1) := by decide +kernel
theorem dX11_night_37 : decode cX11_night 37 = .ok (.getfield 19, 3) := by decide +kernel
theorem dX11_night_40 : decode cX11_night 40 = .ok (.aload_n 0, 1) := by decide +kernel
theorem dX11_night_41 : decode cX11_night 41 = .ok (.getfield 75, 3) := by decide +kernel
theorem dX11_night_44 : decode cX11_night 44 = .ok (.iload_n 1, 1) := by decide +kernel
theorem dX11_night_45 : decode cX11_night 45 = .ok (.invokevirtual 174, 3) := by decide +kernel
theorem dX11_night_48 : decode cX11_night 48 = .ok (.ireturn, 1) := by decide +kernel
set_option maxRecDepth 20000 in
theorem ggX11_slips_X10_hasPillow : GoodIn wsX11_slips wsX10_hasPillow := goodIn_r _ [8, 9, 66, 67, 68, 69, 70] (by decide +kernel) (by decide +kernel)
set_option maxRecDepth 20000 in
theorem gX11_slips_X10_hasPillow : GoodIn wsX11_slips (wsV RX11 129 RX10 yX10_hasPillow wsX10_hasPillow) := goodIn_app (goodIn_of _ (by decide +kernel)) ggX11_slips_X10_hasPillow
set_option maxRecDepth 20000 in
theorem ggX11_slips_X8_thingsOn : GoodIn wsX11_slips wsX8_thingsOn := goodIn_r _ [14, 15, 16, 17, 13, 18, 19, 71] (by decide +kernel) (by decide +kernel)
set_option maxRecDepth 20000 in
theorem gX11_slips_X8_thingsOn : GoodIn wsX11_slips (wsV RX11 132 RX8 yX8_thingsOn wsX8_thingsOn) := goodIn_app (goodIn_of _ (by decide +kernel)) ggX11_slips_X8_thingsOn
set_option maxRecDepth 20000 in
theorem ggX11_slips_X9_remember : GoodIn wsX11_slips wsX9_remember := goodIn_r _ [24, 25, 26, 27, 28, 29, 30, 31, 32, 33, 34, 35, 36, 71, 72, 73, 74, 75, 76] (by decide +kernel) (by decide +kernel)
set_option maxRecDepth 20000 in
theorem gX11_slips_X9_remember : GoodIn wsX11_slips (wsV RX11 163 RX9 yX9_remember wsX9_remember) := goodIn_app (goodIn_of _ (by decide +kernel)) ggX11_slips_X9_remember
set_option maxRecDepth 20000 in
theorem ggX11_slips_X8_slip : GoodIn wsX11_slips wsX8_slip := goodIn_r _ [40, 19, 41, 42, 43, 13, 44, 45, 34, 35, 36, 71] (by decide +kernel) (by decide +kernel)
set_option maxRecDepth 20000 in
theorem gX11_slips_X8_slip : GoodIn wsX11_slips (wsV RX11 178 RX8 yX8_slip wsX8_slip) := goodIn_app (goodIn_of _ (by decide +kernel)) ggX11_slips_X8_slip
set_option maxRecDepth 20000 in
theorem ggX11_slips_J6_bitCount_0f7a4 : GoodIn wsX11_slips wsJ6_bitCount_0f7a4 := goodIn_r _ [49, 50, 51, 52] (by decide +kernel) (by decide +kernel)
set_option maxRecDepth 20000 in
theorem gX11_slips_J6_bitCount_0f7a4 : GoodIn wsX11_slips (va_wsS RX11 182 yJ6_bitCount_0f7a4 wsJ6_bitCount_0f7a4) := goodIn_app (goodIn_of _ (by decide +kernel)) ggX11_slips_J6_bitCount_0f7a4
