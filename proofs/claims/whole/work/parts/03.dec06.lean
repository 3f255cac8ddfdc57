theorem dX12_now_0 : decode cX12_now 0 = .ok (.iload_n 1, 1) := by decide +kernel
theorem dX12_now_1 : decode cX12_now 1 = .ok (.tableswitch 79 0 5 #[39, 46, 57, 62, 69, 74], 39) := by decide +kernel
theorem dX12_now_40 : decode cX12_now 40 = .ok (.aload_n 0, 1) := by decide +kernel
theorem dX12_now_41 : decode cX12_now 41 = .ok (.getfield 19, 3) := by decide +kernel
theorem dX12_now_44 : decode cX12_now 44 = .ok (.iconst 0, 1) := by decide +kernel
theorem dX12_now_45 : decode cX12_now 45 = .ok (.iaload, 1) := by decide +kernel
theorem dX12_now_46 : decode cX12_now 46 = .ok (.ireturn, 1) := by decide +kernel
theorem dX12_now_47 : decode cX12_now 47 = .ok (.aload_n 0, 1) := by decide +kernel
theorem dX12_now_48 : decode cX12_now 48 = .ok (.aload_n 0, 1) := by decide +kernel
theorem dX12_now_49 : decode cX12_now 49 = .ok (.getfield 19, 3) := by decide +kernel
theorem dX12_now_52 : decode cX12_now 52 = .ok (.iconst 1, 1) := by decide +kernel
theorem dX12_now_53 : decode cX12_now 53 = .ok (.iaload, 1) := by decide +kernel
theorem dX12_now_54 : decode cX12_now 54 = .ok (.invokevirtual 131, 3) := by decide +kernel
theorem dX12_now_57 : decode cX12_now 57 = .ok (.ireturn, 1) := by decide +kernel
theorem dX12_now_58 : decode cX12_now 58 = .ok (.aload_n 0, 1) := by decide +kernel
theorem dX12_now_59 : decode cX12_now 59 = .ok (.invokevirtual 137, 3) := by decide +kernel
theorem dX12_now_62 : decode cX12_now 62 = .ok (.ireturn, 1) := by decide +kernel
theorem dX12_now_63 : decode cX12_now 63 = .ok (.aload_n 0, 1) := by decide +kernel
theorem dX12_now_64 : decode cX12_now 64 = .ok (.bipush 63, 2) := by decide +kernel
theorem dX12_now_66 : decode cX12_now 66 = .ok (.invokevirtual 131, 3) := by decide +kernel
theorem dX12_now_69 : decode cX12_now 69 = .ok (.ireturn, 1) := by decide +kernel
theorem dX12_now_70 : decode cX12_now 70 = .ok (.aload_n 0, 1) := by decide +kernel
theorem dX12_now_71 : decode cX12_now 71 = .ok (.invokevirtual 141, 3) := by decide +kernel
theorem dX12_now_74 : decode cX12_now 74 = .ok (.ireturn, 1) := by decide +kernel
theorem dX12_now_75 : decode cX12_now 75 = .ok (.aload_n 0, 1) := by decide +kernel
theorem dX12_now_76 : decode cX12_now 76 = .ok (.getfield 96, 3) := by decide +kernel
theorem dX12_now_79 : decode cX12_now 79 = .ok (.ireturn, 1) := by decide +kernel
theorem dX12_now_80 : decode cX12_now 80 = .ok (.iconst (-1), 1) := by decide +kernel
theorem dX12_now_81 : decode cX12_now 81 = .ok (.ireturn, 1) := by decide +kernel
theorem dX12_keepsUndo_0 : decode cX12_keepsUndo 0 = .ok (.aload_n 0, 1) := by decide +kernel
theorem dX12_keepsUndo_1 : decode cX12_keepsUndo 1 = .ok (.getfield 96, 3) := by decide +kernel
theorem dX12_keepsUndo_4 : decode cX12_keepsUndo 4 = .ok (.bipush 10, 2) := by decide +kernel
theorem dX12_keepsUndo_6 : decode cX12_keepsUndo 6 = .ok (.if_icmp .ne 40, 3) := by decide +kernel
theorem dX12_keepsUndo_9 : decode cX12_keepsUndo 9 = .ok (.bipush 50, 2) := by decide +kernel
theorem dX12_keepsUndo_11 : decode cX12_keepsUndo 11 = .ok (.istore_n 1, 1) := by decide +kernel
theorem dX12_keepsUndo_12 : decode cX12_keepsUndo 12 = .ok (.iload_n 1, 1) := by decide +kernel
theorem dX12_keepsUndo_13 : decode cX12_keepsUndo 13 = .ok (.sipush 500, 3) := by decide +kernel
theorem dX12_keepsUndo_16 : decode cX12_keepsUndo 16 = .ok (.if_icmp .ge 24, 3) := by decide +kernel
theorem dX12_keepsUndo_19 : decode cX12_keepsUndo 19 = .ok (.aload_n 0, 1) := by decide +kernel
theorem dX12_keepsUndo_20 : decode cX12_keepsUndo 20 = .ok (.getfield 22, 3) := by decide +kernel
theorem dX12_keepsUndo_23 : decode cX12_keepsUndo 23 = .ok (.iload_n 1, 1) := by decide +kernel
theorem dX12_keepsUndo_24 : decode cX12_keepsUndo 24 = .ok (.bipush 50, 2) := by decide +kernel
theorem dX12_keepsUndo_26 : decode cX12_keepsUndo 26 = .ok (.isub, 1) := by decide +kernel
theorem dX12_keepsUndo_27 : decode cX12_keepsUndo 27 = .ok (.aload_n 0, 1) := by decide +kernel
theorem dX12_keepsUndo_28 : decode cX12_keepsUndo 28 = .ok (.getfield 22, 3) := by decide +kernel
theorem dX12_keepsUndo_31 : decode cX12_keepsUndo 31 = .ok (.iload_n 1, 1) := by decide +kernel
theorem dX12_keepsUndo_32 : decode cX12_keepsUndo 32 = .ok (.iaload, 1) := by decide +kernel
theorem dX12_keepsUndo_33 : decode cX12_keepsUndo 33 = .ok (.iastore, 1) := by decide +kernel
theorem dX12_keepsUndo_34 : decode cX12_keepsUndo 34 = .ok (.iinc 1 1, 3) := by decide +kernel
theorem dX12_keepsUndo_37 : decode cX12_keepsUndo 37 = .ok (.goto (-25), 3) := by decide +kernel
theorem dX12_keepsUndo_40 : decode cX12_keepsUndo 40 = .ok (.aload_n 0, 1) := by decide +kernel
theorem dX12_keepsUndo_41 : decode cX12_keepsUndo 41 = .ok (.bipush 9, 2) := by decide +kernel
theorem dX12_keepsUndo_43 : decode cX12_keepsUndo 43 = .ok (.putfield 96, 3) := by decide +kernel
theorem dX12_keepsUndo_46 : decode cX12_keepsUndo 46 = .ok (.iconst 0, 1) := by decide +kernel
theorem dX12_keepsUndo_47 : decode cX12_keepsUndo 47 = .ok (.istore_n 1, 1) := by decide +kernel
theorem dX12_keepsUndo_48 : decode cX12_keepsUndo 48 = .ok (.iload_n 1, 1) := by decide +kernel
theorem dX12_keepsUndo_49 : decode cX12_keepsUndo 49 = .ok (.bipush 50, 2) := by decide +kernel
theorem dX12_keepsUndo_51 : decode cX12_keepsUndo 51 = .ok (.if_icmp .ge 29, 3) := by decide +kernel
theorem dX12_keepsUndo_54 : decode cX12_keepsUndo 54 = .ok (.aload_n 0, 1) := by decide +kernel
theorem dX12_keepsUndo_55 : decode cX12_keepsUndo 55 = .ok (.getfield 22, 3) := by decide +kernel
theorem dX12_keepsUndo_58 : decode cX12_keepsUndo 58 = .ok (.bipush 50, 2) := by decide +kernel
theorem dX12_keepsUndo_60 : decode cX12_keepsUndo 60 = .ok (.aload_n 0, 1) := by decide +kernel
theorem dX12_keepsUndo_61 : decode cX12_keepsUndo 61 = .ok (.getfield 96, 3) := by decide +kernel
theorem dX12_keepsUndo_64 : decode cX12_keepsUndo 64 = .ok (.imul, 1) := by decide +kernel
theorem dX12_keepsUndo_65 : decode cX12_keepsUndo 65 = .ok (.iload_n 1, 1) := by decide +kernel
theorem dX12_keepsUndo_66 : decode cX12_keepsUndo 66 = .ok (.iadd, 1) := by decide +kernel
theorem dX12_keepsUndo_67 : decode cX12_keepsUndo 67 = .ok (.aload_n 0, 1) := by decide +kernel
theorem dX12_keepsUndo_68 : decode cX12_keepsUndo 68 = .ok (.getfield 19, 3) := by decide +kernel
theorem dX12_keepsUndo_71 : decode cX12_keepsUndo 71 = .ok (.iload_n 1, 1) := by decide +kernel
theorem dX12_keepsUndo_72 : decode cX12_keepsUndo 72 = .ok (.iaload, 1) := by decide +kernel
theorem dX12_keepsUndo_73 : decode cX12_keepsUndo 73 = .ok (.iastore, 1) := by decide +kernel
theorem dX12_keepsUndo_74 : decode cX12_keepsUndo 74 = .ok (.iinc 1 1, 3) := by decide +kernel
theorem dX12_keepsUndo_77 : decode cX12_keepsUndo 77 = .ok (.goto (-29), 3) := by decide +kernel
theorem dX12_keepsUndo_80 : decode cX12_keepsUndo 80 = .ok (.aload_n 0, 1) := by decide +kernel
theorem dX12_keepsUndo_81 : decode cX12_keepsUndo 81 = .ok (.dup, 1) := by decide +kernel
theorem dX12_keepsUndo_82 : decode cX12_keepsUndo 82 = .ok (.getfield 96, 3) := by decide +kernel
theorem dX12_keepsUndo_85 : decode cX12_keepsUndo 85 = .ok (.iconst 1, 1) := by decide +kernel
theorem dX12_keepsUndo_86 : decode cX12_keepsUndo 86 = .ok (.iadd, 1) := by decide +kernel
theorem dX12_keepsUndo_87 : decode cX12_keepsUndo 87 = .ok (.putfield 96, 3) := by decide +kernel
theorem dX12_keepsUndo_90 : decode cX12_keepsUndo 90 = .ok (.return_, 1) := by decide +kernel
set_option maxRecDepth 20000 in
theorem ggX12_lays_X12_isPerson : GoodIn wsX12_lays wsX12_isPerson := goodIn_r _ [6, 7, 8, 9, 5, 10, 21, 22, 23, 24, 25, 26, 27, 28, 29, 30, 31, 32, 33, 34, 35, 36, 37, 38] (by decide +kernel) (by decide +kernel)
set_option maxRecDepth 20000 in
theorem gX12_lays_X12_isPerson : GoodIn wsX12_lays (wsV RX12 112 RX12 yX12_isPerson wsX12_isPerson) := goodIn_app (goodIn_of _ (by decide +kernel)) ggX12_lays_X12_isPerson
set_option maxRecDepth 20000 in
theorem ggX12_lays_X12_isPillow : GoodIn wsX12_lays wsX12_isPillow := goodIn_r _ [14, 7, 8, 9, 5, 10, 21, 22, 23, 24, 25, 26, 27, 28, 29, 30, 31, 32, 33, 34, 35, 36, 37, 38] (by decide +kernel) (by decide +kernel)
set_option maxRecDepth 20000 in
theorem gX12_lays_X12_isPillow : GoodIn wsX12_lays (wsV RX12 123 RX12 yX12_isPillow wsX12_isPillow) := goodIn_app (goodIn_of _ (by decide +kernel)) ggX12_lays_X12_isPillow
set_option maxRecDepth 20000 in
theorem ggX12_lays_X12_keepsUndo : GoodIn wsX12_lays wsX12_keepsUndo := goodIn_r _ [18, 19, 20, 1, 21, 22, 23, 24, 25, 26, 27, 28, 29, 30, 31, 32, 33, 34, 35, 36, 37, 38] (by decide +kernel) (by decide +kernel)
set_option maxRecDepth 20000 in
theorem gX12_lays_X12_keepsUndo : GoodIn wsX12_lays (wsV RX12 144 RX12 yX12_keepsUndo wsX12_keepsUndo) := goodIn_app (goodIn_of _ (by decide +kernel)) ggX12_lays_X12_keepsUndo
theorem dX12_lays_0 : decode cX12_lays 0 = .ok (.aload_n 0, 1) := by decide +kernel
theorem dX12_lays_1 : decode cX12_lays 1 = .ok (.iload_n 1, 1) := by decide +kernel
theorem dX12_lays_2 : decode cX12_lays 2 = .ok (.invokevirtual 112, 3) := by decide +kernel
theorem dX12_lays_5 : decode cX12_lays 5 = .ok (.ifCond .eq 16, 3) := by decide +kernel
theorem dX12_lays_8 : decode cX12_lays 8 = .ok (.iload_n 2, 1) := by decide +kernel
theorem dX12_lays_9 : decode cX12_lays 9 = .ok (.iconst (-1), 1) := by decide +kernel
theorem dX12_lays_10 : decode cX12_lays 10 = .ok (.if_icmp .eq 13, 3) := by decide +kernel
theorem dX12_lays_13 : decode cX12_lays 13 = .ok (.aload_n 0, 1) := by decide +kernel
theorem dX12_lays_14 : decode cX12_lays 14 = .ok (.iload_n 2, 1) := by decide +kernel
theorem dX12_lays_15 : decode cX12_lays 15 = .ok (.invokevirtual 123, 3) := by decide +kernel
theorem dX12_lays_18 : decode cX12_lays 18 = .ok (.ifCond .ne 5, 3) := by decide +kernel
theorem dX12_lays_21 : decode cX12_lays 21 = .ok (.iconst (-1), 1) := by decide +kernel
theorem dX12_lays_22 : decode cX12_lays 22 = .ok (.ireturn, 1) := by decide +kernel
theorem dX12_lays_23 : decode cX12_lays 23 = .ok (.aload_n 0, 1) := by decide +kernel
theorem dX12_lays_24 : decode cX12_lays 24 = .ok (.invokevirtual 144, 3) := by decide +kernel
theorem dX12_lays_27 : decode cX12_lays 27 = .ok (.aload_n 0, 1) := by decide +kernel
theorem dX12_lays_28 : decode cX12_lays 28 = .ok (.getfield 19, 3) := by decide +kernel
theorem dX12_lays_31 : decode cX12_lays 31 = .ok (.iconst 2, 1) := by decide +kernel
theorem dX12_lays_32 : decode cX12_lays 32 = .ok (.iload_n 1, 1) := by decide +kernel
theorem dX12_lays_33 : decode cX12_lays 33 = .ok (.iadd, 1) := by decide +kernel
theorem dX12_lays_34 : decode cX12_lays 34 = .ok (.iaload, 1) := by decide +kernel
theorem dX12_lays_35 : decode cX12_lays 35 = .ok (.istore_n 3, 1) := by decide +kernel
theorem dX12_lays_36 : decode cX12_lays 36 = .ok (.aload_n 0, 1) := by decide +kernel
theorem dX12_lays_37 : decode cX12_lays 37 = .ok (.getfield 19, 3) := by decide +kernel
theorem dX12_lays_40 : decode cX12_lays 40 = .ok (.iconst 2, 1) := by decide +kernel
theorem dX12_lays_41 : decode cX12_lays 41 = .ok (.iload_n 1, 1) := by decide +kernel
theorem dX12_lays_42 : decode cX12_lays 42 = .ok (.iadd, 1) := by decide +kernel
theorem dX12_lays_43 : decode cX12_lays 43 = .ok (.iload_n 2, 1) := by decide +kernel
theorem dX12_lays_44 : decode cX12_lays 44 = .ok (.iconst (-1), 1) := by decide +kernel
theorem dX12_lays_45 : decode cX12_lays 45 = .ok (.if_icmp .ne 8, 3) := by decide +kernel
theorem dX12_lays_48 : decode cX12_lays 48 = .ok (.bipush (-9), 2) := by decide +kernel
theorem dX12_lays_50 : decode cX12_lays 50 = .ok (.goto 4, 3) := by decide +kernel
theorem dX12_lays_53 : decode cX12_lays 53 = .ok (.iload_n 2, 1) := by decide +kernel
theorem dX12_lays_54 : decode cX12_lays 54 = .ok (.iastore, 1) := by decide +kernel
theorem dX12_lays_55 : decode cX12_lays 55 = .ok (.iload_n 3, 1) := by decide +kernel
theorem dX12_lays_56 : decode cX12_lays 56 = .ok (.ireturn, 1) := by decide +kernel
set_option maxRecDepth 20000 in
theorem ggX12_says_X12_knows : GoodIn wsX12_says wsX12_knows := goodIn_r _ [12, 7, 16, 17, 18, 19, 20, 21, 22, 23, 24, 25, 26, 27, 28, 29, 30, 31, 32, 33] (by decide +kernel) (by decide +kernel)
set_option maxRecDepth 20000 in
theorem gX12_says_X12_knows : GoodIn wsX12_says (wsV RX12 109 RX12 yX12_knows wsX12_knows) := goodIn_app (goodIn_of _ (by decide +kernel)) ggX12_says_X12_knows
set_option maxRecDepth 20000 in
theorem ggX12_says_X12_many : GoodIn wsX12_says wsX12_many := goodIn_r _ [15] (by decide +kernel) (by decide +kernel)
set_option maxRecDepth 20000 in
theorem gX12_says_X12_many : GoodIn wsX12_says (va_wsS RX12 134 yX12_many wsX12_many) := goodIn_app (goodIn_of _ (by decide +kernel)) ggX12_says_X12_many
theorem dX12_says_0 : decode cX12_says 0 = .ok (.ldc2_w 147, 3) := by decide +kernel
theorem dX12_says_3 : decode cX12_says 3 = .ok (.iload_n 2, 1) := by decide +kernel
theorem dX12_says_4 : decode cX12_says 4 = .ok (.i2l, 1) := by decide +kernel
theorem dX12_says_5 : decode cX12_says 5 = .ok (.lmul, 1) := by decide +kernel
theorem dX12_says_6 : decode cX12_says 6 = .ok (.ldc2_w 149, 3) := by decide +kernel
theorem dX12_says_9 : decode cX12_says 9 = .ok (.iload_n 1, 1) := by decide +kernel
theorem dX12_says_10 : decode cX12_says 10 = .ok (.i2l, 1) := by decide +kernel
theorem dX12_says_11 : decode cX12_says 11 = .ok (.lmul, 1) := by decide +kernel
theorem dX12_says_12 : decode cX12_says 12 = .ok (.ladd, 1) := by decide +kernel
theorem dX12_says_13 : decode cX12_says 13 = .ok (.ldc2_w 151, 3) := by decide +kernel
theorem dX12_says_16 : decode cX12_says 16 = .ok (.aload_n 0, 1) := by decide +kernel
theorem dX12_says_17 : decode cX12_says 17 = .ok (.getfield 19, 3) := by decide +kernel
theorem dX12_says_20 : decode cX12_says 20 = .ok (.iconst 0, 1) := by decide +kernel
theorem dX12_says_21 : decode cX12_says 21 = .ok (.iaload, 1) := by decide +kernel
theorem dX12_says_22 : decode cX12_says 22 = .ok (.i2l, 1) := by decide +kernel
theorem dX12_says_23 : decode cX12_says 23 = .ok (.lmul, 1) := by decide +kernel
theorem dX12_says_24 : decode cX12_says 24 = .ok (.ladd, 1) := by decide +kernel
theorem dX12_says_25 : decode cX12_says 25 = .ok (.lconst 1, 1) := by decide +kernel
theorem dX12_says_26 : decode cX12_says 26 = .ok (.ladd, 1) := by decide +kernel
theorem dX12_says_27 : decode cX12_says 27 = .ok (.lstore_n 3, 1) := by decide +kernel
theorem dX12_says_28 : decode cX12_says 28 = .ok (.lload_n 3, 1) := by decide +kernel
theorem dX12_says_29 : decode cX12_says 29 = .ok (.lload_n 3, 1) := by decide +kernel
theorem dX12_says_30 : decode cX12_says 30 = .ok (.lmul, 1) := by decide +kernel
theorem dX12_says_31 : decode cX12_says 31 = .ok (.ldc2_w 153, 3) := by decide +kernel
theorem dX12_says_34 : decode cX12_says 34 = .ok (.lrem, 1) := by decide +kernel
theorem dX12_says_35 : decode cX12_says 35 = .ok (.ldc2_w 155, 3) := by decide +kernel
theorem dX12_says_38 : decode cX12_says 38 = .ok (.ldiv, 1) := by decide +kernel
theorem dX12_says_39 : decode cX12_says 39 = .ok (.l2i, 1) := by decide +kernel
theorem dX12_says_40 : decode cX12_says 40 = .ok (.istore 5, 2) := by decide +kernel
theorem dX12_says_42 : decode cX12_says 42 = .ok (.aload_n 0, 1) := by decide +kernel
theorem dX12_says_43 : decode cX12_says 43 = .ok (.iload_n 1, 1) := by decide +kernel
theorem dX12_says_44 : decode cX12_says 44 = .ok (.invokevirtual 109, 3) := by decide +kernel
theorem dX12_says_47 : decode cX12_says 47 = .ok (.invokestatic 134, 3) := by decide +kernel
theorem dX12_says_50 : decode cX12_says 50 = .ok (.istore 6, 2) := by decide +kernel
theorem dX12_says_52 : decode cX12_says 52 = .ok (.iload 5, 2) := by decide +kernel
theorem dX12_says_54 : decode cX12_says 54 = .ok (.bipush 10, 2) := by decide +kernel
theorem dX12_says_56 : decode cX12_says 56 = .ok (.irem, 1) := by decide +kernel
theorem dX12_says_57 : decode cX12_says 57 = .ok (.aload_n 0, 1) := by decide +kernel
theorem dX12_says_58 : decode cX12_says 58 = .ok (.getfield 16, 3) := by decide +kernel
theorem dX12_says_61 : decode cX12_says 61 = .ok (.iconst 2, 1) := by decide +kernel
theorem dX12_says_62 : decode cX12_says 62 = .ok (.iconst 2, 1) := by decide +kernel
theorem dX12_says_63 : decode cX12_says 63 = .ok (.iload_n 1, 1) := by decide +kernel
theorem dX12_says_64 : decode cX12_says 64 = .ok (.imul, 1) := by decide +kernel
theorem dX12_says_65 : decode cX12_says 65 = .ok (.iadd, 1) := by decide +kernel
theorem dX12_says_66 : decode cX12_says 66 = .ok (.iconst 1, 1) := by decide +kernel
theorem dX12_says_67 : decode cX12_says 67 = .ok (.iadd, 1) := by decide +kernel
theorem dX12_says_68 : decode cX12_says 68 = .ok (.iaload, 1) := by decide +kernel
theorem dX12_says_69 : decode cX12_says 69 = .ok (.if_icmp .ge 8, 3) := by decide +kernel
theorem dX12_says_72 : decode cX12_says 72 = .ok (.iload 6, 2) := by decide +kernel
theorem dX12_says_74 : decode cX12_says 74 = .ok (.ifCond .ne 6, 3) := by decide +kernel
theorem dX12_says_77 : decode cX12_says 77 = .ok (.bipush (-9), 2) := by decide +kernel
theorem dX12_says_79 : decode cX12_says 79 = .ok (.ireturn, 1) := by decide +kernel
theorem dX12_says_80 : decode cX12_says 80 = .ok (.aload_n 0, 1) := by decide +kernel
theorem dX12_says_81 : decode cX12_says 81 = .ok (.iload_n 1, 1) := by decide +kernel
theorem dX12_says_82 : decode cX12_says 82 = .ok (.invokevirtual 109, 3) := by decide +kernel
theorem dX12_says_85 : decode cX12_says 85 = .ok (.istore 7, 2) := by decide +kernel
theorem dX12_says_87 : decode cX12_says 87 = .ok (.iload 5, 2) := by decide +kernel
theorem dX12_says_89 : decode cX12_says 89 = .ok (.bipush 10, 2) := by decide +kernel
theorem dX12_says_91 : decode cX12_says 91 = .ok (.idiv, 1) := by decide +kernel
theorem dX12_says_92 : decode cX12_says 92 = .ok (.iload 6, 2) := by decide +kernel
theorem dX12_says_94 : decode cX12_says 94 = .ok (.irem, 1) := by decide +kernel
theorem dX12_says_95 : decode cX12_says 95 = .ok (.istore 8, 2) := by decide +kernel
theorem dX12_says_97 : decode cX12_says 97 = .ok (.iload 8, 2) := by decide +kernel
theorem dX12_says_99 : decode cX12_says 99 = .ok (.ifCond .le 18, 3) := by decide +kernel
theorem dX12_says_102 : decode cX12_says 102 = .ok (.iload 7, 2) := by decide +kernel
theorem dX12_says_104 : decode cX12_says 104 = .ok (.iload 7, 2) := by decide +kernel
theorem dX12_says_106 : decode cX12_says 106 = .ok (.iconst 1, 1) := by decide +kernel
theorem dX12_says_107 : decode cX12_says 107 = .ok (.isub, 1) := by decide +kernel
theorem dX12_says_108 : decode cX12_says 108 = .ok (.iand, 1) := by decide +kernel
theorem dX12_says_109 : decode cX12_says 109 = .ok (.istore 7, 2) := by decide +kernel
theorem dX12_says_111 : decode cX12_says 111 = .ok (.iinc 8 (-1), 3) := by decide +kernel
theorem dX12_says_114 : decode cX12_says 114 = .ok (.goto (-17), 3) := by decide +kernel
theorem dX12_says_117 : decode cX12_says 117 = .ok (.iconst 0, 1) := by decide +kernel
theorem dX12_says_118 : decode cX12_says 118 = .ok (.istore 8, 2) := by decide +kernel
theorem dX12_says_120 : decode cX12_says 120 = .ok (.iload 7, 2) := by decide +kernel
theorem dX12_says_122 : decode cX12_says 122 = .ok (.iload 8, 2) := by decide +kernel
theorem dX12_says_124 : decode cX12_says 124 = .ok (.ishr, 1) := by decide +kernel
theorem dX12_says_125 : decode cX12_says 125 = .ok (.iconst 1, 1) := by decide +kernel
theorem dX12_says_126 : decode cX12_says 126 = .ok (.iand, 1) := by decide +kernel
theorem dX12_says_127 : decode cX12_says 127 = .ok (.ifCond .ne 9, 3) := by decide +kernel
theorem dX12_says_130 : decode cX12_says 130 = .ok (.iinc 8 1, 3) := by decide +kernel
theorem dX12_says_133 : decode cX12_says 133 = .ok (.goto (-13), 3) := by decide +kernel
theorem dX12_says_136 : decode cX12_says 136 = .ok (.iload 8, 2) := by decide +kernel
theorem dX12_says_138 : decode cX12_says 138 = .ok (.ireturn, 1) := by decide +kernel
set_option maxRecDepth 20000 in
theorem ggX12_goesBy_X12_says : GoodIn wsX12_goesBy wsX12_says := goodIn_r _ [7, 8, 9, 10, 2, 11, 12, 1, 13, 14, 15, 6, 16, 17, 18, 19, 20, 21, 22, 23, 24, 25, 26, 27, 28, 29, 30, 31, 32, 33, 34, 35, 36, 37] (by decide +kernel) (by decide +kernel)
set_option maxRecDepth 20000 in
theorem gX12_goesBy_X12_says : GoodIn wsX12_goesBy (wsV RX12 157 RX12 yX12_says wsX12_says) := goodIn_app (goodIn_of _ (by decide +kernel)) ggX12_goesBy_X12_says
theorem dX12_goesBy_0 : decode cX12_goesBy 0 = .ok (.iconst 0, 1) := by decide +kernel
theorem dX12_goesBy_1 : decode cX12_goesBy 1 = .ok (.istore_n 2, 1) := by decide +kernel
theorem dX12_goesBy_2 : decode cX12_goesBy 2 = .ok (.iconst 0, 1) := by decide +kernel
theorem dX12_goesBy_3 : decode cX12_goesBy 3 = .ok (.istore_n 3, 1) := by decide +kernel
theorem dX12_goesBy_4 : decode cX12_goesBy 4 = .ok (.iload_n 3, 1) := by decide +kernel
theorem dX12_goesBy_5 : decode cX12_goesBy 5 = .ok (.aload_n 0, 1) := by decide +kernel
theorem dX12_goesBy_6 : decode cX12_goesBy 6 = .ok (.getfield 16, 3) := by decide +kernel
theorem dX12_goesBy_9 : decode cX12_goesBy 9 = .ok (.iconst 0, 1) := by decide +kernel
theorem dX12_goesBy_10 : decode cX12_goesBy 10 = .ok (.iaload, 1) := by decide +kernel
theorem dX12_goesBy_11 : decode cX12_goesBy 11 = .ok (.if_icmp .ge 98, 3) := by decide +kernel
theorem dX12_goesBy_14 : decode cX12_goesBy 14 = .ok (.aload_n 0, 1) := by decide +kernel
theorem dX12_goesBy_15 : decode cX12_goesBy 15 = .ok (.iload_n 3, 1) := by decide +kernel
theorem dX12_goesBy_16 : decode cX12_goesBy 16 = .ok (.iload_n 1, 1) := by decide +kernel
theorem dX12_goesBy_17 : decode cX12_goesBy 17 = .ok (.invokevirtual 157, 3) := by decide +kernel
theorem dX12_goesBy_20 : decode cX12_goesBy 20 = .ok (.istore 4, 2) := by decide +kernel
theorem dX12_goesBy_22 : decode cX12_goesBy 22 = .ok (.iload_n 2, 1) := by decide +kernel
theorem dX12_goesBy_23 : decode cX12_goesBy 23 = .ok (.iload 4, 2) := by decide +kernel
theorem dX12_goesBy_25 : decode cX12_goesBy 25 = .ok (.bipush (-9), 2) := by decide +kernel
theorem dX12_goesBy_27 : decode cX12_goesBy 27 = .ok (.if_icmp .ne 7, 3) := by decide +kernel
theorem dX12_goesBy_30 : decode cX12_goesBy 30 = .ok (.iconst 0, 1) := by decide +kernel
theorem dX12_goesBy_31 : decode cX12_goesBy 31 = .ok (.goto 4, 3) := by decide +kernel
theorem dX12_goesBy_34 : decode cX12_goesBy 34 = .ok (.iconst 1, 1) := by decide +kernel
theorem dX12_goesBy_35 : decode cX12_goesBy 35 = .ok (.iadd, 1) := by decide +kernel
theorem dX12_goesBy_36 : decode cX12_goesBy 36 = .ok (.istore_n 2, 1) := by decide +kernel
theorem dX12_goesBy_37 : decode cX12_goesBy 37 = .ok (.iload 4, 2) := by decide +kernel
theorem dX12_goesBy_39 : decode cX12_goesBy 39 = .ok (.bipush (-9), 2) := by decide +kernel
theorem dX12_goesBy_41 : decode cX12_goesBy 41 = .ok (.if_icmp .eq 62, 3) := by decide +kernel
theorem dX12_goesBy_44 : decode cX12_goesBy 44 = .ok (.aload_n 0, 1) := by decide +kernel
theorem dX12_goesBy_45 : decode cX12_goesBy 45 = .ok (.getfield 19, 3) := by decide +kernel
theorem dX12_goesBy_48 : decode cX12_goesBy 48 = .ok (.iconst 2, 1) := by decide +kernel
theorem dX12_goesBy_49 : decode cX12_goesBy 49 = .ok (.iload_n 3, 1) := by decide +kernel
theorem dX12_goesBy_50 : decode cX12_goesBy 50 = .ok (.iadd, 1) := by decide +kernel
theorem dX12_goesBy_51 : decode cX12_goesBy 51 = .ok (.iaload, 1) := by decide +kernel
theorem dX12_goesBy_52 : decode cX12_goesBy 52 = .ok (.bipush (-9), 2) := by decide +kernel
theorem dX12_goesBy_54 : decode cX12_goesBy 54 = .ok (.if_icmp .eq 49, 3) := by decide +kernel
theorem dX12_goesBy_57 : decode cX12_goesBy 57 = .ok (.bipush 8, 2) := by decide +kernel
theorem dX12_goesBy_59 : decode cX12_goesBy 59 = .ok (.bipush 7, 2) := by decide +kernel
theorem dX12_goesBy_61 : decode cX12_goesBy 61 = .ok (.aload_n 0, 1) := by decide +kernel
theorem dX12_goesBy_62 : decode cX12_goesBy 62 = .ok (.getfield 19, 3) := by decide +kernel
theorem dX12_goesBy_65 : decode cX12_goesBy 65 = .ok (.iconst 2, 1) := by decide +kernel
theorem dX12_goesBy_66 : decode cX12_goesBy 66 = .ok (.iload_n 3, 1) := by decide +kernel
theorem dX12_goesBy_67 : decode cX12_goesBy 67 = .ok (.iadd, 1) := by decide +kernel
theorem dX12_goesBy_68 : decode cX12_goesBy 68 = .ok (.iaload, 1) := by decide +kernel
theorem dX12_goesBy_69 : decode cX12_goesBy 69 = .ok (.imul, 1) := by decide +kernel
theorem dX12_goesBy_70 : decode cX12_goesBy 70 = .ok (.iadd, 1) := by decide +kernel
theorem dX12_goesBy_71 : decode cX12_goesBy 71 = .ok (.iload 4, 2) := by decide +kernel
theorem dX12_goesBy_73 : decode cX12_goesBy 73 = .ok (.iadd, 1) := by decide +kernel
theorem dX12_goesBy_74 : decode cX12_goesBy 74 = .ok (.istore 5, 2) := by decide +kernel
theorem dX12_goesBy_76 : decode cX12_goesBy 76 = .ok (.aload_n 0, 1) := by decide +kernel
theorem dX12_goesBy_77 : decode cX12_goesBy 77 = .ok (.getfield 19, 3) := by decide +kernel
theorem dX12_goesBy_80 : decode cX12_goesBy 80 = .ok (.iload 5, 2) := by decide +kernel
theorem dX12_goesBy_82 : decode cX12_goesBy 82 = .ok (.dup2, 1) := by decide +kernel
theorem dX12_goesBy_83 : decode cX12_goesBy 83 = .ok (.iaload, 1) := by decide +kernel
theorem dX12_goesBy_84 : decode cX12_goesBy 84 = .ok (.aload_n 0, 1) := by decide +kernel
theorem dX12_goesBy_85 : decode cX12_goesBy 85 = .ok (.getfield 19, 3) := by decide +kernel
theorem dX12_goesBy_88 : decode cX12_goesBy 88 = .ok (.iload 5, 2) := by decide +kernel
theorem dX12_goesBy_90 : decode cX12_goesBy 90 = .ok (.iaload, 1) := by decide +kernel
theorem dX12_goesBy_91 : decode cX12_goesBy 91 = .ok (.bipush 99, 2) := by decide +kernel
theorem dX12_goesBy_93 : decode cX12_goesBy 93 = .ok (.if_icmp .ge 7, 3) := by decide +kernel
theorem dX12_goesBy_96 : decode cX12_goesBy 96 = .ok (.iconst 1, 1) := by decide +kernel
theorem dX12_goesBy_97 : decode cX12_goesBy 97 = .ok (.goto 4, 3) := by decide +kernel
theorem dX12_goesBy_100 : decode cX12_goesBy 100 = .ok (.iconst 0, 1) := by decide +kernel
theorem dX12_goesBy_101 : decode cX12_goesBy 101 = .ok (.iadd, 1) := by decide +kernel
theorem dX12_goesBy_102 : decode cX12_goesBy 102 = .ok (.iastore, 1) := by decide +kernel
theorem dX12_goesBy_103 : decode cX12_goesBy 103 = .ok (.iinc 3 1, 3) := by decide +kernel
theorem dX12_goesBy_106 : decode cX12_goesBy 106 = .ok (.goto (-102), 3) := by decide +kernel
theorem dX12_goesBy_109 : decode cX12_goesBy 109 = .ok (.aload_n 0, 1) := by decide +kernel
theorem dX12_goesBy_110 : decode cX12_goesBy 110 = .ok (.getfield 19, 3) := by decide +kernel
theorem dX12_goesBy_113 : decode cX12_goesBy 113 = .ok (.iconst 0, 1) := by decide +kernel
theorem dX12_goesBy_114 : decode cX12_goesBy 114 = .ok (.dup2, 1) := by decide +kernel
theorem dX12_goesBy_115 : decode cX12_goesBy 115 = .ok (.iaload, 1) := by decide +kernel
theorem dX12_goesBy_116 : decode cX12_goesBy 116 = .ok (.iconst 1, 1) := by decide +kernel
theorem dX12_goesBy_117 : decode cX12_goesBy 117 = .ok (.iadd, 1) := by decide +kernel
theorem dX12_goesBy_118 : decode cX12_goesBy 118 = .ok (.iastore, 1) := by decide +kernel
theorem dX12_goesBy_119 : decode cX12_goesBy 119 = .ok (.iload_n 2, 1) := by decide +kernel
theorem dX12_goesBy_120 : decode cX12_goesBy 120 = .ok (.ireturn, 1) := by decide +kernel
set_option maxRecDepth 20000 in
theorem ggX12_night_X12_in : GoodIn wsX12_night wsX12_in := goodIn_r _ [6] (by decide +kernel) (by decide +kernel)
set_option maxRecDepth 20000 in
theorem gX12_night_X12_in : GoodIn wsX12_night (va_wsS RX12 48 yX12_in wsX12_in) := goodIn_app (goodIn_of _ (by decide +kernel)) ggX12_night_X12_in
set_option maxRecDepth 20000 in
theorem ggX12_night_X12_keepsUndo : GoodIn wsX12_night wsX12_keepsUndo := goodIn_r _ [10, 11, 12, 2, 34, 35, 36, 37, 38, 39, 40, 41, 42, 43, 44, 45, 46, 47, 48, 49, 50, 51] (by decide +kernel) (by decide +kernel)
set_option maxRecDepth 20000 in
theorem gX12_night_X12_keepsUndo : GoodIn wsX12_night (wsV RX12 144 RX12 yX12_keepsUndo wsX12_keepsUndo) := goodIn_app (goodIn_of _ (by decide +kernel)) ggX12_night_X12_keepsUndo
set_option maxRecDepth 20000 in
theorem ggX12_night_X12_goesBy : GoodIn wsX12_night wsX12_goesBy := goodIn_r _ [16, 17, 2, 18, 19, 20, 5, 21, 22, 23, 24, 25, 26, 27, 28, 29, 30, 31, 32, 33, 34, 35, 36, 37, 38, 39, 40, 41, 42, 43, 44, 45, 46, 47, 48, 49, 50, 51] (by decide +kernel) (by decide +kernel)
set_option maxRecDepth 20000 in
theorem gX12_night_X12_goesBy : GoodIn wsX12_night (wsV RX12 162 RX12 yX12_goesBy wsX12_goesBy) := goodIn_app (goodIn_of _ (by decide +kernel)) ggX12_night_X12_goesBy
theorem dX12_night_0 : decode cX12_night 0 = .ok (.iload_n 1, 1) := by decide +kernel
theorem dX12_night_1 : decode cX12_night 1 = .ok (.i2l, 1) := by decide +kernel
theorem dX12_night_2 : decode cX12_night 2 = .ok (.lconst 0, 1) := by decide +kernel
theorem dX12_night_3 : decode cX12_night 3 = .ok (.ldc2_w 160, 3) := by decide +kernel
theorem dX12_night_6 : decode cX12_night 6 = .ok (.invokestatic 48, 3) := by decide +kernel
theorem dX12_night_9 : decode cX12_night 9 = .ok (.ifCond .ne 5, 3) := by decide +kernel
theorem dX12_night_12 : decode cX12_night 12 = .ok (.iconst (-1), 1) := by decide +kernel
theorem dX12_night_13 : decode cX12_night 13 = .ok (.ireturn, 1) := by decide +kernel
theorem dX12_night_14 : decode cX12_night 14 = .ok (.aload_n 0, 1) := by decide +kernel
theorem dX12_night_15 : decode cX12_night 15 = .ok (.getfield 19, 3) := by decide +kernel
theorem dX12_night_18 : decode cX12_night 18 = .ok (.iconst 0, 1) := by decide +kernel
theorem dX12_night_19 : decode cX12_night 19 = .ok (.iaload, 1) := by decide +kernel
theorem dX12_night_20 : decode cX12_night 20 = .ok (.sipush 999, 3) := by decide +kernel
theorem dX12_night_23 : decode cX12_night 23 = .ok (.if_icmp .ne 6, 3) := by decide +kernel
theorem dX12_night_26 : decode cX12_night 26 = .ok (.bipush (-2), 2) := by decide +kernel
theorem dX12_night_28 : decode cX12_night 28 = .ok (.ireturn, 1) := by decide +kernel
theorem dX12_night_29 : decode cX12_night 29 = .ok (.aload_n 0, 1) := by decide +kernel
theorem dX12_night_30 : decode cX12_night 30 = .ok (.invokevirtual 144, 3) := by decide +kernel
theorem dX12_night_33 : decode cX12_night 33 = .ok (.aload_n 0, 1) := by decide +kernel
theorem dX12_night_34 : decode cX12_night 34 = .ok (.iload_n 1, 1) := by decide +kernel
theorem dX12_night_35 : decode cX12_night 35 = .ok (.invokevirtual 162, 3) := by decide +kernel
theorem dX12_night_38 : decode cX12_night 38 = .ok (.ireturn, 1) := by decide +kernel
set_option maxRecDepth 20000 in
theorem ggX12_slips_X12_isPillow : GoodIn wsX12_slips wsX12_isPillow := goodIn_r _ [6, 7, 8, 9, 5, 10, 28, 29, 30, 31, 32, 33, 34, 35, 36, 37, 38, 39, 40, 41, 42, 43, 44, 45] (by decide +kernel) (by decide +kernel)
set_option maxRecDepth 20000 in
theorem gX12_slips_X12_isPillow : GoodIn wsX12_slips (wsV RX12 123 RX12 yX12_isPillow wsX12_isPillow) := goodIn_app (goodIn_of _ (by decide +kernel)) ggX12_slips_X12_isPillow
set_option maxRecDepth 20000 in
theorem ggX12_slips_X12_keepsUndo : GoodIn wsX12_slips wsX12_keepsUndo := goodIn_r _ [14, 15, 16, 1, 28, 29, 30, 31, 32, 33, 34, 35, 36, 37, 38, 39, 40, 41, 42, 43, 44, 45] (by decide +kernel) (by decide +kernel)
set_option maxRecDepth 20000 in
theorem gX12_slips_X12_keepsUndo : GoodIn wsX12_slips (wsV RX12 144 RX12 yX12_keepsUndo wsX12_keepsUndo) := goodIn_app (goodIn_of _ (by decide +kernel)) ggX12_slips_X12_keepsUndo
set_option maxRecDepth 20000 in
theorem ggX12_slips_X12_hears : GoodIn wsX12_slips wsX12_hears := goodIn_r _ [20, 21, 22, 23, 5, 24, 1, 28, 29, 30, 31, 32, 33, 34, 35, 36, 37, 38, 39, 40, 41, 42, 43, 44, 45] (by decide +kernel) (by decide +kernel)
set_option maxRecDepth 20000 in
theorem gX12_slips_X12_hears : GoodIn wsX12_slips (wsV RX12 105 RX12 yX12_hears wsX12_hears) := goodIn_app (goodIn_of _ (by decide +kernel)) ggX12_slips_X12_hears
set_option maxRecDepth 20000 in
theorem ggX12_slips_X12_many : GoodIn wsX12_slips wsX12_many := goodIn_r _ [27] (by decide +kernel) (by decide +kernel)
set_option maxRecDepth 20000 in
theorem gX12_slips_X12_many : GoodIn wsX12_slips (va_wsS RX12 134 yX12_many wsX12_many) := goodIn_app (goodIn_of _ (by decide +kernel)) ggX12_slips_X12_many
theorem dX12_slips_0 : decode cX12_slips 0 = .ok (.aload_n 0, 1) := by decide +kernel
theorem dX12_slips_1 : decode cX12_slips 1 = .ok (.iload_n 1, 1) := by decide +kernel
theorem dX12_slips_2 : decode cX12_slips 2 = .ok (.invokevirtual 123, 3) := by decide +kernel
theorem dX12_slips_5 : decode cX12_slips 5 = .ok (.ifCond .ne 5, 3) := by decide +kernel
theorem dX12_slips_8 : decode cX12_slips 8 = .ok (.iconst (-1), 1) := by decide +kernel
theorem dX12_slips_9 : decode cX12_slips 9 = .ok (.ireturn, 1) := by decide +kernel
theorem dX12_slips_10 : decode cX12_slips 10 = .ok (.aload_n 0, 1) := by decide +kernel
theorem dX12_slips_11 : decode cX12_slips 11 = .ok (.invokevirtual 144, 3) := by decide +kernel
theorem dX12_slips_14 : decode cX12_slips 14 = .ok (.aload_n 0, 1) := by decide +kernel
theorem dX12_slips_15 : decode cX12_slips 15 = .ok (.iload_n 1, 1) := by decide +kernel
theorem dX12_slips_16 : decode cX12_slips 16 = .ok (.invokevirtual 105, 3) := by decide +kernel
theorem dX12_slips_19 : decode cX12_slips 19 = .ok (.invokestatic 134, 3) := by decide +kernel
theorem dX12_slips_22 : decode cX12_slips 22 = .ok (.istore_n 2, 1) := by decide +kernel
theorem dX12_slips_23 : decode cX12_slips 23 = .ok (.iconst 0, 1) := by decide +kernel
theorem dX12_slips_24 : decode cX12_slips 24 = .ok (.istore_n 3, 1) := by decide +kernel
theorem dX12_slips_25 : decode cX12_slips 25 = .ok (.iload_n 3, 1) := by decide +kernel
theorem dX12_slips_26 : decode cX12_slips 26 = .ok (.bipush 7, 2) := by decide +kernel
theorem dX12_slips_28 : decode cX12_slips 28 = .ok (.if_icmp .ge 24, 3) := by decide +kernel
theorem dX12_slips_31 : decode cX12_slips 31 = .ok (.aload_n 0, 1) := by decide +kernel
theorem dX12_slips_32 : decode cX12_slips 32 = .ok (.getfield 19, 3) := by decide +kernel
theorem dX12_slips_35 : decode cX12_slips 35 = .ok (.bipush 8, 2) := by decide +kernel
theorem dX12_slips_37 : decode cX12_slips 37 = .ok (.bipush 7, 2) := by decide +kernel
theorem dX12_slips_39 : decode cX12_slips 39 = .ok (.iload_n 1, 1) := by decide +kernel
theorem dX12_slips_40 : decode cX12_slips 40 = .ok (.imul, 1) := by decide +kernel
theorem dX12_slips_41 : decode cX12_slips 41 = .ok (.iadd, 1) := by decide +kernel
theorem dX12_slips_42 : decode cX12_slips 42 = .ok (.iload_n 3, 1) := by decide +kernel
theorem dX12_slips_43 : decode cX12_slips 43 = .ok (.iadd, 1) := by decide +kernel
theorem dX12_slips_44 : decode cX12_slips 44 = .ok (.iconst 0, 1) := by decide +kernel
theorem dX12_slips_45 : decode cX12_slips 45 = .ok (.iastore, 1) := by decide +kernel
theorem dX12_slips_46 : decode cX12_slips 46 = .ok (.iinc 3 1, 3) := by decide +kernel
theorem dX12_slips_49 : decode cX12_slips 49 = .ok (.goto (-24), 3) := by decide +kernel
theorem dX12_slips_52 : decode cX12_slips 52 = .ok (.aload_n 0, 1) := by decide +kernel
theorem dX12_slips_53 : decode cX12_slips 53 = .ok (.getfield 19, 3) := by decide +kernel
theorem dX12_slips_56 : decode cX12_slips 56 = .ok (.iconst 1, 1) := by decide +kernel
theorem dX12_slips_57 : decode cX12_slips 57 = .ok (.dup2, 1) := by decide +kernel
theorem dX12_slips_58 : decode cX12_slips 58 = .ok (.iaload, 1) := by decide +kernel
theorem dX12_slips_59 : decode cX12_slips 59 = .ok (.iconst 1, 1) := by decide +kernel
theorem dX12_slips_60 : decode cX12_slips 60 = .ok (.iload_n 1, 1) := by decide +kernel
theorem dX12_slips_61 : decode cX12_slips 61 = .ok (.ishl, 1) := by decide +kernel
theorem dX12_slips_62 : decode cX12_slips 62 = .ok (.iconst (-1), 1) := by decide +kernel
theorem dX12_slips_63 : decode cX12_slips 63 = .ok (.ixor, 1) := by decide +kernel
theorem dX12_slips_64 : decode cX12_slips 64 = .ok (.iand, 1) := by decide +kernel
theorem dX12_slips_65 : decode cX12_slips 65 = .ok (.iastore, 1) := by decide +kernel
theorem dX12_slips_66 : decode cX12_slips 66 = .ok (.iload_n 2, 1) := by decide +kernel
theorem dX12_slips_67 : decode cX12_slips 67 = .ok (.ireturn, 1) := by decide +kernel
set_option maxRecDepth 20000 in
theorem ggX12_mixes_X12_isPillow : GoodIn wsX12_mixes wsX12_isPillow := goodIn_r _ [6, 7, 8, 9, 5, 10, 28, 29, 30, 31, 32, 33, 34, 35, 36, 37, 38, 39, 40, 41, 42, 43, 44, 45] (by decide +kernel) (by decide +kernel)
set_option maxRecDepth 20000 in
theorem gX12_mixes_X12_isPillow : GoodIn wsX12_mixes (wsV RX12 123 RX12 yX12_isPillow wsX12_isPillow) := goodIn_app (goodIn_of _ (by decide +kernel)) ggX12_mixes_X12_isPillow
set_option maxRecDepth 20000 in
theorem ggX12_mixes_X12_keepsUndo : GoodIn wsX12_mixes wsX12_keepsUndo := goodIn_r _ [14, 15, 16, 1, 28, 29, 30, 31, 32, 33, 34, 35, 36, 37, 38, 39, 40, 41, 42, 43, 44, 45] (by decide +kernel) (by decide +kernel)
set_option maxRecDepth 20000 in
theorem gX12_mixes_X12_keepsUndo : GoodIn wsX12_mixes (wsV RX12 144 RX12 yX12_keepsUndo wsX12_keepsUndo) := goodIn_app (goodIn_of _ (by decide +kernel)) ggX12_mixes_X12_keepsUndo
set_option maxRecDepth 20000 in
theorem ggX12_mixes_X12_often : GoodIn wsX12_mixes wsX12_often := goodIn_r _ [20, 1, 28, 29, 30, 31, 32, 33, 34, 35, 36, 37, 38, 39, 40, 41, 42, 43, 44, 45] (by decide +kernel) (by decide +kernel)
set_option maxRecDepth 20000 in
theorem gX12_mixes_X12_often : GoodIn wsX12_mixes (wsV RX12 101 RX12 yX12_often wsX12_often) := goodIn_app (goodIn_of _ (by decide +kernel)) ggX12_mixes_X12_often
set_option maxRecDepth 20000 in
theorem ggX12_mixes_X12_hears : GoodIn wsX12_mixes wsX12_hears := goodIn_r _ [24, 17, 18, 19, 5, 20, 1, 28, 29, 30, 31, 32, 33, 34, 35, 36, 37, 38, 39, 40, 41, 42, 43, 44, 45] (by decide +kernel) (by decide +kernel)
set_option maxRecDepth 20000 in
theorem gX12_mixes_X12_hears : GoodIn wsX12_mixes (wsV RX12 105 RX12 yX12_hears wsX12_hears) := goodIn_app (goodIn_of _ (by decide +kernel)) ggX12_mixes_X12_hears
set_option maxRecDepth 20000 in
theorem ggX12_mixes_X12_many : GoodIn wsX12_mixes wsX12_many := goodIn_r _ [27] (by decide +kernel) (by decide +kernel)
set_option maxRecDepth 20000 in
theorem gX12_mixes_X12_many : GoodIn wsX12_mixes (va_wsS RX12 134 yX12_many wsX12_many) := goodIn_app (goodIn_of _ (by decide +kernel)) ggX12_mixes_X12_many
theorem dX12_mixes_0 : decode cX12_mixes 0 = .ok (.aload_n 0, 1) := by decide +kernel
theorem dX12_mixes_1 : decode cX12_mixes 1 = .ok (.iload_n 1, 1) := by decide +kernel
theorem dX12_mixes_2 : decode cX12_mixes 2 = .ok (.invokevirtual 123, 3) := by decide +kernel
theorem dX12_mixes_5 : decode cX12_mixes 5 = .ok (.ifCond .eq 16, 3) := by decide +kernel
theorem dX12_mixes_8 : decode cX12_mixes 8 = .ok (.aload_n 0, 1) := by decide +kernel
theorem dX12_mixes_9 : decode cX12_mixes 9 = .ok (.iload_n 2, 1) := by decide +kernel
theorem dX12_mixes_10 : decode cX12_mixes 10 = .ok (.invokevirtual 123, 3) := by decide +kernel
theorem dX12_mixes_13 : decode cX12_mixes 13 = .ok (.ifCond .eq 8, 3) := by decide +kernel
theorem dX12_mixes_16 : decode cX12_mixes 16 = .ok (.iload_n 1, 1) := by decide +kernel
theorem dX12_mixes_17 : decode cX12_mixes 17 = .ok (.iload_n 2, 1) := by decide +kernel
theorem dX12_mixes_18 : decode cX12_mixes 18 = .ok (.if_icmp .ne 5, 3) := by decide +kernel
theorem dX12_mixes_21 : decode cX12_mixes 21 = .ok (.iconst (-1), 1) := by decide +kernel
theorem dX12_mixes_22 : decode cX12_mixes 22 = .ok (.ireturn, 1) := by decide +kernel
theorem dX12_mixes_23 : decode cX12_mixes 23 = .ok (.aload_n 0, 1) := by decide +kernel
theorem dX12_mixes_24 : decode cX12_mixes 24 = .ok (.invokevirtual 144, 3) := by decide +kernel
theorem dX12_mixes_27 : decode cX12_mixes 27 = .ok (.iconst 0, 1) := by decide +kernel
theorem dX12_mixes_28 : decode cX12_mixes 28 = .ok (.istore_n 3, 1) := by decide +kernel
theorem dX12_mixes_29 : decode cX12_mixes 29 = .ok (.iload_n 3, 1) := by decide +kernel
theorem dX12_mixes_30 : decode cX12_mixes 30 = .ok (.bipush 7, 2) := by decide +kernel
theorem dX12_mixes_32 : decode cX12_mixes 32 = .ok (.if_icmp .ge 72, 3) := by decide +kernel
theorem dX12_mixes_35 : decode cX12_mixes 35 = .ok (.aload_n 0, 1) := by decide +kernel
theorem dX12_mixes_36 : decode cX12_mixes 36 = .ok (.iload_n 1, 1) := by decide +kernel
theorem dX12_mixes_37 : decode cX12_mixes 37 = .ok (.iload_n 3, 1) := by decide +kernel
theorem dX12_mixes_38 : decode cX12_mixes 38 = .ok (.invokevirtual 101, 3) := by decide +kernel
theorem dX12_mixes_41 : decode cX12_mixes 41 = .ok (.aload_n 0, 1) := by decide +kernel
theorem dX12_mixes_42 : decode cX12_mixes 42 = .ok (.iload_n 2, 1) := by decide +kernel
theorem dX12_mixes_43 : decode cX12_mixes 43 = .ok (.iload_n 3, 1) := by decide +kernel
theorem dX12_mixes_44 : decode cX12_mixes 44 = .ok (.invokevirtual 101, 3) := by decide +kernel
theorem dX12_mixes_47 : decode cX12_mixes 47 = .ok (.iadd, 1) := by decide +kernel
theorem dX12_mixes_48 : decode cX12_mixes 48 = .ok (.istore 4, 2) := by decide +kernel
theorem dX12_mixes_50 : decode cX12_mixes 50 = .ok (.iload 4, 2) := by decide +kernel
theorem dX12_mixes_52 : decode cX12_mixes 52 = .ok (.bipush 99, 2) := by decide +kernel
theorem dX12_mixes_54 : decode cX12_mixes 54 = .ok (.if_icmp .le 8, 3) := by decide +kernel
theorem dX12_mixes_57 : decode cX12_mixes 57 = .ok (.bipush 99, 2) := by decide +kernel
theorem dX12_mixes_59 : decode cX12_mixes 59 = .ok (.goto 5, 3) := by decide +kernel
theorem dX12_mixes_62 : decode cX12_mixes 62 = .ok (.iload 4, 2) := by decide +kernel
theorem dX12_mixes_64 : decode cX12_mixes 64 = .ok (.istore 4, 2) := by decide +kernel
theorem dX12_mixes_66 : decode cX12_mixes 66 = .ok (.aload_n 0, 1) := by decide +kernel
theorem dX12_mixes_67 : decode cX12_mixes 67 = .ok (.getfield 19, 3) := by decide +kernel
theorem dX12_mixes_70 : decode cX12_mixes 70 = .ok (.bipush 8, 2) := by decide +kernel
theorem dX12_mixes_72 : decode cX12_mixes 72 = .ok (.bipush 7, 2) := by decide +kernel
theorem dX12_mixes_74 : decode cX12_mixes 74 = .ok (.iload_n 1, 1) := by decide +kernel
theorem dX12_mixes_75 : decode cX12_mixes 75 = .ok (.imul, 1) := by decide +kernel
theorem dX12_mixes_76 : decode cX12_mixes 76 = .ok (.iadd, 1) := by decide +kernel
theorem dX12_mixes_77 : decode cX12_mixes 77 = .ok (.iload_n 3, 1) := by decide +kernel
theorem dX12_mixes_78 : decode cX12_mixes 78 = .ok (.iadd, 1) := by decide +kernel
theorem dX12_mixes_79 : decode cX12_mixes 79 = .ok (.iload 4, 2) := by decide +kernel
theorem dX12_mixes_81 : decode cX12_mixes 81 = .ok (.iastore, 1) := by decide +kernel
theorem dX12_mixes_82 : decode cX12_mixes 82 = .ok (.aload_n 0, 1) := by decide +kernel
theorem dX12_mixes_83 : decode cX12_mixes 83 = .ok (.getfield 19, 3) := by decide +kernel
theorem dX12_mixes_86 : decode cX12_mixes 86 = .ok (.bipush 8, 2) := by decide +kernel
theorem dX12_mixes_88 : decode cX12_mixes 88 = .ok (.bipush 7, 2) := by decide +kernel
theorem dX12_mixes_90 : decode cX12_mixes 90 = .ok (.iload_n 2, 1) := by decide +kernel
theorem dX12_mixes_91 : decode cX12_mixes 91 = .ok (.imul, 1) := by decide +kernel
theorem dX12_mixes_92 : decode cX12_mixes 92 = .ok (.iadd, 1) := by decide +kernel
theorem dX12_mixes_93 : decode cX12_mixes 93 = .ok (.iload_n 3, 1) := by decide +kernel
theorem dX12_mixes_94 : decode cX12_mixes 94 = .ok (.iadd, 1) := by decide +kernel
theorem dX12_mixes_95 : decode cX12_mixes 95 = .ok (.iload 4, 2) := by decide +kernel
theorem dX12_mixes_97 : decode cX12_mixes 97 = .ok (.iastore, 1) := by decide +kernel
theorem dX12_mixes_98 : decode cX12_mixes 98 = .ok (.iinc 3 1, 3) := by decide +kernel
theorem dX12_mixes_101 : decode cX12_mixes 101 = .ok (.goto (-72), 3) := by decide +kernel
theorem dX12_mixes_104 : decode cX12_mixes 104 = .ok (.aload_n 0, 1) := by decide +kernel
theorem dX12_mixes_105 : decode cX12_mixes 105 = .ok (.iload_n 1, 1) := by decide +kernel
theorem dX12_mixes_106 : decode cX12_mixes 106 = .ok (.invokevirtual 105, 3) := by decide +kernel
theorem dX12_mixes_109 : decode cX12_mixes 109 = .ok (.invokestatic 134, 3) := by decide +kernel
theorem dX12_mixes_112 : decode cX12_mixes 112 = .ok (.ireturn, 1) := by decide +kernel
set_option maxRecDepth 20000 in
theorem ggX12_examines_X12_isPillow : GoodIn wsX12_examines wsX12_isPillow := goodIn_r _ [6, 7, 8, 9, 5, 10, 32, 33, 34, 35, 36, 37, 38, 39, 40, 41, 42, 43, 44, 45, 46, 47, 48, 49] (by decide +kernel) (by decide +kernel)
set_option maxRecDepth 20000 in
theorem gX12_examines_X12_isPillow : GoodIn wsX12_examines (wsV RX12 123 RX12 yX12_isPillow wsX12_isPillow) := goodIn_app (goodIn_of _ (by decide +kernel)) ggX12_examines_X12_isPillow
set_option maxRecDepth 20000 in
theorem ggX12_examines_X12_keepsUndo : GoodIn wsX12_examines wsX12_keepsUndo := goodIn_r _ [14, 15, 16, 1, 32, 33, 34, 35, 36, 37, 38, 39, 40, 41, 42, 43, 44, 45, 46, 47, 48, 49] (by decide +kernel) (by decide +kernel)
set_option maxRecDepth 20000 in
theorem gX12_examines_X12_keepsUndo : GoodIn wsX12_examines (wsV RX12 144 RX12 yX12_keepsUndo wsX12_keepsUndo) := goodIn_app (goodIn_of _ (by decide +kernel)) ggX12_examines_X12_keepsUndo
set_option maxRecDepth 20000 in
theorem ggX12_examines_X12_hear : GoodIn wsX12_examines wsX12_hear := goodIn_r _ [20, 7, 21, 22, 23, 5, 24, 25, 26, 27, 28, 1, 32, 33, 34, 35, 36, 37, 38, 39, 40, 41, 42, 43, 44, 45, 46, 47, 48, 49] (by decide +kernel) (by decide +kernel)
set_option maxRecDepth 20000 in
theorem gX12_examines_X12_hear : GoodIn wsX12_examines (wsV RX12 131 RX12 yX12_hear wsX12_hear) := goodIn_app (goodIn_of _ (by decide +kernel)) ggX12_examines_X12_hear
set_option maxRecDepth 20000 in
theorem ggX12_examines_X12_hears : GoodIn wsX12_examines wsX12_hears := goodIn_r _ [24, 25, 26, 27, 5, 28, 1, 32, 33, 34, 35, 36, 37, 38, 39, 40, 41, 42, 43, 44, 45, 46, 47, 48, 49] (by decide +kernel) (by decide +kernel)
set_option maxRecDepth 20000 in
theorem gX12_examines_X12_hears : GoodIn wsX12_examines (wsV RX12 105 RX12 yX12_hears wsX12_hears) := goodIn_app (goodIn_of _ (by decide +kernel)) ggX12_examines_X12_hears
set_option maxRecDepth 20000 in
theorem ggX12_examines_X12_many : GoodIn wsX12_examines wsX12_many := goodIn_r _ [31] (by decide +kernel) (by decide +kernel)
set_option maxRecDepth 20000 in
theorem gX12_examines_X12_many : GoodIn wsX12_examines (va_wsS RX12 134 yX12_many wsX12_many) := goodIn_app (goodIn_of _ (by decide +kernel)) ggX12_examines_X12_many
theorem dX12_examines_0 : decode cX12_examines 0 = .ok (.aload_n 0, 1) := by decide +kernel
theorem dX12_examines_1 : decode cX12_examines 1 = .ok (.iload_n 1, 1) := by decide +kernel
theorem dX12_examines_2 : decode cX12_examines 2 = .ok (.invokevirtual 123, 3) := by decide +kernel
theorem dX12_examines_5 : decode cX12_examines 5 = .ok (.ifCond .ne 5, 3) := by decide +kernel
theorem dX12_examines_8 : decode cX12_examines 8 = .ok (.iconst (-1), 1) := by decide +kernel
theorem dX12_examines_9 : decode cX12_examines 9 = .ok (.ireturn, 1) := by decide +kernel
theorem dX12_examines_10 : decode cX12_examines 10 = .ok (.aload_n 0, 1) := by decide +kernel
theorem dX12_examines_11 : decode cX12_examines 11 = .ok (.getfield 19, 3) := by decide +kernel
theorem dX12_examines_14 : decode cX12_examines 14 = .ok (.iconst 1, 1) := by decide +kernel
theorem dX12_examines_15 : decode cX12_examines 15 = .ok (.iaload, 1) := by decide +kernel
theorem dX12_examines_16 : decode cX12_examines 16 = .ok (.iload_n 1, 1) := by decide +kernel
theorem dX12_examines_17 : decode cX12_examines 17 = .ok (.ishr, 1) := by decide +kernel
theorem dX12_examines_18 : decode cX12_examines 18 = .ok (.iconst 1, 1) := by decide +kernel
theorem dX12_examines_19 : decode cX12_examines 19 = .ok (.iand, 1) := by decide +kernel
theorem dX12_examines_20 : decode cX12_examines 20 = .ok (.iconst 1, 1) := by decide +kernel
theorem dX12_examines_21 : decode cX12_examines 21 = .ok (.if_icmp .ne 6, 3) := by decide +kernel
theorem dX12_examines_24 : decode cX12_examines 24 = .ok (.bipush (-2), 2) := by decide +kernel
theorem dX12_examines_26 : decode cX12_examines 26 = .ok (.ireturn, 1) := by decide +kernel
theorem dX12_examines_27 : decode cX12_examines 27 = .ok (.aload_n 0, 1) := by decide +kernel
theorem dX12_examines_28 : decode cX12_examines 28 = .ok (.invokevirtual 144, 3) := by decide +kernel
theorem dX12_examines_31 : decode cX12_examines 31 = .ok (.aload_n 0, 1) := by decide +kernel
theorem dX12_examines_32 : decode cX12_examines 32 = .ok (.aload_n 0, 1) := by decide +kernel
theorem dX12_examines_33 : decode cX12_examines 33 = .ok (.getfield 19, 3) := by decide +kernel
theorem dX12_examines_36 : decode cX12_examines 36 = .ok (.iconst 1, 1) := by decide +kernel
theorem dX12_examines_37 : decode cX12_examines 37 = .ok (.iaload, 1) := by decide +kernel
theorem dX12_examines_38 : decode cX12_examines 38 = .ok (.invokevirtual 131, 3) := by decide +kernel
theorem dX12_examines_41 : decode cX12_examines 41 = .ok (.istore_n 2, 1) := by decide +kernel
theorem dX12_examines_42 : decode cX12_examines 42 = .ok (.aload_n 0, 1) := by decide +kernel
theorem dX12_examines_43 : decode cX12_examines 43 = .ok (.getfield 19, 3) := by decide +kernel
theorem dX12_examines_46 : decode cX12_examines 46 = .ok (.iconst 1, 1) := by decide +kernel
theorem dX12_examines_47 : decode cX12_examines 47 = .ok (.dup2, 1) := by decide +kernel
theorem dX12_examines_48 : decode cX12_examines 48 = .ok (.iaload, 1) := by decide +kernel
theorem dX12_examines_49 : decode cX12_examines 49 = .ok (.iconst 1, 1) := by decide +kernel
theorem dX12_examines_50 : decode cX12_examines 50 = .ok (.iload_n 1, 1) := by decide +kernel
theorem dX12_examines_51 : decode cX12_examines 51 = .ok (.ishl, 1) := by decide +kernel
theorem dX12_examines_52 : decode cX12_examines 52 = .ok (.ior, 1) := by decide +kernel
theorem dX12_examines_53 : decode cX12_examines 53 = .ok (.iastore, 1) := by decide +kernel
theorem dX12_examines_54 : decode cX12_examines 54 = .ok (.aload_n 0, 1) := by decide +kernel
theorem dX12_examines_55 : decode cX12_examines 55 = .ok (.iload_n 1, 1) := by decide +kernel
theorem dX12_examines_56 : decode cX12_examines 56 = .ok (.invokevirtual 105, 3) := by decide +kernel
theorem dX12_examines_59 : decode cX12_examines 59 = .ok (.iload_n 2, 1) := by decide +kernel
theorem dX12_examines_60 : decode cX12_examines 60 = .ok (.iconst (-1), 1) := by decide +kernel
theorem dX12_examines_61 : decode cX12_examines 61 = .ok (.ixor, 1) := by decide +kernel
theorem dX12_examines_62 : decode cX12_examines 62 = .ok (.iand, 1) := by decide +kernel
theorem dX12_examines_63 : decode cX12_examines 63 = .ok (.invokestatic 134, 3) := by decide +kernel
theorem dX12_examines_66 : decode cX12_examines 66 = .ok (.ireturn, 1) := by decide +kernel
theorem dX12_undo_0 : decode cX12_undo 0 = .ok (.aload_n 0, 1) := by decide +kernel
theorem dX12_undo_1 : decode cX12_undo 1 = .ok (.getfield 96, 3) := by decide +kernel
theorem dX12_undo_4 : decode cX12_undo 4 = .ok (.ifCond .ne 6, 3) := by decide +kernel
theorem dX12_undo_7 : decode cX12_undo 7 = .ok (.bipush (-2), 2) := by decide +kernel
theorem dX12_undo_9 : decode cX12_undo 9 = .ok (.ireturn, 1) := by decide +kernel
theorem dX12_undo_10 : decode cX12_undo 10 = .ok (.aload_n 0, 1) := by decide +kernel
theorem dX12_undo_11 : decode cX12_undo 11 = .ok (.dup, 1) := by decide +kernel
theorem dX12_undo_12 : decode cX12_undo 12 = .ok (.getfield 96, 3) := by decide +kernel
theorem dX12_undo_15 : decode cX12_undo 15 = .ok (.iconst 1, 1) := by decide +kernel
theorem dX12_undo_16 : decode cX12_undo 16 = .ok (.isub, 1) := by decide +kernel
theorem dX12_undo_17 : decode cX12_undo 17 = .ok (.putfield 96, 3) := by decide +kernel
theorem dX12_undo_20 : decode cX12_undo 20 = .ok (.iconst 0, 1) := by decide +kernel
theorem dX12_undo_21 : decode cX12_undo 21 = .ok (.istore_n 1, 1) := by decide +kernel
theorem dX12_undo_22 : decode cX12_undo 22 = .ok (.iload_n 1, 1) := by decide +kernel
theorem dX12_undo_23 : decode cX12_undo 23 = .ok (.bipush 50, 2) := by decide +kernel
theorem dX12_undo_25 : decode cX12_undo 25 = .ok (.if_icmp .ge 29, 3) := by decide +kernel
theorem dX12_undo_28 : decode cX12_undo 28 = .ok (.aload_n 0, 1) := by decide +kernel
theorem dX12_undo_29 : decode cX12_undo 29 = .ok (.getfield 19, 3) := by decide +kernel
theorem dX12_undo_32 : decode cX12_undo 32 = .ok (.iload_n 1, 1) := by decide +kernel
theorem dX12_undo_33 : decode cX12_undo 33 = .ok (.aload_n 0, 1) := by decide +kernel
theorem dX12_undo_34 : decode cX12_undo 34 = .ok (.getfield 22, 3) := by decide +kernel
theorem dX12_undo_37 : decode cX12_undo 37 = .ok (.bipush 50, 2) := by decide +kernel
theorem dX12_undo_39 : decode cX12_undo 39 = .ok (.aload_n 0, 1) := by decide +kernel
theorem dX12_undo_40 : decode cX12_undo 40 = .ok (.getfield 96, 3) := by decide +kernel
theorem dX12_undo_43 : decode cX12_undo 43 = .ok (.imul, 1) := by decide +kernel
theorem dX12_undo_44 : decode cX12_undo 44 = .ok (.iload_n 1, 1) := by decide +kernel
theorem dX12_undo_45 : decode cX12_undo 45 = .ok (.iadd, 1) := by decide +kernel
theorem dX12_undo_46 : decode cX12_undo 46 = .ok (.iaload, 1) := by decide +kernel
theorem dX12_undo_47 : decode cX12_undo 47 = .ok (.iastore, 1) := by decide +kernel
theorem dX12_undo_48 : decode cX12_undo 48 = .ok (.iinc 1 1, 3) := by decide +kernel
theorem dX12_undo_51 : decode cX12_undo 51 = .ok (.goto (-29), 3) := by decide +kernel
theorem dX12_undo_54 : decode cX12_undo 54 = .ok (.aload_n 0, 1) := by decide +kernel
theorem dX12_undo_55 : decode cX12_undo 55 = .ok (.getfield 96, 3) := by decide +kernel
theorem dX12_undo_58 : decode cX12_undo 58 = .ok (.ireturn, 1) := by decide +kernel
set_option maxRecDepth 20000 in
theorem ggX12_whose_X12_isPillow : GoodIn wsX12_whose wsX12_isPillow := goodIn_r _ [6, 1, 7, 8, 5, 9, 26, 27, 28, 29, 30, 31, 32, 33, 34, 35, 36, 37, 38, 39, 40, 41, 42, 43] (by decide +kernel) (by decide +kernel)
set_option maxRecDepth 20000 in
theorem gX12_whose_X12_isPillow : GoodIn wsX12_whose (wsV RX12 123 RX12 yX12_isPillow wsX12_isPillow) := goodIn_app (goodIn_of _ (by decide +kernel)) ggX12_whose_X12_isPillow
set_option maxRecDepth 20000 in
theorem ggX12_whose_X12_in : GoodIn wsX12_whose wsX12_in := goodIn_r _ [9] (by decide +kernel) (by decide +kernel)
set_option maxRecDepth 20000 in
theorem gX12_whose_X12_in : GoodIn wsX12_whose (va_wsS RX12 48 yX12_in wsX12_in) := goodIn_app (goodIn_of _ (by decide +kernel)) ggX12_whose_X12_in
set_option maxRecDepth 20000 in
theorem ggX12_whose_X12_hears : GoodIn wsX12_whose wsX12_hears := goodIn_r _ [13, 14, 15, 16, 5, 17, 18, 26, 27, 28, 29, 30, 31, 32, 33, 34, 35, 36, 37, 38, 39, 40, 41, 42, 43] (by decide +kernel) (by decide +kernel)
set_option maxRecDepth 20000 in
theorem gX12_whose_X12_hears : GoodIn wsX12_whose (wsV RX12 105 RX12 yX12_hears wsX12_hears) := goodIn_app (goodIn_of _ (by decide +kernel)) ggX12_whose_X12_hears
set_option maxRecDepth 20000 in
theorem ggX12_whose_X12_knows : GoodIn wsX12_whose wsX12_knows := goodIn_r _ [22, 1, 26, 27, 28, 29, 30, 31, 32, 33, 34, 35, 36, 37, 38, 39, 40, 41, 42, 43] (by decide +kernel) (by decide +kernel)
set_option maxRecDepth 20000 in
theorem gX12_whose_X12_knows : GoodIn wsX12_whose (wsV RX12 109 RX12 yX12_knows wsX12_knows) := goodIn_app (goodIn_of _ (by decide +kernel)) ggX12_whose_X12_knows
set_option maxRecDepth 20000 in
theorem ggX12_whose_X12_many : GoodIn wsX12_whose wsX12_many := goodIn_r _ [25] (by decide +kernel) (by decide +kernel)
set_option maxRecDepth 20000 in
theorem gX12_whose_X12_many : GoodIn wsX12_whose (va_wsS RX12 134 yX12_many wsX12_many) := goodIn_app (goodIn_of _ (by decide +kernel)) ggX12_whose_X12_many
theorem dX12_whose_0 : decode cX12_whose 0 = .ok (.aload_n 0, 1) := by decide +kernel
theorem dX12_whose_1 : decode cX12_whose 1 = .ok (.iload_n 1, 1) := by decide +kernel
theorem dX12_whose_2 : decode cX12_whose 2 = .ok (.invokevirtual 123, 3) := by decide +kernel
theorem dX12_whose_5 : decode cX12_whose 5 = .ok (.ifCond .eq 13, 3) := by decide +kernel
theorem dX12_whose_8 : decode cX12_whose 8 = .ok (.iload_n 2, 1) := by decide +kernel
theorem dX12_whose_9 : decode cX12_whose 9 = .ok (.i2l, 1) := by decide +kernel
theorem dX12_whose_10 : decode cX12_whose 10 = .ok (.lconst 0, 1) := by decide +kernel
theorem dX12_whose_11 : decode cX12_whose 11 = .ok (.lconst 1, 1) := by decide +kernel
theorem dX12_whose_12 : decode cX12_whose 12 = .ok (.invokestatic 48, 3) := by decide +kernel
theorem dX12_whose_15 : decode cX12_whose 15 = .ok (.ifCond .ne 5, 3) := by decide +kernel
theorem dX12_whose_18 : decode cX12_whose 18 = .ok (.iconst (-1), 1) := by decide +kernel
theorem dX12_whose_19 : decode cX12_whose 19 = .ok (.ireturn, 1) := by decide +kernel
theorem dX12_whose_20 : decode cX12_whose 20 = .ok (.aload_n 0, 1) := by decide +kernel
theorem dX12_whose_21 : decode cX12_whose 21 = .ok (.iload_n 1, 1) := by decide +kernel
theorem dX12_whose_22 : decode cX12_whose 22 = .ok (.invokevirtual 105, 3) := by decide +kernel
theorem dX12_whose_25 : decode cX12_whose 25 = .ok (.istore_n 3, 1) := by decide +kernel
theorem dX12_whose_26 : decode cX12_whose 26 = .ok (.iconst 0, 1) := by decide +kernel
theorem dX12_whose_27 : decode cX12_whose 27 = .ok (.istore 4, 2) := by decide +kernel
theorem dX12_whose_29 : decode cX12_whose 29 = .ok (.bipush (-9), 2) := by decide +kernel
theorem dX12_whose_31 : decode cX12_whose 31 = .ok (.istore 5, 2) := by decide +kernel
theorem dX12_whose_33 : decode cX12_whose 33 = .ok (.iconst 0, 1) := by decide +kernel
theorem dX12_whose_34 : decode cX12_whose 34 = .ok (.istore 6, 2) := by decide +kernel
theorem dX12_whose_36 : decode cX12_whose 36 = .ok (.iload 6, 2) := by decide +kernel
theorem dX12_whose_38 : decode cX12_whose 38 = .ok (.iconst 1, 1) := by decide +kernel
theorem dX12_whose_39 : decode cX12_whose 39 = .ok (.aload_n 0, 1) := by decide +kernel
theorem dX12_whose_40 : decode cX12_whose 40 = .ok (.getfield 16, 3) := by decide +kernel
theorem dX12_whose_43 : decode cX12_whose 43 = .ok (.iconst 0, 1) := by decide +kernel
theorem dX12_whose_44 : decode cX12_whose 44 = .ok (.iaload, 1) := by decide +kernel
theorem dX12_whose_45 : decode cX12_whose 45 = .ok (.ishl, 1) := by decide +kernel
theorem dX12_whose_46 : decode cX12_whose 46 = .ok (.if_icmp .ge 99, 3) := by decide +kernel
theorem dX12_whose_49 : decode cX12_whose 49 = .ok (.iconst 0, 1) := by decide +kernel
theorem dX12_whose_50 : decode cX12_whose 50 = .ok (.istore 7, 2) := by decide +kernel
theorem dX12_whose_52 : decode cX12_whose 52 = .ok (.iconst 0, 1) := by decide +kernel
theorem dX12_whose_53 : decode cX12_whose 53 = .ok (.istore 8, 2) := by decide +kernel
theorem dX12_whose_55 : decode cX12_whose 55 = .ok (.iload 8, 2) := by decide +kernel
theorem dX12_whose_57 : decode cX12_whose 57 = .ok (.aload_n 0, 1) := by decide +kernel
theorem dX12_whose_58 : decode cX12_whose 58 = .ok (.getfield 16, 3) := by decide +kernel
theorem dX12_whose_61 : decode cX12_whose 61 = .ok (.iconst 0, 1) := by decide +kernel
theorem dX12_whose_62 : decode cX12_whose 62 = .ok (.iaload, 1) := by decide +kernel
theorem dX12_whose_63 : decode cX12_whose 63 = .ok (.if_icmp .ge 35, 3) := by decide +kernel
theorem dX12_whose_66 : decode cX12_whose 66 = .ok (.iload 7, 2) := by decide +kernel
theorem dX12_whose_68 : decode cX12_whose 68 = .ok (.iload 6, 2) := by decide +kernel
theorem dX12_whose_70 : decode cX12_whose 70 = .ok (.iload 8, 2) := by decide +kernel
theorem dX12_whose_72 : decode cX12_whose 72 = .ok (.ishr, 1) := by decide +kernel
theorem dX12_whose_73 : decode cX12_whose 73 = .ok (.iconst 1, 1) := by decide +kernel
theorem dX12_whose_74 : decode cX12_whose 74 = .ok (.iand, 1) := by decide +kernel
theorem dX12_whose_75 : decode cX12_whose 75 = .ok (.iconst 1, 1) := by decide +kernel
theorem dX12_whose_76 : decode cX12_whose 76 = .ok (.if_icmp .ne 12, 3) := by decide +kernel
theorem dX12_whose_79 : decode cX12_whose 79 = .ok (.aload_n 0, 1) := by decide +kernel
theorem dX12_whose_80 : decode cX12_whose 80 = .ok (.iload 8, 2) := by decide +kernel
theorem dX12_whose_82 : decode cX12_whose 82 = .ok (.invokevirtual 109, 3) := by decide +kernel
theorem dX12_whose_85 : decode cX12_whose 85 = .ok (.goto 4, 3) := by decide +kernel
theorem dX12_whose_88 : decode cX12_whose 88 = .ok (.iconst 0, 1) := by decide +kernel
theorem dX12_whose_89 : decode cX12_whose 89 = .ok (.ior, 1) := by decide +kernel
theorem dX12_whose_90 : decode cX12_whose 90 = .ok (.istore 7, 2) := by decide +kernel
theorem dX12_whose_92 : decode cX12_whose 92 = .ok (.iinc 8 1, 3) := by decide +kernel
theorem dX12_whose_95 : decode cX12_whose 95 = .ok (.goto (-40), 3) := by decide +kernel
theorem dX12_whose_98 : decode cX12_whose 98 = .ok (.iload_n 3, 1) := by decide +kernel
theorem dX12_whose_99 : decode cX12_whose 99 = .ok (.iload 7, 2) := by decide +kernel
theorem dX12_whose_101 : decode cX12_whose 101 = .ok (.iconst (-1), 1) := by decide +kernel
theorem dX12_whose_102 : decode cX12_whose 102 = .ok (.ixor, 1) := by decide +kernel
theorem dX12_whose_103 : decode cX12_whose 103 = .ok (.iand, 1) := by decide +kernel
theorem dX12_whose_104 : decode cX12_whose 104 = .ok (.ifCond .ne 35, 3) := by decide +kernel
theorem dX12_whose_107 : decode cX12_whose 107 = .ok (.iinc 4 1, 3) := by decide +kernel
theorem dX12_whose_110 : decode cX12_whose 110 = .ok (.iload 5, 2) := by decide +kernel
theorem dX12_whose_112 : decode cX12_whose 112 = .ok (.bipush (-9), 2) := by decide +kernel
theorem dX12_whose_114 : decode cX12_whose 114 = .ok (.if_icmp .eq 16, 3) := by decide +kernel
theorem dX12_whose_117 : decode cX12_whose 117 = .ok (.iload 6, 2) := by decide +kernel
theorem dX12_whose_119 : decode cX12_whose 119 = .ok (.invokestatic 134, 3) := by decide +kernel
theorem dX12_whose_122 : decode cX12_whose 122 = .ok (.iload 5, 2) := by decide +kernel
theorem dX12_whose_124 : decode cX12_whose 124 = .ok (.invokestatic 134, 3) := by decide +kernel
theorem dX12_whose_127 : decode cX12_whose 127 = .ok (.if_icmp .ge 8, 3) := by decide +kernel
theorem dX12_whose_130 : decode cX12_whose 130 = .ok (.iload 6, 2) := by decide +kernel
theorem dX12_whose_132 : decode cX12_whose 132 = .ok (.goto 5, 3) := by decide +kernel
theorem dX12_whose_135 : decode cX12_whose 135 = .ok (.iload 5, 2) := by decide +kernel
theorem dX12_whose_137 : decode cX12_whose 137 = .ok (.istore 5, 2) := by decide +kernel
theorem dX12_whose_139 : decode cX12_whose 139 = .ok (.iinc 6 1, 3) := by decide +kernel
theorem dX12_whose_142 : decode cX12_whose 142 = .ok (.goto (-106), 3) := by decide +kernel
theorem dX12_whose_145 : decode cX12_whose 145 = .ok (.iload_n 2, 1) := by decide +kernel
theorem dX12_whose_146 : decode cX12_whose 146 = .ok (.ifCond .ne 8, 3) := by decide +kernel
theorem dX12_whose_149 : decode cX12_whose 149 = .ok (.iload 4, 2) := by decide +kernel
theorem dX12_whose_151 : decode cX12_whose 151 = .ok (.goto 5, 3) := by decide +kernel
theorem dX12_whose_154 : decode cX12_whose 154 = .ok (.iload 5, 2) := by decide +kernel
theorem dX12_whose_156 : decode cX12_whose 156 = .ok (.ireturn, 1) := by decide +kernel
set_option maxRecDepth 20000 in
theorem ggX12_so_X12_in : GoodIn wsX12_so wsX12_in := goodIn_r _ [5] (by decide +kernel) (by decide +kernel)
set_option maxRecDepth 20000 in
theorem gX12_so_X12_in : GoodIn wsX12_so (va_wsS RX12 48 yX12_in wsX12_in) := goodIn_app (goodIn_of _ (by decide +kernel)) ggX12_so_X12_in
set_option maxRecDepth 20000 in
theorem ggX12_so_X12_often : GoodIn wsX12_so wsX12_often := goodIn_r _ [9, 10, 11, 12, 13, 14, 15, 16, 17, 18, 19, 20, 21, 22, 23, 24, 25, 26, 27, 28] (by decide +kernel) (by decide +kernel)
set_option maxRecDepth 20000 in
theorem gX12_so_X12_often : GoodIn wsX12_so (wsV RX12 101 RX12 yX12_often wsX12_often) := goodIn_app (goodIn_of _ (by decide +kernel)) ggX12_so_X12_often
theorem dX12_so_0 : decode cX12_so 0 = .ok (.iload_n 1, 1) := by decide +kernel
theorem dX12_so_1 : decode cX12_so 1 = .ok (.i2l, 1) := by decide +kernel
theorem dX12_so_2 : decode cX12_so 2 = .ok (.lconst 0, 1) := by decide +kernel
theorem dX12_so_3 : decode cX12_so 3 = .ok (.lconst 1, 1) := by decide +kernel
theorem dX12_so_4 : decode cX12_so 4 = .ok (.invokestatic 48, 3) := by decide +kernel
theorem dX12_so_7 : decode cX12_so 7 = .ok (.ifCond .ne 5, 3) := by decide +kernel
theorem dX12_so_10 : decode cX12_so 10 = .ok (.iconst (-1), 1) := by decide +kernel
theorem dX12_so_11 : decode cX12_so 11 = .ok (.ireturn, 1) := by decide +kernel
theorem dX12_so_12 : decode cX12_so 12 = .ok (.iconst 0, 1) := by decide +kernel
theorem dX12_so_13 : decode cX12_so 13 = .ok (.istore_n 2, 1) := by decide +kernel
theorem dX12_so_14 : decode cX12_so 14 = .ok (.iconst (-1), 1) := by decide +kernel
theorem dX12_so_15 : decode cX12_so 15 = .ok (.istore_n 3, 1) := by decide +kernel
theorem dX12_so_16 : decode cX12_so 16 = .ok (.iconst 0, 1) := by decide +kernel
theorem dX12_so_17 : decode cX12_so 17 = .ok (.istore 4, 2) := by decide +kernel
theorem dX12_so_19 : decode cX12_so 19 = .ok (.iload 4, 2) := by decide +kernel
theorem dX12_so_21 : decode cX12_so 21 = .ok (.sipush 128, 3) := by decide +kernel
theorem dX12_so_24 : decode cX12_so 24 = .ok (.if_icmp .ge 150, 3) := by decide +kernel
theorem dX12_so_27 : decode cX12_so 27 = .ok (.iconst 0, 1) := by decide +kernel
theorem dX12_so_28 : decode cX12_so 28 = .ok (.istore 5, 2) := by decide +kernel
theorem dX12_so_30 : decode cX12_so 30 = .ok (.iconst 0, 1) := by decide +kernel
theorem dX12_so_31 : decode cX12_so 31 = .ok (.istore 6, 2) := by decide +kernel
theorem dX12_so_33 : decode cX12_so 33 = .ok (.iconst 0, 1) := by decide +kernel
theorem dX12_so_34 : decode cX12_so 34 = .ok (.istore 7, 2) := by decide +kernel
theorem dX12_so_36 : decode cX12_so 36 = .ok (.iload 7, 2) := by decide +kernel
theorem dX12_so_38 : decode cX12_so 38 = .ok (.bipush 7, 2) := by decide +kernel
theorem dX12_so_40 : decode cX12_so 40 = .ok (.if_icmp .ge 83, 3) := by decide +kernel
theorem dX12_so_43 : decode cX12_so 43 = .ok (.iload 5, 2) := by decide +kernel
theorem dX12_so_45 : decode cX12_so 45 = .ok (.iload 4, 2) := by decide +kernel
theorem dX12_so_47 : decode cX12_so 47 = .ok (.iload 7, 2) := by decide +kernel
theorem dX12_so_49 : decode cX12_so 49 = .ok (.ishr, 1) := by decide +kernel
theorem dX12_so_50 : decode cX12_so 50 = .ok (.iconst 1, 1) := by decide +kernel
theorem dX12_so_51 : decode cX12_so 51 = .ok (.iand, 1) := by decide +kernel
theorem dX12_so_52 : decode cX12_so 52 = .ok (.iconst 1, 1) := by decide +kernel
theorem dX12_so_53 : decode cX12_so 53 = .ok (.if_icmp .ne 16, 3) := by decide +kernel
theorem dX12_so_56 : decode cX12_so 56 = .ok (.aload_n 0, 1) := by decide +kernel
theorem dX12_so_57 : decode cX12_so 57 = .ok (.getfield 16, 3) := by decide +kernel
theorem dX12_so_60 : decode cX12_so 60 = .ok (.bipush 14, 2) := by decide +kernel
theorem dX12_so_62 : decode cX12_so 62 = .ok (.iload 7, 2) := by decide +kernel
theorem dX12_so_64 : decode cX12_so 64 = .ok (.iadd, 1) := by decide +kernel
theorem dX12_so_65 : decode cX12_so 65 = .ok (.iaload, 1) := by decide +kernel
theorem dX12_so_66 : decode cX12_so 66 = .ok (.goto 4, 3) := by decide +kernel
theorem dX12_so_69 : decode cX12_so 69 = .ok (.iconst 0, 1) := by decide +kernel
theorem dX12_so_70 : decode cX12_so 70 = .ok (.ior, 1) := by decide +kernel
theorem dX12_so_71 : decode cX12_so 71 = .ok (.istore 5, 2) := by decide +kernel
theorem dX12_so_73 : decode cX12_so 73 = .ok (.iconst 0, 1) := by decide +kernel
theorem dX12_so_74 : decode cX12_so 74 = .ok (.istore 8, 2) := by decide +kernel
theorem dX12_so_76 : decode cX12_so 76 = .ok (.iload 8, 2) := by decide +kernel
theorem dX12_so_78 : decode cX12_so 78 = .ok (.aload_n 0, 1) := by decide +kernel
theorem dX12_so_79 : decode cX12_so 79 = .ok (.getfield 16, 3) := by decide +kernel
theorem dX12_so_82 : decode cX12_so 82 = .ok (.iconst 1, 1) := by decide +kernel
theorem dX12_so_83 : decode cX12_so 83 = .ok (.iaload, 1) := by decide +kernel
theorem dX12_so_84 : decode cX12_so 84 = .ok (.if_icmp .ge 33, 3) := by decide +kernel
theorem dX12_so_87 : decode cX12_so 87 = .ok (.iload 4, 2) := by decide +kernel
theorem dX12_so_89 : decode cX12_so 89 = .ok (.iload 7, 2) := by decide +kernel
theorem dX12_so_91 : decode cX12_so 91 = .ok (.ishr, 1) := by decide +kernel
theorem dX12_so_92 : decode cX12_so 92 = .ok (.iconst 1, 1) := by decide +kernel
theorem dX12_so_93 : decode cX12_so 93 = .ok (.iand, 1) := by decide +kernel
theorem dX12_so_94 : decode cX12_so 94 = .ok (.iconst 1, 1) := by decide +kernel
theorem dX12_so_95 : decode cX12_so 95 = .ok (.if_icmp .ne 22, 3) := by decide +kernel
theorem dX12_so_98 : decode cX12_so 98 = .ok (.iload 6, 2) := by decide +kernel
theorem dX12_so_100 : decode cX12_so 100 = .ok (.aload_n 0, 1) := by decide +kernel
theorem dX12_so_101 : decode cX12_so 101 = .ok (.iload 8, 2) := by decide +kernel
theorem dX12_so_103 : decode cX12_so 103 = .ok (.iload 7, 2) := by decide +kernel
theorem dX12_so_105 : decode cX12_so 105 = .ok (.invokevirtual 101, 3) := by decide +kernel
theorem dX12_so_108 : decode cX12_so 108 = .ok (.iadd, 1) := by decide +kernel
theorem dX12_so_109 : decode cX12_so 109 = .ok (.istore 6, 2) := by decide +kernel
theorem dX12_so_111 : decode cX12_so 111 = .ok (.iinc 8 1, 3) := by decide +kernel
theorem dX12_so_114 : decode cX12_so 114 = .ok (.goto (-38), 3) := by decide +kernel
theorem dX12_so_117 : decode cX12_so 117 = .ok (.iinc 7 1, 3) := by decide +kernel
theorem dX12_so_120 : decode cX12_so 120 = .ok (.goto (-84), 3) := by decide +kernel
theorem dX12_so_123 : decode cX12_so 123 = .ok (.iload 5, 2) := by decide +kernel
theorem dX12_so_125 : decode cX12_so 125 = .ok (.iload 4, 2) := by decide +kernel
theorem dX12_so_127 : decode cX12_so 127 = .ok (.iand, 1) := by decide +kernel
theorem dX12_so_128 : decode cX12_so 128 = .ok (.ifCond .ne 13, 3) := by decide +kernel
theorem dX12_so_131 : decode cX12_so 131 = .ok (.iload 6, 2) := by decide +kernel
theorem dX12_so_133 : decode cX12_so 133 = .ok (.iload_n 3, 1) := by decide +kernel
theorem dX12_so_134 : decode cX12_so 134 = .ok (.if_icmp .le 7, 3) := by decide +kernel
theorem dX12_so_137 : decode cX12_so 137 = .ok (.iconst 1, 1) := by decide +kernel
theorem dX12_so_138 : decode cX12_so 138 = .ok (.goto 4, 3) := by decide +kernel
theorem dX12_so_141 : decode cX12_so 141 = .ok (.iconst 0, 1) := by decide +kernel
theorem dX12_so_142 : decode cX12_so 142 = .ok (.istore 7, 2) := by decide +kernel
theorem dX12_so_144 : decode cX12_so 144 = .ok (.iload 7, 2) := by decide +kernel
theorem dX12_so_146 : decode cX12_so 146 = .ok (.ifCond .eq 8, 3) := by decide +kernel
theorem dX12_so_149 : decode cX12_so 149 = .ok (.iload 4, 2) := by decide +kernel
theorem dX12_so_151 : decode cX12_so 151 = .ok (.goto 4, 3) := by decide +kernel
theorem dX12_so_154 : decode cX12_so 154 = .ok (.iload_n 2, 1) := by decide +kernel
theorem dX12_so_155 : decode cX12_so 155 = .ok (.istore_n 2, 1) := by decide +kernel
theorem dX12_so_156 : decode cX12_so 156 = .ok (.iload 7, 2) := by decide +kernel
theorem dX12_so_158 : decode cX12_so 158 = .ok (.ifCond .eq 8, 3) := by decide +kernel
theorem dX12_so_161 : decode cX12_so 161 = .ok (.iload 6, 2) := by decide +kernel
theorem dX12_so_163 : decode cX12_so 163 = .ok (.goto 4, 3) := by decide +kernel
theorem dX12_so_166 : decode cX12_so 166 = .ok (.iload_n 3, 1) := by decide +kernel
theorem dX12_so_167 : decode cX12_so 167 = .ok (.istore_n 3, 1) := by decide +kernel
theorem dX12_so_168 : decode cX12_so 168 = .ok (.iinc 4 1, 3) := by decide +kernel
theorem dX12_so_171 : decode cX12_so 171 = .ok (.goto (-152), 3) := by decide +kernel
theorem dX12_so_174 : decode cX12_so 174 = .ok (.iload_n 1, 1) := by decide +kernel
theorem dX12_so_175 : decode cX12_so 175 = .ok (.ifCond .ne 7, 3) := by decide +kernel
theorem dX12_so_178 : decode cX12_so 178 = .ok (.iload_n 2, 1) := by decide +kernel
theorem dX12_so_179 : decode cX12_so 179 = .ok (.goto 4, 3) := by decide +kernel
theorem dX12_so_182 : decode cX12_so 182 = .ok (.iload_n 3, 1) := by decide +kernel
theorem dX12_so_183 : decode cX12_so 183 = .ok (.ireturn, 1) := by decide +kernel
set_option maxRecDepth 20000 in
theorem ggX12_tally_X12_isPillow : GoodIn wsX12_tally wsX12_isPillow := goodIn_r _ [5, 6, 7, 8, 4, 9, 22, 23, 24, 25, 26, 27, 28, 29, 30, 31, 32, 33, 34, 35, 36, 37, 38, 39] (by decide +kernel) (by decide +kernel)
set_option maxRecDepth 20000 in
theorem gX12_tally_X12_isPillow : GoodIn wsX12_tally (wsV RX12 123 RX12 yX12_isPillow wsX12_isPillow) := goodIn_app (goodIn_of _ (by decide +kernel)) ggX12_tally_X12_isPillow
set_option maxRecDepth 20000 in
theorem ggX12_tally_X12_hears : GoodIn wsX12_tally wsX12_hears := goodIn_r _ [13, 14, 15, 16, 4, 17, 18, 22, 23, 24, 25, 26, 27, 28, 29, 30, 31, 32, 33, 34, 35, 36, 37, 38, 39] (by decide +kernel) (by decide +kernel)
set_option maxRecDepth 20000 in
theorem gX12_tally_X12_hears : GoodIn wsX12_tally (wsV RX12 105 RX12 yX12_hears wsX12_hears) := goodIn_app (goodIn_of _ (by decide +kernel)) ggX12_tally_X12_hears
set_option maxRecDepth 20000 in
theorem ggX12_tally_X12_many : GoodIn wsX12_tally wsX12_many := goodIn_r _ [21] (by decide +kernel) (by decide +kernel)
set_option maxRecDepth 20000 in
theorem gX12_tally_X12_many : GoodIn wsX12_tally (va_wsS RX12 134 yX12_many wsX12_many) := goodIn_app (goodIn_of _ (by decide +kernel)) ggX12_tally_X12_many
