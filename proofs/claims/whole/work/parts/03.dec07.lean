theorem dX12_tally_0 : decode cX12_tally 0 = .ok (.aload_n 0, 1) := by decide +kernel
theorem dX12_tally_1 : decode cX12_tally 1 = .ok (.iload_n 1, 1) := by decide +kernel
theorem dX12_tally_2 : decode cX12_tally 2 = .ok (.invokevirtual 123, 3) := by decide +kernel
theorem dX12_tally_5 : decode cX12_tally 5 = .ok (.ifCond .eq 33, 3) := by decide +kernel
theorem dX12_tally_8 : decode cX12_tally 8 = .ok (.aload_n 0, 1) := by decide +kernel
theorem dX12_tally_9 : decode cX12_tally 9 = .ok (.iload_n 2, 1) := by decide +kernel
theorem dX12_tally_10 : decode cX12_tally 10 = .ok (.invokevirtual 123, 3) := by decide +kernel
theorem dX12_tally_13 : decode cX12_tally 13 = .ok (.ifCond .eq 25, 3) := by decide +kernel
theorem dX12_tally_16 : decode cX12_tally 16 = .ok (.iload_n 1, 1) := by decide +kernel
theorem dX12_tally_17 : decode cX12_tally 17 = .ok (.iload_n 2, 1) := by decide +kernel
theorem dX12_tally_18 : decode cX12_tally 18 = .ok (.if_icmp .eq 20, 3) := by decide +kernel
theorem dX12_tally_21 : decode cX12_tally 21 = .ok (.aload_n 0, 1) := by decide +kernel
theorem dX12_tally_22 : decode cX12_tally 22 = .ok (.iload_n 1, 1) := by decide +kernel
theorem dX12_tally_23 : decode cX12_tally 23 = .ok (.invokevirtual 105, 3) := by decide +kernel
theorem dX12_tally_26 : decode cX12_tally 26 = .ok (.aload_n 0, 1) := by decide +kernel
theorem dX12_tally_27 : decode cX12_tally 27 = .ok (.iload_n 2, 1) := by decide +kernel
theorem dX12_tally_28 : decode cX12_tally 28 = .ok (.invokevirtual 105, 3) := by decide +kernel
theorem dX12_tally_31 : decode cX12_tally 31 = .ok (.ixor, 1) := by decide +kernel
theorem dX12_tally_32 : decode cX12_tally 32 = .ok (.invokestatic 134, 3) := by decide +kernel
theorem dX12_tally_35 : decode cX12_tally 35 = .ok (.goto 4, 3) := by decide +kernel
theorem dX12_tally_38 : decode cX12_tally 38 = .ok (.iconst (-1), 1) := by decide +kernel
theorem dX12_tally_39 : decode cX12_tally 39 = .ok (.ireturn, 1) := by decide +kernel
set_option maxRecDepth 20000 in
theorem ggX12_explains_X12_knows : GoodIn wsX12_explains wsX12_knows := goodIn_r _ [5, 6, 12, 13, 14, 15, 16, 17, 18, 19, 20, 21, 22, 23, 24, 25, 26, 27, 28, 29] (by decide +kernel) (by decide +kernel)
set_option maxRecDepth 20000 in
theorem gX12_explains_X12_knows : GoodIn wsX12_explains (wsV RX12 109 RX12 yX12_knows wsX12_knows) := goodIn_app (goodIn_of _ (by decide +kernel)) ggX12_explains_X12_knows
set_option maxRecDepth 20000 in
theorem ggX12_explains_X12_often : GoodIn wsX12_explains wsX12_often := goodIn_r _ [10, 11, 12, 13, 14, 15, 16, 17, 18, 19, 20, 21, 22, 23, 24, 25, 26, 27, 28, 29] (by decide +kernel) (by decide +kernel)
set_option maxRecDepth 20000 in
theorem gX12_explains_X12_often : GoodIn wsX12_explains (wsV RX12 101 RX12 yX12_often wsX12_often) := goodIn_app (goodIn_of _ (by decide +kernel)) ggX12_explains_X12_often
theorem dX12_explains_0 : decode cX12_explains 0 = .ok (.iconst 0, 1) := by decide +kernel
theorem dX12_explains_1 : decode cX12_explains 1 = .ok (.istore_n 3, 1) := by decide +kernel
theorem dX12_explains_2 : decode cX12_explains 2 = .ok (.iconst 0, 1) := by decide +kernel
theorem dX12_explains_3 : decode cX12_explains 3 = .ok (.istore 4, 2) := by decide +kernel
theorem dX12_explains_5 : decode cX12_explains 5 = .ok (.iload 4, 2) := by decide +kernel
theorem dX12_explains_7 : decode cX12_explains 7 = .ok (.bipush 7, 2) := by decide +kernel
theorem dX12_explains_9 : decode cX12_explains 9 = .ok (.if_icmp .ge 37, 3) := by decide +kernel
theorem dX12_explains_12 : decode cX12_explains 12 = .ok (.iload_n 3, 1) := by decide +kernel
theorem dX12_explains_13 : decode cX12_explains 13 = .ok (.aload_n 0, 1) := by decide +kernel
theorem dX12_explains_14 : decode cX12_explains 14 = .ok (.iload_n 1, 1) := by decide +kernel
theorem dX12_explains_15 : decode cX12_explains 15 = .ok (.invokevirtual 109, 3) := by decide +kernel
theorem dX12_explains_18 : decode cX12_explains 18 = .ok (.iload 4, 2) := by decide +kernel
theorem dX12_explains_20 : decode cX12_explains 20 = .ok (.ishr, 1) := by decide +kernel
theorem dX12_explains_21 : decode cX12_explains 21 = .ok (.iconst 1, 1) := by decide +kernel
theorem dX12_explains_22 : decode cX12_explains 22 = .ok (.iand, 1) := by decide +kernel
theorem dX12_explains_23 : decode cX12_explains 23 = .ok (.iconst 1, 1) := by decide +kernel
theorem dX12_explains_24 : decode cX12_explains 24 = .ok (.if_icmp .ne 13, 3) := by decide +kernel
theorem dX12_explains_27 : decode cX12_explains 27 = .ok (.aload_n 0, 1) := by decide +kernel
theorem dX12_explains_28 : decode cX12_explains 28 = .ok (.iload_n 2, 1) := by decide +kernel
theorem dX12_explains_29 : decode cX12_explains 29 = .ok (.iload 4, 2) := by decide +kernel
theorem dX12_explains_31 : decode cX12_explains 31 = .ok (.invokevirtual 101, 3) := by decide +kernel
theorem dX12_explains_34 : decode cX12_explains 34 = .ok (.goto 4, 3) := by decide +kernel
theorem dX12_explains_37 : decode cX12_explains 37 = .ok (.iconst 0, 1) := by decide +kernel
theorem dX12_explains_38 : decode cX12_explains 38 = .ok (.iadd, 1) := by decide +kernel
theorem dX12_explains_39 : decode cX12_explains 39 = .ok (.istore_n 3, 1) := by decide +kernel
theorem dX12_explains_40 : decode cX12_explains 40 = .ok (.iinc 4 1, 3) := by decide +kernel
theorem dX12_explains_43 : decode cX12_explains 43 = .ok (.goto (-38), 3) := by decide +kernel
theorem dX12_explains_46 : decode cX12_explains 46 = .ok (.iload_n 3, 1) := by decide +kernel
theorem dX12_explains_47 : decode cX12_explains 47 = .ok (.ireturn, 1) := by decide +kernel
set_option maxRecDepth 20000 in
theorem ggX12_works_X12_explains : GoodIn wsX12_works wsX12_explains := goodIn_r _ [7, 8, 9, 10, 6, 11, 2, 12, 13, 14, 15, 16, 17, 18, 19, 20, 21, 22, 23, 24, 25, 26, 27, 28, 29, 30, 31, 32, 33, 34] (by decide +kernel) (by decide +kernel)
set_option maxRecDepth 20000 in
theorem gX12_works_X12_explains : GoodIn wsX12_works (wsV RX12 165 RX12 yX12_explains wsX12_explains) := goodIn_app (goodIn_of _ (by decide +kernel)) ggX12_works_X12_explains
theorem dX12_works_0 : decode cX12_works 0 = .ok (.iconst 0, 1) := by decide +kernel
theorem dX12_works_1 : decode cX12_works 1 = .ok (.istore_n 1, 1) := by decide +kernel
theorem dX12_works_2 : decode cX12_works 2 = .ok (.iload_n 1, 1) := by decide +kernel
theorem dX12_works_3 : decode cX12_works 3 = .ok (.bipush 64, 2) := by decide +kernel
theorem dX12_works_5 : decode cX12_works 5 = .ok (.if_icmp .ge 26, 3) := by decide +kernel
theorem dX12_works_8 : decode cX12_works 8 = .ok (.aload_n 0, 1) := by decide +kernel
theorem dX12_works_9 : decode cX12_works 9 = .ok (.getfield 25, 3) := by decide +kernel
theorem dX12_works_12 : decode cX12_works 12 = .ok (.bipush 64, 2) := by decide +kernel
theorem dX12_works_14 : decode cX12_works 14 = .ok (.aload_n 0, 1) := by decide +kernel
theorem dX12_works_15 : decode cX12_works 15 = .ok (.getfield 16, 3) := by decide +kernel
theorem dX12_works_18 : decode cX12_works 18 = .ok (.iconst 0, 1) := by decide +kernel
theorem dX12_works_19 : decode cX12_works 19 = .ok (.iaload, 1) := by decide +kernel
theorem dX12_works_20 : decode cX12_works 20 = .ok (.imul, 1) := by decide +kernel
theorem dX12_works_21 : decode cX12_works 21 = .ok (.iload_n 1, 1) := by decide +kernel
theorem dX12_works_22 : decode cX12_works 22 = .ok (.iadd, 1) := by decide +kernel
theorem dX12_works_23 : decode cX12_works 23 = .ok (.iconst 0, 1) := by decide +kernel
theorem dX12_works_24 : decode cX12_works 24 = .ok (.iastore, 1) := by decide +kernel
theorem dX12_works_25 : decode cX12_works 25 = .ok (.iinc 1 1, 3) := by decide +kernel
theorem dX12_works_28 : decode cX12_works 28 = .ok (.goto (-26), 3) := by decide +kernel
theorem dX12_works_31 : decode cX12_works 31 = .ok (.aload_n 0, 1) := by decide +kernel
theorem dX12_works_32 : decode cX12_works 32 = .ok (.getfield 16, 3) := by decide +kernel
theorem dX12_works_35 : decode cX12_works 35 = .ok (.iconst 0, 1) := by decide +kernel
theorem dX12_works_36 : decode cX12_works 36 = .ok (.iaload, 1) := by decide +kernel
theorem dX12_works_37 : decode cX12_works 37 = .ok (.iconst 1, 1) := by decide +kernel
theorem dX12_works_38 : decode cX12_works 38 = .ok (.isub, 1) := by decide +kernel
theorem dX12_works_39 : decode cX12_works 39 = .ok (.istore_n 1, 1) := by decide +kernel
theorem dX12_works_40 : decode cX12_works 40 = .ok (.iload_n 1, 1) := by decide +kernel
theorem dX12_works_41 : decode cX12_works 41 = .ok (.ifCond .lt 123, 3) := by decide +kernel
theorem dX12_works_44 : decode cX12_works 44 = .ok (.iconst 0, 1) := by decide +kernel
theorem dX12_works_45 : decode cX12_works 45 = .ok (.istore_n 2, 1) := by decide +kernel
theorem dX12_works_46 : decode cX12_works 46 = .ok (.iload_n 2, 1) := by decide +kernel
theorem dX12_works_47 : decode cX12_works 47 = .ok (.bipush 64, 2) := by decide +kernel
theorem dX12_works_49 : decode cX12_works 49 = .ok (.if_icmp .ge 109, 3) := by decide +kernel
theorem dX12_works_52 : decode cX12_works 52 = .ok (.aload_n 0, 1) := by decide +kernel
theorem dX12_works_53 : decode cX12_works 53 = .ok (.getfield 25, 3) := by decide +kernel
theorem dX12_works_56 : decode cX12_works 56 = .ok (.bipush 64, 2) := by decide +kernel
theorem dX12_works_58 : decode cX12_works 58 = .ok (.iload_n 1, 1) := by decide +kernel
theorem dX12_works_59 : decode cX12_works 59 = .ok (.iconst 1, 1) := by decide +kernel
theorem dX12_works_60 : decode cX12_works 60 = .ok (.iadd, 1) := by decide +kernel
theorem dX12_works_61 : decode cX12_works 61 = .ok (.imul, 1) := by decide +kernel
theorem dX12_works_62 : decode cX12_works 62 = .ok (.iload_n 2, 1) := by decide +kernel
theorem dX12_works_63 : decode cX12_works 63 = .ok (.iadd, 1) := by decide +kernel
theorem dX12_works_64 : decode cX12_works 64 = .ok (.iaload, 1) := by decide +kernel
theorem dX12_works_65 : decode cX12_works 65 = .ok (.istore_n 3, 1) := by decide +kernel
theorem dX12_works_66 : decode cX12_works 66 = .ok (.iconst 0, 1) := by decide +kernel
theorem dX12_works_67 : decode cX12_works 67 = .ok (.istore 4, 2) := by decide +kernel
theorem dX12_works_69 : decode cX12_works 69 = .ok (.iload 4, 2) := by decide +kernel
theorem dX12_works_71 : decode cX12_works 71 = .ok (.aload_n 0, 1) := by decide +kernel
theorem dX12_works_72 : decode cX12_works 72 = .ok (.getfield 16, 3) := by decide +kernel
theorem dX12_works_75 : decode cX12_works 75 = .ok (.iconst 1, 1) := by decide +kernel
theorem dX12_works_76 : decode cX12_works 76 = .ok (.iaload, 1) := by decide +kernel
theorem dX12_works_77 : decode cX12_works 77 = .ok (.if_icmp .ge 63, 3) := by decide +kernel
theorem dX12_works_80 : decode cX12_works 80 = .ok (.iload_n 2, 1) := by decide +kernel
theorem dX12_works_81 : decode cX12_works 81 = .ok (.iload 4, 2) := by decide +kernel
theorem dX12_works_83 : decode cX12_works 83 = .ok (.ishr, 1) := by decide +kernel
theorem dX12_works_84 : decode cX12_works 84 = .ok (.iconst 1, 1) := by decide +kernel
theorem dX12_works_85 : decode cX12_works 85 = .ok (.iand, 1) := by decide +kernel
theorem dX12_works_86 : decode cX12_works 86 = .ok (.ifCond .ne 7, 3) := by decide +kernel
theorem dX12_works_89 : decode cX12_works 89 = .ok (.iconst 0, 1) := by decide +kernel
theorem dX12_works_90 : decode cX12_works 90 = .ok (.goto 29, 3) := by decide +kernel
theorem dX12_works_93 : decode cX12_works 93 = .ok (.aload_n 0, 1) := by decide +kernel
theorem dX12_works_94 : decode cX12_works 94 = .ok (.iload_n 1, 1) := by decide +kernel
theorem dX12_works_95 : decode cX12_works 95 = .ok (.iload 4, 2) := by decide +kernel
theorem dX12_works_97 : decode cX12_works 97 = .ok (.invokevirtual 165, 3) := by decide +kernel
theorem dX12_works_100 : decode cX12_works 100 = .ok (.aload_n 0, 1) := by decide +kernel
theorem dX12_works_101 : decode cX12_works 101 = .ok (.getfield 25, 3) := by decide +kernel
theorem dX12_works_104 : decode cX12_works 104 = .ok (.bipush 64, 2) := by decide +kernel
theorem dX12_works_106 : decode cX12_works 106 = .ok (.iload_n 1, 1) := by decide +kernel
theorem dX12_works_107 : decode cX12_works 107 = .ok (.iconst 1, 1) := by decide +kernel
theorem dX12_works_108 : decode cX12_works 108 = .ok (.iadd, 1) := by decide +kernel
theorem dX12_works_109 : decode cX12_works 109 = .ok (.imul, 1) := by decide +kernel
theorem dX12_works_110 : decode cX12_works 110 = .ok (.iload_n 2, 1) := by decide +kernel
theorem dX12_works_111 : decode cX12_works 111 = .ok (.iadd, 1) := by decide +kernel
theorem dX12_works_112 : decode cX12_works 112 = .ok (.iconst 1, 1) := by decide +kernel
theorem dX12_works_113 : decode cX12_works 113 = .ok (.iload 4, 2) := by decide +kernel
theorem dX12_works_115 : decode cX12_works 115 = .ok (.ishl, 1) := by decide +kernel
theorem dX12_works_116 : decode cX12_works 116 = .ok (.isub, 1) := by decide +kernel
theorem dX12_works_117 : decode cX12_works 117 = .ok (.iaload, 1) := by decide +kernel
theorem dX12_works_118 : decode cX12_works 118 = .ok (.iadd, 1) := by decide +kernel
theorem dX12_works_119 : decode cX12_works 119 = .ok (.istore 5, 2) := by decide +kernel
theorem dX12_works_121 : decode cX12_works 121 = .ok (.iload 5, 2) := by decide +kernel
theorem dX12_works_123 : decode cX12_works 123 = .ok (.iload_n 3, 1) := by decide +kernel
theorem dX12_works_124 : decode cX12_works 124 = .ok (.if_icmp .le 8, 3) := by decide +kernel
theorem dX12_works_127 : decode cX12_works 127 = .ok (.iload 5, 2) := by decide +kernel
theorem dX12_works_129 : decode cX12_works 129 = .ok (.goto 4, 3) := by decide +kernel
theorem dX12_works_132 : decode cX12_works 132 = .ok (.iload_n 3, 1) := by decide +kernel
theorem dX12_works_133 : decode cX12_works 133 = .ok (.istore_n 3, 1) := by decide +kernel
theorem dX12_works_134 : decode cX12_works 134 = .ok (.iinc 4 1, 3) := by decide +kernel
theorem dX12_works_137 : decode cX12_works 137 = .ok (.goto (-68), 3) := by decide +kernel
theorem dX12_works_140 : decode cX12_works 140 = .ok (.aload_n 0, 1) := by decide +kernel
theorem dX12_works_141 : decode cX12_works 141 = .ok (.getfield 25, 3) := by decide +kernel
theorem dX12_works_144 : decode cX12_works 144 = .ok (.bipush 64, 2) := by decide +kernel
theorem dX12_works_146 : decode cX12_works 146 = .ok (.iload_n 1, 1) := by decide +kernel
theorem dX12_works_147 : decode cX12_works 147 = .ok (.imul, 1) := by decide +kernel
theorem dX12_works_148 : decode cX12_works 148 = .ok (.iload_n 2, 1) := by decide +kernel
theorem dX12_works_149 : decode cX12_works 149 = .ok (.iadd, 1) := by decide +kernel
theorem dX12_works_150 : decode cX12_works 150 = .ok (.iload_n 3, 1) := by decide +kernel
theorem dX12_works_151 : decode cX12_works 151 = .ok (.iastore, 1) := by decide +kernel
theorem dX12_works_152 : decode cX12_works 152 = .ok (.iinc 2 1, 3) := by decide +kernel
theorem dX12_works_155 : decode cX12_works 155 = .ok (.goto (-109), 3) := by decide +kernel
theorem dX12_works_158 : decode cX12_works 158 = .ok (.iinc 1 (-1), 3) := by decide +kernel
theorem dX12_works_161 : decode cX12_works 161 = .ok (.goto (-121), 3) := by decide +kernel
theorem dX12_works_164 : decode cX12_works 164 = .ok (.return_, 1) := by decide +kernel
set_option maxRecDepth 20000 in
theorem ggX12_fit_X12_isPerson : GoodIn wsX12_fit wsX12_isPerson := goodIn_r _ [7, 1, 8, 9, 6, 10, 28, 29, 30, 31, 32, 33, 34, 35, 36, 37, 38, 39, 40, 41, 42, 43, 44, 45] (by decide +kernel) (by decide +kernel)
set_option maxRecDepth 20000 in
theorem gX12_fit_X12_isPerson : GoodIn wsX12_fit (wsV RX12 112 RX12 yX12_isPerson wsX12_isPerson) := goodIn_app (goodIn_of _ (by decide +kernel)) ggX12_fit_X12_isPerson
set_option maxRecDepth 20000 in
theorem ggX12_fit_X12_works : GoodIn wsX12_fit wsX12_works := goodIn_r _ [14, 2, 1, 15, 16, 17, 6, 18, 19, 20, 21, 22, 23, 24, 25, 26, 27, 28, 29, 30, 31, 32, 33, 34, 35, 36, 37, 38, 39, 40, 41, 42, 43, 44, 45] (by decide +kernel) (by decide +kernel)
set_option maxRecDepth 20000 in
theorem gX12_fit_X12_works : GoodIn wsX12_fit (wsV RX12 168 RX12 yX12_works wsX12_works) := goodIn_app (goodIn_of _ (by decide +kernel)) ggX12_fit_X12_works
set_option maxRecDepth 20000 in
theorem ggX12_fit_X12_explains : GoodIn wsX12_fit wsX12_explains := goodIn_r _ [18, 19, 20, 21, 6, 22, 1, 23, 24, 25, 26, 27, 28, 29, 30, 31, 32, 33, 34, 35, 36, 37, 38, 39, 40, 41, 42, 43, 44, 45] (by decide +kernel) (by decide +kernel)
set_option maxRecDepth 20000 in
theorem gX12_fit_X12_explains : GoodIn wsX12_fit (wsV RX12 165 RX12 yX12_explains wsX12_explains) := goodIn_app (goodIn_of _ (by decide +kernel)) ggX12_fit_X12_explains
theorem dX12_fit_0 : decode cX12_fit 0 = .ok (.iload_n 1, 1) := by decide +kernel
theorem dX12_fit_1 : decode cX12_fit 1 = .ok (.iconst (-1), 1) := by decide +kernel
theorem dX12_fit_2 : decode cX12_fit 2 = .ok (.if_icmp .eq 13, 3) := by decide +kernel
theorem dX12_fit_5 : decode cX12_fit 5 = .ok (.aload_n 0, 1) := by decide +kernel
theorem dX12_fit_6 : decode cX12_fit 6 = .ok (.iload_n 1, 1) := by decide +kernel
theorem dX12_fit_7 : decode cX12_fit 7 = .ok (.invokevirtual 112, 3) := by decide +kernel
theorem dX12_fit_10 : decode cX12_fit 10 = .ok (.ifCond .ne 5, 3) := by decide +kernel
theorem dX12_fit_13 : decode cX12_fit 13 = .ok (.iconst (-1), 1) := by decide +kernel
theorem dX12_fit_14 : decode cX12_fit 14 = .ok (.ireturn, 1) := by decide +kernel
theorem dX12_fit_15 : decode cX12_fit 15 = .ok (.aload_n 0, 1) := by decide +kernel
theorem dX12_fit_16 : decode cX12_fit 16 = .ok (.invokevirtual 168, 3) := by decide +kernel
theorem dX12_fit_19 : decode cX12_fit 19 = .ok (.iconst 1, 1) := by decide +kernel
theorem dX12_fit_20 : decode cX12_fit 20 = .ok (.aload_n 0, 1) := by decide +kernel
theorem dX12_fit_21 : decode cX12_fit 21 = .ok (.getfield 16, 3) := by decide +kernel
theorem dX12_fit_24 : decode cX12_fit 24 = .ok (.iconst 1, 1) := by decide +kernel
theorem dX12_fit_25 : decode cX12_fit 25 = .ok (.iaload, 1) := by decide +kernel
theorem dX12_fit_26 : decode cX12_fit 26 = .ok (.ishl, 1) := by decide +kernel
theorem dX12_fit_27 : decode cX12_fit 27 = .ok (.iconst 1, 1) := by decide +kernel
theorem dX12_fit_28 : decode cX12_fit 28 = .ok (.isub, 1) := by decide +kernel
theorem dX12_fit_29 : decode cX12_fit 29 = .ok (.istore_n 2, 1) := by decide +kernel
theorem dX12_fit_30 : decode cX12_fit 30 = .ok (.iload_n 1, 1) := by decide +kernel
theorem dX12_fit_31 : decode cX12_fit 31 = .ok (.iconst (-1), 1) := by decide +kernel
theorem dX12_fit_32 : decode cX12_fit 32 = .ok (.if_icmp .ne 10, 3) := by decide +kernel
theorem dX12_fit_35 : decode cX12_fit 35 = .ok (.aload_n 0, 1) := by decide +kernel
theorem dX12_fit_36 : decode cX12_fit 36 = .ok (.getfield 25, 3) := by decide +kernel
theorem dX12_fit_39 : decode cX12_fit 39 = .ok (.iload_n 2, 1) := by decide +kernel
theorem dX12_fit_40 : decode cX12_fit 40 = .ok (.iaload, 1) := by decide +kernel
theorem dX12_fit_41 : decode cX12_fit 41 = .ok (.ireturn, 1) := by decide +kernel
theorem dX12_fit_42 : decode cX12_fit 42 = .ok (.bipush (-9), 2) := by decide +kernel
theorem dX12_fit_44 : decode cX12_fit 44 = .ok (.istore_n 3, 1) := by decide +kernel
theorem dX12_fit_45 : decode cX12_fit 45 = .ok (.iconst 0, 1) := by decide +kernel
theorem dX12_fit_46 : decode cX12_fit 46 = .ok (.istore 4, 2) := by decide +kernel
theorem dX12_fit_48 : decode cX12_fit 48 = .ok (.iload 4, 2) := by decide +kernel
theorem dX12_fit_50 : decode cX12_fit 50 = .ok (.iload_n 1, 1) := by decide +kernel
theorem dX12_fit_51 : decode cX12_fit 51 = .ok (.if_icmp .gt 144, 3) := by decide +kernel
theorem dX12_fit_54 : decode cX12_fit 54 = .ok (.aload_n 0, 1) := by decide +kernel
theorem dX12_fit_55 : decode cX12_fit 55 = .ok (.getfield 25, 3) := by decide +kernel
theorem dX12_fit_58 : decode cX12_fit 58 = .ok (.bipush 64, 2) := by decide +kernel
theorem dX12_fit_60 : decode cX12_fit 60 = .ok (.iload 4, 2) := by decide +kernel
theorem dX12_fit_62 : decode cX12_fit 62 = .ok (.imul, 1) := by decide +kernel
theorem dX12_fit_63 : decode cX12_fit 63 = .ok (.iload_n 2, 1) := by decide +kernel
theorem dX12_fit_64 : decode cX12_fit 64 = .ok (.iadd, 1) := by decide +kernel
theorem dX12_fit_65 : decode cX12_fit 65 = .ok (.iaload, 1) := by decide +kernel
theorem dX12_fit_66 : decode cX12_fit 66 = .ok (.istore 5, 2) := by decide +kernel
theorem dX12_fit_68 : decode cX12_fit 68 = .ok (.bipush (-9), 2) := by decide +kernel
theorem dX12_fit_70 : decode cX12_fit 70 = .ok (.istore_n 3, 1) := by decide +kernel
theorem dX12_fit_71 : decode cX12_fit 71 = .ok (.aload_n 0, 1) := by decide +kernel
theorem dX12_fit_72 : decode cX12_fit 72 = .ok (.getfield 16, 3) := by decide +kernel
theorem dX12_fit_75 : decode cX12_fit 75 = .ok (.iconst 1, 1) := by decide +kernel
theorem dX12_fit_76 : decode cX12_fit 76 = .ok (.iaload, 1) := by decide +kernel
theorem dX12_fit_77 : decode cX12_fit 77 = .ok (.iconst 1, 1) := by decide +kernel
theorem dX12_fit_78 : decode cX12_fit 78 = .ok (.isub, 1) := by decide +kernel
theorem dX12_fit_79 : decode cX12_fit 79 = .ok (.istore 6, 2) := by decide +kernel
theorem dX12_fit_81 : decode cX12_fit 81 = .ok (.iload 6, 2) := by decide +kernel
theorem dX12_fit_83 : decode cX12_fit 83 = .ok (.ifCond .lt 90, 3) := by decide +kernel
theorem dX12_fit_86 : decode cX12_fit 86 = .ok (.aload_n 0, 1) := by decide +kernel
theorem dX12_fit_87 : decode cX12_fit 87 = .ok (.getfield 25, 3) := by decide +kernel
theorem dX12_fit_90 : decode cX12_fit 90 = .ok (.bipush 64, 2) := by decide +kernel
theorem dX12_fit_92 : decode cX12_fit 92 = .ok (.iload 4, 2) := by decide +kernel
theorem dX12_fit_94 : decode cX12_fit 94 = .ok (.iconst 1, 1) := by decide +kernel
theorem dX12_fit_95 : decode cX12_fit 95 = .ok (.iadd, 1) := by decide +kernel
theorem dX12_fit_96 : decode cX12_fit 96 = .ok (.imul, 1) := by decide +kernel
theorem dX12_fit_97 : decode cX12_fit 97 = .ok (.iload_n 2, 1) := by decide +kernel
theorem dX12_fit_98 : decode cX12_fit 98 = .ok (.iadd, 1) := by decide +kernel
theorem dX12_fit_99 : decode cX12_fit 99 = .ok (.iaload, 1) := by decide +kernel
theorem dX12_fit_100 : decode cX12_fit 100 = .ok (.iload 5, 2) := by decide +kernel
theorem dX12_fit_102 : decode cX12_fit 102 = .ok (.if_icmp .eq 71, 3) := by decide +kernel
theorem dX12_fit_105 : decode cX12_fit 105 = .ok (.iload_n 2, 1) := by decide +kernel
theorem dX12_fit_106 : decode cX12_fit 106 = .ok (.iload 6, 2) := by decide +kernel
theorem dX12_fit_108 : decode cX12_fit 108 = .ok (.ishr, 1) := by decide +kernel
theorem dX12_fit_109 : decode cX12_fit 109 = .ok (.iconst 1, 1) := by decide +kernel
theorem dX12_fit_110 : decode cX12_fit 110 = .ok (.iand, 1) := by decide +kernel
theorem dX12_fit_111 : decode cX12_fit 111 = .ok (.iconst 1, 1) := by decide +kernel
theorem dX12_fit_112 : decode cX12_fit 112 = .ok (.if_icmp .ne 40, 3) := by decide +kernel
theorem dX12_fit_115 : decode cX12_fit 115 = .ok (.aload_n 0, 1) := by decide +kernel
theorem dX12_fit_116 : decode cX12_fit 116 = .ok (.iload 4, 2) := by decide +kernel
theorem dX12_fit_118 : decode cX12_fit 118 = .ok (.iload 6, 2) := by decide +kernel
theorem dX12_fit_120 : decode cX12_fit 120 = .ok (.invokevirtual 165, 3) := by decide +kernel
theorem dX12_fit_123 : decode cX12_fit 123 = .ok (.aload_n 0, 1) := by decide +kernel
theorem dX12_fit_124 : decode cX12_fit 124 = .ok (.getfield 25, 3) := by decide +kernel
theorem dX12_fit_127 : decode cX12_fit 127 = .ok (.bipush 64, 2) := by decide +kernel
theorem dX12_fit_129 : decode cX12_fit 129 = .ok (.iload 4, 2) := by decide +kernel
theorem dX12_fit_131 : decode cX12_fit 131 = .ok (.iconst 1, 1) := by decide +kernel
theorem dX12_fit_132 : decode cX12_fit 132 = .ok (.iadd, 1) := by decide +kernel
theorem dX12_fit_133 : decode cX12_fit 133 = .ok (.imul, 1) := by decide +kernel
theorem dX12_fit_134 : decode cX12_fit 134 = .ok (.iload_n 2, 1) := by decide +kernel
theorem dX12_fit_135 : decode cX12_fit 135 = .ok (.iadd, 1) := by decide +kernel
theorem dX12_fit_136 : decode cX12_fit 136 = .ok (.iconst 1, 1) := by decide +kernel
theorem dX12_fit_137 : decode cX12_fit 137 = .ok (.iload 6, 2) := by decide +kernel
theorem dX12_fit_139 : decode cX12_fit 139 = .ok (.ishl, 1) := by decide +kernel
theorem dX12_fit_140 : decode cX12_fit 140 = .ok (.isub, 1) := by decide +kernel
theorem dX12_fit_141 : decode cX12_fit 141 = .ok (.iaload, 1) := by decide +kernel
theorem dX12_fit_142 : decode cX12_fit 142 = .ok (.iadd, 1) := by decide +kernel
theorem dX12_fit_143 : decode cX12_fit 143 = .ok (.iload 5, 2) := by decide +kernel
theorem dX12_fit_145 : decode cX12_fit 145 = .ok (.if_icmp .ne 7, 3) := by decide +kernel
theorem dX12_fit_148 : decode cX12_fit 148 = .ok (.iconst 1, 1) := by decide +kernel
theorem dX12_fit_149 : decode cX12_fit 149 = .ok (.goto 4, 3) := by decide +kernel
theorem dX12_fit_152 : decode cX12_fit 152 = .ok (.iconst 0, 1) := by decide +kernel
theorem dX12_fit_153 : decode cX12_fit 153 = .ok (.istore 7, 2) := by decide +kernel
theorem dX12_fit_155 : decode cX12_fit 155 = .ok (.iload 7, 2) := by decide +kernel
theorem dX12_fit_157 : decode cX12_fit 157 = .ok (.ifCond .eq 8, 3) := by decide +kernel
theorem dX12_fit_160 : decode cX12_fit 160 = .ok (.iload 6, 2) := by decide +kernel
theorem dX12_fit_162 : decode cX12_fit 162 = .ok (.goto 4, 3) := by decide +kernel
theorem dX12_fit_165 : decode cX12_fit 165 = .ok (.iload_n 3, 1) := by decide +kernel
theorem dX12_fit_166 : decode cX12_fit 166 = .ok (.istore_n 3, 1) := by decide +kernel
theorem dX12_fit_167 : decode cX12_fit 167 = .ok (.iinc 6 (-1), 3) := by decide +kernel
theorem dX12_fit_170 : decode cX12_fit 170 = .ok (.goto (-89), 3) := by decide +kernel
theorem dX12_fit_173 : decode cX12_fit 173 = .ok (.iload_n 2, 1) := by decide +kernel
theorem dX12_fit_174 : decode cX12_fit 174 = .ok (.iload_n 3, 1) := by decide +kernel
theorem dX12_fit_175 : decode cX12_fit 175 = .ok (.bipush (-9), 2) := by decide +kernel
theorem dX12_fit_177 : decode cX12_fit 177 = .ok (.if_icmp .ne 7, 3) := by decide +kernel
theorem dX12_fit_180 : decode cX12_fit 180 = .ok (.iconst 0, 1) := by decide +kernel
theorem dX12_fit_181 : decode cX12_fit 181 = .ok (.goto 6, 3) := by decide +kernel
theorem dX12_fit_184 : decode cX12_fit 184 = .ok (.iconst 1, 1) := by decide +kernel
theorem dX12_fit_185 : decode cX12_fit 185 = .ok (.iload_n 3, 1) := by decide +kernel
theorem dX12_fit_186 : decode cX12_fit 186 = .ok (.ishl, 1) := by decide +kernel
theorem dX12_fit_187 : decode cX12_fit 187 = .ok (.isub, 1) := by decide +kernel
theorem dX12_fit_188 : decode cX12_fit 188 = .ok (.istore_n 2, 1) := by decide +kernel
theorem dX12_fit_189 : decode cX12_fit 189 = .ok (.iinc 4 1, 3) := by decide +kernel
theorem dX12_fit_192 : decode cX12_fit 192 = .ok (.goto (-144), 3) := by decide +kernel
theorem dX12_fit_195 : decode cX12_fit 195 = .ok (.iload_n 3, 1) := by decide +kernel
theorem dX12_fit_196 : decode cX12_fit 196 = .ok (.ireturn, 1) := by decide +kernel
set_option maxRecDepth 20000 in
theorem ggX12_looks_X12_hear : GoodIn wsX12_looks wsX12_hear := goodIn_r _ [7, 1, 8, 9, 10, 6, 11, 12, 13, 14, 15, 2, 19, 20, 21, 22, 23, 24, 25, 26, 27, 28, 29, 30, 31, 32, 33, 34, 35, 36] (by decide +kernel) (by decide +kernel)
set_option maxRecDepth 20000 in
theorem gX12_looks_X12_hear : GoodIn wsX12_looks (wsV RX12 131 RX12 yX12_hear wsX12_hear) := goodIn_app (goodIn_of _ (by decide +kernel)) ggX12_looks_X12_hear
set_option maxRecDepth 20000 in
theorem ggX12_looks_X12_many : GoodIn wsX12_looks wsX12_many := goodIn_r _ [18] (by decide +kernel) (by decide +kernel)
set_option maxRecDepth 20000 in
theorem gX12_looks_X12_many : GoodIn wsX12_looks (va_wsS RX12 134 yX12_many wsX12_many) := goodIn_app (goodIn_of _ (by decide +kernel)) ggX12_looks_X12_many
theorem dX12_looks_0 : decode cX12_looks 0 = .ok (.aload_n 0, 1) := by decide +kernel
theorem dX12_looks_1 : decode cX12_looks 1 = .ok (.bipush 63, 2) := by decide +kernel
theorem dX12_looks_3 : decode cX12_looks 3 = .ok (.invokevirtual 131, 3) := by decide +kernel
theorem dX12_looks_6 : decode cX12_looks 6 = .ok (.istore_n 1, 1) := by decide +kernel
theorem dX12_looks_7 : decode cX12_looks 7 = .ok (.bipush (-9), 2) := by decide +kernel
theorem dX12_looks_9 : decode cX12_looks 9 = .ok (.istore_n 2, 1) := by decide +kernel
theorem dX12_looks_10 : decode cX12_looks 10 = .ok (.iconst 0, 1) := by decide +kernel
theorem dX12_looks_11 : decode cX12_looks 11 = .ok (.istore_n 3, 1) := by decide +kernel
theorem dX12_looks_12 : decode cX12_looks 12 = .ok (.iload_n 3, 1) := by decide +kernel
theorem dX12_looks_13 : decode cX12_looks 13 = .ok (.iconst 1, 1) := by decide +kernel
theorem dX12_looks_14 : decode cX12_looks 14 = .ok (.aload_n 0, 1) := by decide +kernel
theorem dX12_looks_15 : decode cX12_looks 15 = .ok (.getfield 16, 3) := by decide +kernel
theorem dX12_looks_18 : decode cX12_looks 18 = .ok (.iconst 1, 1) := by decide +kernel
theorem dX12_looks_19 : decode cX12_looks 19 = .ok (.iaload, 1) := by decide +kernel
theorem dX12_looks_20 : decode cX12_looks 20 = .ok (.ishl, 1) := by decide +kernel
theorem dX12_looks_21 : decode cX12_looks 21 = .ok (.if_icmp .ge 63, 3) := by decide +kernel
theorem dX12_looks_24 : decode cX12_looks 24 = .ok (.iload_n 1, 1) := by decide +kernel
theorem dX12_looks_25 : decode cX12_looks 25 = .ok (.aload_n 0, 1) := by decide +kernel
theorem dX12_looks_26 : decode cX12_looks 26 = .ok (.iload_n 3, 1) := by decide +kernel
theorem dX12_looks_27 : decode cX12_looks 27 = .ok (.aload_n 0, 1) := by decide +kernel
theorem dX12_looks_28 : decode cX12_looks 28 = .ok (.getfield 19, 3) := by decide +kernel
theorem dX12_looks_31 : decode cX12_looks 31 = .ok (.iconst 1, 1) := by decide +kernel
theorem dX12_looks_32 : decode cX12_looks 32 = .ok (.iaload, 1) := by decide +kernel
theorem dX12_looks_33 : decode cX12_looks 33 = .ok (.ior, 1) := by decide +kernel
theorem dX12_looks_34 : decode cX12_looks 34 = .ok (.invokevirtual 131, 3) := by decide +kernel
theorem dX12_looks_37 : decode cX12_looks 37 = .ok (.iconst (-1), 1) := by decide +kernel
theorem dX12_looks_38 : decode cX12_looks 38 = .ok (.ixor, 1) := by decide +kernel
theorem dX12_looks_39 : decode cX12_looks 39 = .ok (.iand, 1) := by decide +kernel
theorem dX12_looks_40 : decode cX12_looks 40 = .ok (.ifCond .ne 7, 3) := by decide +kernel
theorem dX12_looks_43 : decode cX12_looks 43 = .ok (.iconst 1, 1) := by decide +kernel
theorem dX12_looks_44 : decode cX12_looks 44 = .ok (.goto 4, 3) := by decide +kernel
theorem dX12_looks_47 : decode cX12_looks 47 = .ok (.iconst 0, 1) := by decide +kernel
theorem dX12_looks_48 : decode cX12_looks 48 = .ok (.istore 4, 2) := by decide +kernel
theorem dX12_looks_50 : decode cX12_looks 50 = .ok (.iload 4, 2) := by decide +kernel
theorem dX12_looks_52 : decode cX12_looks 52 = .ok (.ifCond .eq 24, 3) := by decide +kernel
theorem dX12_looks_55 : decode cX12_looks 55 = .ok (.iload_n 2, 1) := by decide +kernel
theorem dX12_looks_56 : decode cX12_looks 56 = .ok (.bipush (-9), 2) := by decide +kernel
theorem dX12_looks_58 : decode cX12_looks 58 = .ok (.if_icmp .eq 14, 3) := by decide +kernel
theorem dX12_looks_61 : decode cX12_looks 61 = .ok (.iload_n 3, 1) := by decide +kernel
theorem dX12_looks_62 : decode cX12_looks 62 = .ok (.invokestatic 134, 3) := by decide +kernel
theorem dX12_looks_65 : decode cX12_looks 65 = .ok (.iload_n 2, 1) := by decide +kernel
theorem dX12_looks_66 : decode cX12_looks 66 = .ok (.invokestatic 134, 3) := by decide +kernel
theorem dX12_looks_69 : decode cX12_looks 69 = .ok (.if_icmp .ge 7, 3) := by decide +kernel
theorem dX12_looks_72 : decode cX12_looks 72 = .ok (.iload_n 3, 1) := by decide +kernel
theorem dX12_looks_73 : decode cX12_looks 73 = .ok (.goto 4, 3) := by decide +kernel
theorem dX12_looks_76 : decode cX12_looks 76 = .ok (.iload_n 2, 1) := by decide +kernel
theorem dX12_looks_77 : decode cX12_looks 77 = .ok (.istore_n 2, 1) := by decide +kernel
theorem dX12_looks_78 : decode cX12_looks 78 = .ok (.iinc 3 1, 3) := by decide +kernel
theorem dX12_looks_81 : decode cX12_looks 81 = .ok (.goto (-69), 3) := by decide +kernel
theorem dX12_looks_84 : decode cX12_looks 84 = .ok (.iload_n 2, 1) := by decide +kernel
theorem dX12_looks_85 : decode cX12_looks 85 = .ok (.ireturn, 1) := by decide +kernel
set_option maxRecDepth 20000 in
theorem ggX12_next_X12_hear : GoodIn wsX12_next wsX12_hear := goodIn_r _ [7, 2, 8, 9, 10, 6, 11, 12, 13, 14, 15, 1, 19, 20, 21, 22, 23, 24, 25, 26, 27, 28, 29, 30, 31, 32, 33, 34, 35, 36] (by decide +kernel) (by decide +kernel)
set_option maxRecDepth 20000 in
theorem gX12_next_X12_hear : GoodIn wsX12_next (wsV RX12 131 RX12 yX12_hear wsX12_hear) := goodIn_app (goodIn_of _ (by decide +kernel)) ggX12_next_X12_hear
set_option maxRecDepth 20000 in
theorem ggX12_next_X12_hears : GoodIn wsX12_next wsX12_hears := goodIn_r _ [11, 12, 13, 14, 6, 15, 1, 19, 20, 21, 22, 23, 24, 25, 26, 27, 28, 29, 30, 31, 32, 33, 34, 35, 36] (by decide +kernel) (by decide +kernel)
set_option maxRecDepth 20000 in
theorem gX12_next_X12_hears : GoodIn wsX12_next (wsV RX12 105 RX12 yX12_hears wsX12_hears) := goodIn_app (goodIn_of _ (by decide +kernel)) ggX12_next_X12_hears
set_option maxRecDepth 20000 in
theorem ggX12_next_X12_many : GoodIn wsX12_next wsX12_many := goodIn_r _ [18] (by decide +kernel) (by decide +kernel)
set_option maxRecDepth 20000 in
theorem gX12_next_X12_many : GoodIn wsX12_next (va_wsS RX12 134 yX12_many wsX12_many) := goodIn_app (goodIn_of _ (by decide +kernel)) ggX12_next_X12_many
theorem dX12_next_0 : decode cX12_next 0 = .ok (.aload_n 0, 1) := by decide +kernel
theorem dX12_next_1 : decode cX12_next 1 = .ok (.aload_n 0, 1) := by decide +kernel
theorem dX12_next_2 : decode cX12_next 2 = .ok (.getfield 19, 3) := by decide +kernel
theorem dX12_next_5 : decode cX12_next 5 = .ok (.iconst 1, 1) := by decide +kernel
theorem dX12_next_6 : decode cX12_next 6 = .ok (.iaload, 1) := by decide +kernel
theorem dX12_next_7 : decode cX12_next 7 = .ok (.invokevirtual 131, 3) := by decide +kernel
theorem dX12_next_10 : decode cX12_next 10 = .ok (.istore_n 1, 1) := by decide +kernel
theorem dX12_next_11 : decode cX12_next 11 = .ok (.bipush (-9), 2) := by decide +kernel
theorem dX12_next_13 : decode cX12_next 13 = .ok (.istore_n 2, 1) := by decide +kernel
theorem dX12_next_14 : decode cX12_next 14 = .ok (.iconst (-1), 1) := by decide +kernel
theorem dX12_next_15 : decode cX12_next 15 = .ok (.istore_n 3, 1) := by decide +kernel
theorem dX12_next_16 : decode cX12_next 16 = .ok (.iconst 0, 1) := by decide +kernel
theorem dX12_next_17 : decode cX12_next 17 = .ok (.istore 4, 2) := by decide +kernel
theorem dX12_next_19 : decode cX12_next 19 = .ok (.iload 4, 2) := by decide +kernel
theorem dX12_next_21 : decode cX12_next 21 = .ok (.aload_n 0, 1) := by decide +kernel
theorem dX12_next_22 : decode cX12_next 22 = .ok (.getfield 16, 3) := by decide +kernel
theorem dX12_next_25 : decode cX12_next 25 = .ok (.iconst 1, 1) := by decide +kernel
theorem dX12_next_26 : decode cX12_next 26 = .ok (.iaload, 1) := by decide +kernel
theorem dX12_next_27 : decode cX12_next 27 = .ok (.if_icmp .ge 69, 3) := by decide +kernel
theorem dX12_next_30 : decode cX12_next 30 = .ok (.aload_n 0, 1) := by decide +kernel
theorem dX12_next_31 : decode cX12_next 31 = .ok (.getfield 19, 3) := by decide +kernel
theorem dX12_next_34 : decode cX12_next 34 = .ok (.iconst 1, 1) := by decide +kernel
theorem dX12_next_35 : decode cX12_next 35 = .ok (.iaload, 1) := by decide +kernel
theorem dX12_next_36 : decode cX12_next 36 = .ok (.iload 4, 2) := by decide +kernel
theorem dX12_next_38 : decode cX12_next 38 = .ok (.ishr, 1) := by decide +kernel
theorem dX12_next_39 : decode cX12_next 39 = .ok (.iconst 1, 1) := by decide +kernel
theorem dX12_next_40 : decode cX12_next 40 = .ok (.iand, 1) := by decide +kernel
theorem dX12_next_41 : decode cX12_next 41 = .ok (.iconst 1, 1) := by decide +kernel
theorem dX12_next_42 : decode cX12_next 42 = .ok (.if_icmp .ne 7, 3) := by decide +kernel
theorem dX12_next_45 : decode cX12_next 45 = .ok (.iconst (-1), 1) := by decide +kernel
theorem dX12_next_46 : decode cX12_next 46 = .ok (.goto 16, 3) := by decide +kernel
theorem dX12_next_49 : decode cX12_next 49 = .ok (.aload_n 0, 1) := by decide +kernel
theorem dX12_next_50 : decode cX12_next 50 = .ok (.iload 4, 2) := by decide +kernel
theorem dX12_next_52 : decode cX12_next 52 = .ok (.invokevirtual 105, 3) := by decide +kernel
theorem dX12_next_55 : decode cX12_next 55 = .ok (.iload_n 1, 1) := by decide +kernel
theorem dX12_next_56 : decode cX12_next 56 = .ok (.iconst (-1), 1) := by decide +kernel
theorem dX12_next_57 : decode cX12_next 57 = .ok (.ixor, 1) := by decide +kernel
theorem dX12_next_58 : decode cX12_next 58 = .ok (.iand, 1) := by decide +kernel
theorem dX12_next_59 : decode cX12_next 59 = .ok (.invokestatic 134, 3) := by decide +kernel
theorem dX12_next_62 : decode cX12_next 62 = .ok (.istore 5, 2) := by decide +kernel
theorem dX12_next_64 : decode cX12_next 64 = .ok (.iload 5, 2) := by decide +kernel
theorem dX12_next_66 : decode cX12_next 66 = .ok (.iload_n 3, 1) := by decide +kernel
theorem dX12_next_67 : decode cX12_next 67 = .ok (.if_icmp .le 8, 3) := by decide +kernel
theorem dX12_next_70 : decode cX12_next 70 = .ok (.iload 4, 2) := by decide +kernel
theorem dX12_next_72 : decode cX12_next 72 = .ok (.goto 4, 3) := by decide +kernel
theorem dX12_next_75 : decode cX12_next 75 = .ok (.iload_n 2, 1) := by decide +kernel
theorem dX12_next_76 : decode cX12_next 76 = .ok (.istore_n 2, 1) := by decide +kernel
theorem dX12_next_77 : decode cX12_next 77 = .ok (.iload 5, 2) := by decide +kernel
theorem dX12_next_79 : decode cX12_next 79 = .ok (.iload_n 3, 1) := by decide +kernel
theorem dX12_next_80 : decode cX12_next 80 = .ok (.if_icmp .le 8, 3) := by decide +kernel
theorem dX12_next_83 : decode cX12_next 83 = .ok (.iload 5, 2) := by decide +kernel
theorem dX12_next_85 : decode cX12_next 85 = .ok (.goto 4, 3) := by decide +kernel
theorem dX12_next_88 : decode cX12_next 88 = .ok (.iload_n 3, 1) := by decide +kernel
theorem dX12_next_89 : decode cX12_next 89 = .ok (.istore_n 3, 1) := by decide +kernel
theorem dX12_next_90 : decode cX12_next 90 = .ok (.iinc 4 1, 3) := by decide +kernel
theorem dX12_next_93 : decode cX12_next 93 = .ok (.goto (-74), 3) := by decide +kernel
theorem dX12_next_96 : decode cX12_next 96 = .ok (.iload_n 2, 1) := by decide +kernel
theorem dX12_next_97 : decode cX12_next 97 = .ok (.ireturn, 1) := by decide +kernel
theorem dX12_asides_0 : decode cX12_asides 0 = .ok (.iconst 0, 1) := by decide +kernel
theorem dX12_asides_1 : decode cX12_asides 1 = .ok (.istore_n 1, 1) := by decide +kernel
theorem dX12_asides_2 : decode cX12_asides 2 = .ok (.iload_n 1, 1) := by decide +kernel
theorem dX12_asides_3 : decode cX12_asides 3 = .ok (.bipush 50, 2) := by decide +kernel
theorem dX12_asides_5 : decode cX12_asides 5 = .ok (.if_icmp .ge 21, 3) := by decide +kernel
theorem dX12_asides_8 : decode cX12_asides 8 = .ok (.aload_n 0, 1) := by decide +kernel
theorem dX12_asides_9 : decode cX12_asides 9 = .ok (.getfield 28, 3) := by decide +kernel
theorem dX12_asides_12 : decode cX12_asides 12 = .ok (.iload_n 1, 1) := by decide +kernel
theorem dX12_asides_13 : decode cX12_asides 13 = .ok (.aload_n 0, 1) := by decide +kernel
theorem dX12_asides_14 : decode cX12_asides 14 = .ok (.getfield 19, 3) := by decide +kernel
theorem dX12_asides_17 : decode cX12_asides 17 = .ok (.iload_n 1, 1) := by decide +kernel
theorem dX12_asides_18 : decode cX12_asides 18 = .ok (.iaload, 1) := by decide +kernel
theorem dX12_asides_19 : decode cX12_asides 19 = .ok (.iastore, 1) := by decide +kernel
theorem dX12_asides_20 : decode cX12_asides 20 = .ok (.iinc 1 1, 3) := by decide +kernel
theorem dX12_asides_23 : decode cX12_asides 23 = .ok (.goto (-21), 3) := by decide +kernel
theorem dX12_asides_26 : decode cX12_asides 26 = .ok (.return_, 1) := by decide +kernel
theorem dX12_backs_0 : decode cX12_backs 0 = .ok (.iconst 0, 1) := by decide +kernel
theorem dX12_backs_1 : decode cX12_backs 1 = .ok (.istore_n 1, 1) := by decide +kernel
theorem dX12_backs_2 : decode cX12_backs 2 = .ok (.iload_n 1, 1) := by decide +kernel
theorem dX12_backs_3 : decode cX12_backs 3 = .ok (.bipush 50, 2) := by decide +kernel
theorem dX12_backs_5 : decode cX12_backs 5 = .ok (.if_icmp .ge 21, 3) := by decide +kernel
theorem dX12_backs_8 : decode cX12_backs 8 = .ok (.aload_n 0, 1) := by decide +kernel
theorem dX12_backs_9 : decode cX12_backs 9 = .ok (.getfield 19, 3) := by decide +kernel
theorem dX12_backs_12 : decode cX12_backs 12 = .ok (.iload_n 1, 1) := by decide +kernel
theorem dX12_backs_13 : decode cX12_backs 13 = .ok (.aload_n 0, 1) := by decide +kernel
theorem dX12_backs_14 : decode cX12_backs 14 = .ok (.getfield 28, 3) := by decide +kernel
theorem dX12_backs_17 : decode cX12_backs 17 = .ok (.iload_n 1, 1) := by decide +kernel
theorem dX12_backs_18 : decode cX12_backs 18 = .ok (.iaload, 1) := by decide +kernel
theorem dX12_backs_19 : decode cX12_backs 19 = .ok (.iastore, 1) := by decide +kernel
theorem dX12_backs_20 : decode cX12_backs 20 = .ok (.iinc 1 1, 3) := by decide +kernel
theorem dX12_backs_23 : decode cX12_backs 23 = .ok (.goto (-21), 3) := by decide +kernel
theorem dX12_backs_26 : decode cX12_backs 26 = .ok (.return_, 1) := by decide +kernel
set_option maxRecDepth 20000 in
theorem ggX12_inNights_X12_in : GoodIn wsX12_inNights wsX12_in := goodIn_r _ [6] (by decide +kernel) (by decide +kernel)
set_option maxRecDepth 20000 in
theorem gX12_inNights_X12_in : GoodIn wsX12_inNights (va_wsS RX12 48 yX12_in wsX12_in) := goodIn_app (goodIn_of _ (by decide +kernel)) ggX12_inNights_X12_in
set_option maxRecDepth 20000 in
theorem ggX12_inNights_X12_isPillow : GoodIn wsX12_inNights wsX12_isPillow := goodIn_r _ [10, 11, 3, 4, 5, 6, 50, 51, 52, 53, 54, 55, 56, 57, 58, 59, 60, 61, 62, 63, 64, 65, 66, 67] (by decide +kernel) (by decide +kernel)
set_option maxRecDepth 20000 in
theorem gX12_inNights_X12_isPillow : GoodIn wsX12_inNights (wsV RX12 123 RX12 yX12_isPillow wsX12_isPillow) := goodIn_app (goodIn_of _ (by decide +kernel)) ggX12_inNights_X12_isPillow
set_option maxRecDepth 20000 in
theorem ggX12_inNights_X12_asides : GoodIn wsX12_inNights wsX12_asides := goodIn_r _ [15, 16, 17, 50, 51, 52, 53, 54, 55, 56, 57, 58, 59, 60, 61, 62, 63, 64, 65, 66, 67] (by decide +kernel) (by decide +kernel)
set_option maxRecDepth 20000 in
theorem gX12_inNights_X12_asides : GoodIn wsX12_inNights (wsV RX12 173 RX12 yX12_asides wsX12_asides) := goodIn_app (goodIn_of _ (by decide +kernel)) ggX12_inNights_X12_asides
set_option maxRecDepth 20000 in
theorem ggX12_inNights_X12_goesBy : GoodIn wsX12_inNights wsX12_goesBy := goodIn_r _ [21, 11, 17, 22, 23, 24, 5, 25, 26, 27, 28, 29, 30, 31, 32, 33, 34, 35, 36, 37, 50, 51, 52, 53, 54, 55, 56, 57, 58, 59, 60, 61, 62, 63, 64, 65, 66, 67] (by decide +kernel) (by decide +kernel)
set_option maxRecDepth 20000 in
theorem gX12_inNights_X12_goesBy : GoodIn wsX12_inNights (wsV RX12 162 RX12 yX12_goesBy wsX12_goesBy) := goodIn_app (goodIn_of _ (by decide +kernel)) ggX12_inNights_X12_goesBy
set_option maxRecDepth 20000 in
theorem ggX12_inNights_X12_hears : GoodIn wsX12_inNights wsX12_hears := goodIn_r _ [41, 42, 43, 44, 5, 45, 17, 50, 51, 52, 53, 54, 55, 56, 57, 58, 59, 60, 61, 62, 63, 64, 65, 66, 67] (by decide +kernel) (by decide +kernel)
set_option maxRecDepth 20000 in
theorem gX12_inNights_X12_hears : GoodIn wsX12_inNights (wsV RX12 105 RX12 yX12_hears wsX12_hears) := goodIn_app (goodIn_of _ (by decide +kernel)) ggX12_inNights_X12_hears
set_option maxRecDepth 20000 in
theorem ggX12_inNights_X12_backs : GoodIn wsX12_inNights wsX12_backs := goodIn_r _ [49, 17, 16, 50, 51, 52, 53, 54, 55, 56, 57, 58, 59, 60, 61, 62, 63, 64, 65, 66, 67] (by decide +kernel) (by decide +kernel)
set_option maxRecDepth 20000 in
theorem gX12_inNights_X12_backs : GoodIn wsX12_inNights (wsV RX12 176 RX12 yX12_backs wsX12_backs) := goodIn_app (goodIn_of _ (by decide +kernel)) ggX12_inNights_X12_backs
theorem dX12_inNights_0 : decode cX12_inNights 0 = .ok (.iload_n 1, 1) := by decide +kernel
theorem dX12_inNights_1 : decode cX12_inNights 1 = .ok (.i2l, 1) := by decide +kernel
theorem dX12_inNights_2 : decode cX12_inNights 2 = .ok (.lconst 0, 1) := by decide +kernel
theorem dX12_inNights_3 : decode cX12_inNights 3 = .ok (.ldc2_w 160, 3) := by decide +kernel
theorem dX12_inNights_6 : decode cX12_inNights 6 = .ok (.invokestatic 48, 3) := by decide +kernel
theorem dX12_inNights_9 : decode cX12_inNights 9 = .ok (.ifCond .eq 23, 3) := by decide +kernel
theorem dX12_inNights_12 : decode cX12_inNights 12 = .ok (.iload_n 2, 1) := by decide +kernel
theorem dX12_inNights_13 : decode cX12_inNights 13 = .ok (.i2l, 1) := by decide +kernel
theorem dX12_inNights_14 : decode cX12_inNights 14 = .ok (.lconst 0, 1) := by decide +kernel
theorem dX12_inNights_15 : decode cX12_inNights 15 = .ok (.ldc2_w 171, 3) := by decide +kernel
theorem dX12_inNights_18 : decode cX12_inNights 18 = .ok (.invokestatic 48, 3) := by decide +kernel
theorem dX12_inNights_21 : decode cX12_inNights 21 = .ok (.ifCond .eq 11, 3) := by decide +kernel
theorem dX12_inNights_24 : decode cX12_inNights 24 = .ok (.aload_n 0, 1) := by decide +kernel
theorem dX12_inNights_25 : decode cX12_inNights 25 = .ok (.iload_n 3, 1) := by decide +kernel
theorem dX12_inNights_26 : decode cX12_inNights 26 = .ok (.invokevirtual 123, 3) := by decide +kernel
theorem dX12_inNights_29 : decode cX12_inNights 29 = .ok (.ifCond .ne 5, 3) := by decide +kernel
theorem dX12_inNights_32 : decode cX12_inNights 32 = .ok (.iconst (-1), 1) := by decide +kernel
theorem dX12_inNights_33 : decode cX12_inNights 33 = .ok (.ireturn, 1) := by decide +kernel
theorem dX12_inNights_34 : decode cX12_inNights 34 = .ok (.aload_n 0, 1) := by decide +kernel
theorem dX12_inNights_35 : decode cX12_inNights 35 = .ok (.invokevirtual 173, 3) := by decide +kernel
theorem dX12_inNights_38 : decode cX12_inNights 38 = .ok (.iconst 0, 1) := by decide +kernel
theorem dX12_inNights_39 : decode cX12_inNights 39 = .ok (.istore 4, 2) := by decide +kernel
theorem dX12_inNights_41 : decode cX12_inNights 41 = .ok (.iload 4, 2) := by decide +kernel
theorem dX12_inNights_43 : decode cX12_inNights 43 = .ok (.iload_n 2, 1) := by decide +kernel
theorem dX12_inNights_44 : decode cX12_inNights 44 = .ok (.if_icmp .ge 22, 3) := by decide +kernel
theorem dX12_inNights_47 : decode cX12_inNights 47 = .ok (.aload_n 0, 1) := by decide +kernel
theorem dX12_inNights_48 : decode cX12_inNights 48 = .ok (.iload_n 1, 1) := by decide +kernel
theorem dX12_inNights_49 : decode cX12_inNights 49 = .ok (.iload 4, 2) := by decide +kernel
theorem dX12_inNights_51 : decode cX12_inNights 51 = .ok (.iadd, 1) := by decide +kernel
theorem dX12_inNights_52 : decode cX12_inNights 52 = .ok (.sipush 10000, 3) := by decide +kernel
theorem dX12_inNights_55 : decode cX12_inNights 55 = .ok (.irem, 1) := by decide +kernel
theorem dX12_inNights_56 : decode cX12_inNights 56 = .ok (.invokevirtual 162, 3) := by decide +kernel
theorem dX12_inNights_59 : decode cX12_inNights 59 = .ok (.pop, 1) := by decide +kernel
theorem dX12_inNights_60 : decode cX12_inNights 60 = .ok (.iinc 4 1, 3) := by decide +kernel
theorem dX12_inNights_63 : decode cX12_inNights 63 = .ok (.goto (-22), 3) := by decide +kernel
theorem dX12_inNights_66 : decode cX12_inNights 66 = .ok (.aload_n 0, 1) := by decide +kernel
theorem dX12_inNights_67 : decode cX12_inNights 67 = .ok (.iload_n 3, 1) := by decide +kernel
theorem dX12_inNights_68 : decode cX12_inNights 68 = .ok (.invokevirtual 105, 3) := by decide +kernel
theorem dX12_inNights_71 : decode cX12_inNights 71 = .ok (.istore 4, 2) := by decide +kernel
theorem dX12_inNights_73 : decode cX12_inNights 73 = .ok (.aload_n 0, 1) := by decide +kernel
theorem dX12_inNights_74 : decode cX12_inNights 74 = .ok (.invokevirtual 176, 3) := by decide +kernel
theorem dX12_inNights_77 : decode cX12_inNights 77 = .ok (.iload 4, 2) := by decide +kernel
theorem dX12_inNights_79 : decode cX12_inNights 79 = .ok (.ireturn, 1) := by decide +kernel
set_option maxRecDepth 20000 in
theorem ggX12_notes_X12_isPillow : GoodIn wsX12_notes wsX12_isPillow := goodIn_r _ [7, 8, 9, 10, 6, 11, 16, 17, 18, 19, 20, 21, 22, 23, 24, 25, 26, 27, 28, 29, 30, 31, 32, 33] (by decide +kernel) (by decide +kernel)
set_option maxRecDepth 20000 in
theorem gX12_notes_X12_isPillow : GoodIn wsX12_notes (wsV RX12 123 RX12 yX12_isPillow wsX12_isPillow) := goodIn_app (goodIn_of _ (by decide +kernel)) ggX12_notes_X12_isPillow
set_option maxRecDepth 20000 in
theorem ggX12_notes_X12_isThing : GoodIn wsX12_notes wsX12_isThing := goodIn_r _ [14, 15, 9, 10, 6, 11] (by decide +kernel) (by decide +kernel)
set_option maxRecDepth 20000 in
theorem gX12_notes_X12_isThing : GoodIn wsX12_notes (va_wsS RX12 120 yX12_isThing wsX12_isThing) := goodIn_app (goodIn_of _ (by decide +kernel)) ggX12_notes_X12_isThing
set_option maxRecDepth 20000 in
theorem ggX12_notes_X12_in : GoodIn wsX12_notes wsX12_in := goodIn_r _ [11] (by decide +kernel) (by decide +kernel)
set_option maxRecDepth 20000 in
theorem gX12_notes_X12_in : GoodIn wsX12_notes (va_wsS RX12 48 yX12_in wsX12_in) := goodIn_app (goodIn_of _ (by decide +kernel)) ggX12_notes_X12_in
theorem dX12_notes_0 : decode cX12_notes 0 = .ok (.aload_n 0, 1) := by decide +kernel
theorem dX12_notes_1 : decode cX12_notes 1 = .ok (.iload_n 1, 1) := by decide +kernel
theorem dX12_notes_2 : decode cX12_notes 2 = .ok (.invokevirtual 123, 3) := by decide +kernel
theorem dX12_notes_5 : decode cX12_notes 5 = .ok (.ifCond .eq 20, 3) := by decide +kernel
theorem dX12_notes_8 : decode cX12_notes 8 = .ok (.iload_n 2, 1) := by decide +kernel
theorem dX12_notes_9 : decode cX12_notes 9 = .ok (.invokestatic 120, 3) := by decide +kernel
theorem dX12_notes_12 : decode cX12_notes 12 = .ok (.ifCond .eq 13, 3) := by decide +kernel
theorem dX12_notes_15 : decode cX12_notes 15 = .ok (.iload_n 3, 1) := by decide +kernel
theorem dX12_notes_16 : decode cX12_notes 16 = .ok (.i2l, 1) := by decide +kernel
theorem dX12_notes_17 : decode cX12_notes 17 = .ok (.lconst 0, 1) := by decide +kernel
theorem dX12_notes_18 : decode cX12_notes 18 = .ok (.lconst 1, 1) := by decide +kernel
theorem dX12_notes_19 : decode cX12_notes 19 = .ok (.invokestatic 48, 3) := by decide +kernel
theorem dX12_notes_22 : decode cX12_notes 22 = .ok (.ifCond .ne 5, 3) := by decide +kernel
theorem dX12_notes_25 : decode cX12_notes 25 = .ok (.iconst (-1), 1) := by decide +kernel
theorem dX12_notes_26 : decode cX12_notes 26 = .ok (.ireturn, 1) := by decide +kernel
theorem dX12_notes_27 : decode cX12_notes 27 = .ok (.aload_n 0, 1) := by decide +kernel
theorem dX12_notes_28 : decode cX12_notes 28 = .ok (.getfield 93, 3) := by decide +kernel
theorem dX12_notes_31 : decode cX12_notes 31 = .ok (.iconst 5, 1) := by decide +kernel
theorem dX12_notes_32 : decode cX12_notes 32 = .ok (.if_icmp .ne 6, 3) := by decide +kernel
theorem dX12_notes_35 : decode cX12_notes 35 = .ok (.bipush (-3), 2) := by decide +kernel
theorem dX12_notes_37 : decode cX12_notes 37 = .ok (.ireturn, 1) := by decide +kernel
theorem dX12_notes_38 : decode cX12_notes 38 = .ok (.aload_n 0, 1) := by decide +kernel
theorem dX12_notes_39 : decode cX12_notes 39 = .ok (.getfield 31, 3) := by decide +kernel
theorem dX12_notes_42 : decode cX12_notes 42 = .ok (.iconst 3, 1) := by decide +kernel
theorem dX12_notes_43 : decode cX12_notes 43 = .ok (.aload_n 0, 1) := by decide +kernel
theorem dX12_notes_44 : decode cX12_notes 44 = .ok (.getfield 93, 3) := by decide +kernel
theorem dX12_notes_47 : decode cX12_notes 47 = .ok (.imul, 1) := by decide +kernel
theorem dX12_notes_48 : decode cX12_notes 48 = .ok (.iload_n 1, 1) := by decide +kernel
theorem dX12_notes_49 : decode cX12_notes 49 = .ok (.iastore, 1) := by decide +kernel
theorem dX12_notes_50 : decode cX12_notes 50 = .ok (.aload_n 0, 1) := by decide +kernel
theorem dX12_notes_51 : decode cX12_notes 51 = .ok (.getfield 31, 3) := by decide +kernel
theorem dX12_notes_54 : decode cX12_notes 54 = .ok (.iconst 3, 1) := by decide +kernel
theorem dX12_notes_55 : decode cX12_notes 55 = .ok (.aload_n 0, 1) := by decide +kernel
theorem dX12_notes_56 : decode cX12_notes 56 = .ok (.getfield 93, 3) := by decide +kernel
theorem dX12_notes_59 : decode cX12_notes 59 = .ok (.imul, 1) := by decide +kernel
theorem dX12_notes_60 : decode cX12_notes 60 = .ok (.iconst 1, 1) := by decide +kernel
theorem dX12_notes_61 : decode cX12_notes 61 = .ok (.iadd, 1) := by decide +kernel
theorem dX12_notes_62 : decode cX12_notes 62 = .ok (.iload_n 2, 1) := by decide +kernel
theorem dX12_notes_63 : decode cX12_notes 63 = .ok (.iastore, 1) := by decide +kernel
theorem dX12_notes_64 : decode cX12_notes 64 = .ok (.aload_n 0, 1) := by decide +kernel
theorem dX12_notes_65 : decode cX12_notes 65 = .ok (.getfield 31, 3) := by decide +kernel
theorem dX12_notes_68 : decode cX12_notes 68 = .ok (.iconst 3, 1) := by decide +kernel
theorem dX12_notes_69 : decode cX12_notes 69 = .ok (.aload_n 0, 1) := by decide +kernel
theorem dX12_notes_70 : decode cX12_notes 70 = .ok (.getfield 93, 3) := by decide +kernel
theorem dX12_notes_73 : decode cX12_notes 73 = .ok (.imul, 1) := by decide +kernel
theorem dX12_notes_74 : decode cX12_notes 74 = .ok (.iconst 2, 1) := by decide +kernel
theorem dX12_notes_75 : decode cX12_notes 75 = .ok (.iadd, 1) := by decide +kernel
theorem dX12_notes_76 : decode cX12_notes 76 = .ok (.iload_n 3, 1) := by decide +kernel
theorem dX12_notes_77 : decode cX12_notes 77 = .ok (.iastore, 1) := by decide +kernel
theorem dX12_notes_78 : decode cX12_notes 78 = .ok (.aload_n 0, 1) := by decide +kernel
theorem dX12_notes_79 : decode cX12_notes 79 = .ok (.dup, 1) := by decide +kernel
theorem dX12_notes_80 : decode cX12_notes 80 = .ok (.getfield 93, 3) := by decide +kernel
theorem dX12_notes_83 : decode cX12_notes 83 = .ok (.iconst 1, 1) := by decide +kernel
theorem dX12_notes_84 : decode cX12_notes 84 = .ok (.iadd, 1) := by decide +kernel
theorem dX12_notes_85 : decode cX12_notes 85 = .ok (.putfield 93, 3) := by decide +kernel
theorem dX12_notes_88 : decode cX12_notes 88 = .ok (.aload_n 0, 1) := by decide +kernel
theorem dX12_notes_89 : decode cX12_notes 89 = .ok (.getfield 93, 3) := by decide +kernel
theorem dX12_notes_92 : decode cX12_notes 92 = .ok (.ireturn, 1) := by decide +kernel
theorem dX12_forget_0 : decode cX12_forget 0 = .ok (.aload_n 0, 1) := by decide +kernel
theorem dX12_forget_1 : decode cX12_forget 1 = .ok (.getfield 93, 3) := by decide +kernel
theorem dX12_forget_4 : decode cX12_forget 4 = .ok (.istore_n 1, 1) := by decide +kernel
theorem dX12_forget_5 : decode cX12_forget 5 = .ok (.aload_n 0, 1) := by decide +kernel
theorem dX12_forget_6 : decode cX12_forget 6 = .ok (.iconst 0, 1) := by decide +kernel
theorem dX12_forget_7 : decode cX12_forget 7 = .ok (.putfield 93, 3) := by decide +kernel
theorem dX12_forget_10 : decode cX12_forget 10 = .ok (.iload_n 1, 1) := by decide +kernel
theorem dX12_forget_11 : decode cX12_forget 11 = .ok (.ireturn, 1) := by decide +kernel
set_option maxRecDepth 20000 in
theorem ggX12_isSo_X12_says : GoodIn wsX12_isSo wsX12_says := goodIn_r _ [10, 11, 12, 13, 3, 14, 15, 2, 16, 17, 18, 9, 19, 20, 21, 22, 23, 24, 25, 26, 27, 28, 29, 30, 31, 32, 33, 34, 35, 36, 37, 38, 39, 40] (by decide +kernel) (by decide +kernel)
set_option maxRecDepth 20000 in
theorem gX12_isSo_X12_says : GoodIn wsX12_isSo (wsV RX12 157 RX12 yX12_says wsX12_says) := goodIn_app (goodIn_of _ (by decide +kernel)) ggX12_isSo_X12_says
theorem dX12_isSo_0 : decode cX12_isSo 0 = .ok (.iconst 0, 1) := by decide +kernel
theorem dX12_isSo_1 : decode cX12_isSo 1 = .ok (.istore_n 2, 1) := by decide +kernel
theorem dX12_isSo_2 : decode cX12_isSo 2 = .ok (.iload_n 2, 1) := by decide +kernel
theorem dX12_isSo_3 : decode cX12_isSo 3 = .ok (.bipush 6, 2) := by decide +kernel
theorem dX12_isSo_5 : decode cX12_isSo 5 = .ok (.if_icmp .ge 16, 3) := by decide +kernel
theorem dX12_isSo_8 : decode cX12_isSo 8 = .ok (.aload_n 0, 1) := by decide +kernel
theorem dX12_isSo_9 : decode cX12_isSo 9 = .ok (.getfield 34, 3) := by decide +kernel
theorem dX12_isSo_12 : decode cX12_isSo 12 = .ok (.iload_n 2, 1) := by decide +kernel
theorem dX12_isSo_13 : decode cX12_isSo 13 = .ok (.iconst 0, 1) := by decide +kernel
theorem dX12_isSo_14 : decode cX12_isSo 14 = .ok (.iastore, 1) := by decide +kernel
theorem dX12_isSo_15 : decode cX12_isSo 15 = .ok (.iinc 2 1, 3) := by decide +kernel
theorem dX12_isSo_18 : decode cX12_isSo 18 = .ok (.goto (-16), 3) := by decide +kernel
theorem dX12_isSo_21 : decode cX12_isSo 21 = .ok (.iconst 0, 1) := by decide +kernel
theorem dX12_isSo_22 : decode cX12_isSo 22 = .ok (.istore_n 2, 1) := by decide +kernel
theorem dX12_isSo_23 : decode cX12_isSo 23 = .ok (.iload_n 2, 1) := by decide +kernel
theorem dX12_isSo_24 : decode cX12_isSo 24 = .ok (.aload_n 0, 1) := by decide +kernel
theorem dX12_isSo_25 : decode cX12_isSo 25 = .ok (.getfield 16, 3) := by decide +kernel
theorem dX12_isSo_28 : decode cX12_isSo 28 = .ok (.iconst 0, 1) := by decide +kernel
theorem dX12_isSo_29 : decode cX12_isSo 29 = .ok (.iaload, 1) := by decide +kernel
theorem dX12_isSo_30 : decode cX12_isSo 30 = .ok (.if_icmp .ge 59, 3) := by decide +kernel
theorem dX12_isSo_33 : decode cX12_isSo 33 = .ok (.aload_n 0, 1) := by decide +kernel
theorem dX12_isSo_34 : decode cX12_isSo 34 = .ok (.getfield 19, 3) := by decide +kernel
theorem dX12_isSo_37 : decode cX12_isSo 37 = .ok (.iconst 2, 1) := by decide +kernel
theorem dX12_isSo_38 : decode cX12_isSo 38 = .ok (.iload_n 2, 1) := by decide +kernel
theorem dX12_isSo_39 : decode cX12_isSo 39 = .ok (.iadd, 1) := by decide +kernel
theorem dX12_isSo_40 : decode cX12_isSo 40 = .ok (.iaload, 1) := by decide +kernel
theorem dX12_isSo_41 : decode cX12_isSo 41 = .ok (.bipush (-9), 2) := by decide +kernel
theorem dX12_isSo_43 : decode cX12_isSo 43 = .ok (.if_icmp .ne 8, 3) := by decide +kernel
theorem dX12_isSo_46 : decode cX12_isSo 46 = .ok (.bipush (-9), 2) := by decide +kernel
theorem dX12_isSo_48 : decode cX12_isSo 48 = .ok (.goto 9, 3) := by decide +kernel
theorem dX12_isSo_51 : decode cX12_isSo 51 = .ok (.aload_n 0, 1) := by decide +kernel
theorem dX12_isSo_52 : decode cX12_isSo 52 = .ok (.iload_n 2, 1) := by decide +kernel
theorem dX12_isSo_53 : decode cX12_isSo 53 = .ok (.iload_n 1, 1) := by decide +kernel
theorem dX12_isSo_54 : decode cX12_isSo 54 = .ok (.invokevirtual 157, 3) := by decide +kernel
theorem dX12_isSo_57 : decode cX12_isSo 57 = .ok (.istore_n 3, 1) := by decide +kernel
theorem dX12_isSo_58 : decode cX12_isSo 58 = .ok (.iload_n 3, 1) := by decide +kernel
theorem dX12_isSo_59 : decode cX12_isSo 59 = .ok (.bipush (-9), 2) := by decide +kernel
theorem dX12_isSo_61 : decode cX12_isSo 61 = .ok (.if_icmp .eq 22, 3) := by decide +kernel
theorem dX12_isSo_64 : decode cX12_isSo 64 = .ok (.aload_n 0, 1) := by decide +kernel
theorem dX12_isSo_65 : decode cX12_isSo 65 = .ok (.getfield 34, 3) := by decide +kernel
theorem dX12_isSo_68 : decode cX12_isSo 68 = .ok (.aload_n 0, 1) := by decide +kernel
theorem dX12_isSo_69 : decode cX12_isSo 69 = .ok (.getfield 19, 3) := by decide +kernel
theorem dX12_isSo_72 : decode cX12_isSo 72 = .ok (.iconst 2, 1) := by decide +kernel
theorem dX12_isSo_73 : decode cX12_isSo 73 = .ok (.iload_n 2, 1) := by decide +kernel
theorem dX12_isSo_74 : decode cX12_isSo 74 = .ok (.iadd, 1) := by decide +kernel
theorem dX12_isSo_75 : decode cX12_isSo 75 = .ok (.iaload, 1) := by decide +kernel
theorem dX12_isSo_76 : decode cX12_isSo 76 = .ok (.dup2, 1) := by decide +kernel
theorem dX12_isSo_77 : decode cX12_isSo 77 = .ok (.iaload, 1) := by decide +kernel
theorem dX12_isSo_78 : decode cX12_isSo 78 = .ok (.iconst 1, 1) := by decide +kernel
theorem dX12_isSo_79 : decode cX12_isSo 79 = .ok (.iload_n 3, 1) := by decide +kernel
theorem dX12_isSo_80 : decode cX12_isSo 80 = .ok (.ishl, 1) := by decide +kernel
theorem dX12_isSo_81 : decode cX12_isSo 81 = .ok (.ior, 1) := by decide +kernel
theorem dX12_isSo_82 : decode cX12_isSo 82 = .ok (.iastore, 1) := by decide +kernel
theorem dX12_isSo_83 : decode cX12_isSo 83 = .ok (.iinc 2 1, 3) := by decide +kernel
theorem dX12_isSo_86 : decode cX12_isSo 86 = .ok (.goto (-63), 3) := by decide +kernel
theorem dX12_isSo_89 : decode cX12_isSo 89 = .ok (.iconst 1, 1) := by decide +kernel
theorem dX12_isSo_90 : decode cX12_isSo 90 = .ok (.istore_n 2, 1) := by decide +kernel
theorem dX12_isSo_91 : decode cX12_isSo 91 = .ok (.iconst 0, 1) := by decide +kernel
theorem dX12_isSo_92 : decode cX12_isSo 92 = .ok (.istore_n 3, 1) := by decide +kernel
theorem dX12_isSo_93 : decode cX12_isSo 93 = .ok (.iload_n 3, 1) := by decide +kernel
theorem dX12_isSo_94 : decode cX12_isSo 94 = .ok (.aload_n 0, 1) := by decide +kernel
theorem dX12_isSo_95 : decode cX12_isSo 95 = .ok (.getfield 93, 3) := by decide +kernel
theorem dX12_isSo_98 : decode cX12_isSo 98 = .ok (.if_icmp .ge 58, 3) := by decide +kernel
theorem dX12_isSo_101 : decode cX12_isSo 101 = .ok (.iload_n 2, 1) := by decide +kernel
theorem dX12_isSo_102 : decode cX12_isSo 102 = .ok (.ifCond .eq 46, 3) := by decide +kernel
theorem dX12_isSo_105 : decode cX12_isSo 105 = .ok (.aload_n 0, 1) := by decide +kernel
theorem dX12_isSo_106 : decode cX12_isSo 106 = .ok (.getfield 34, 3) := by decide +kernel
theorem dX12_isSo_109 : decode cX12_isSo 109 = .ok (.aload_n 0, 1) := by decide +kernel
theorem dX12_isSo_110 : decode cX12_isSo 110 = .ok (.getfield 31, 3) := by decide +kernel
theorem dX12_isSo_113 : decode cX12_isSo 113 = .ok (.iconst 3, 1) := by decide +kernel
theorem dX12_isSo_114 : decode cX12_isSo 114 = .ok (.iload_n 3, 1) := by decide +kernel
theorem dX12_isSo_115 : decode cX12_isSo 115 = .ok (.imul, 1) := by decide +kernel
theorem dX12_isSo_116 : decode cX12_isSo 116 = .ok (.iaload, 1) := by decide +kernel
theorem dX12_isSo_117 : decode cX12_isSo 117 = .ok (.iaload, 1) := by decide +kernel
theorem dX12_isSo_118 : decode cX12_isSo 118 = .ok (.aload_n 0, 1) := by decide +kernel
theorem dX12_isSo_119 : decode cX12_isSo 119 = .ok (.getfield 31, 3) := by decide +kernel
theorem dX12_isSo_122 : decode cX12_isSo 122 = .ok (.iconst 3, 1) := by decide +kernel
theorem dX12_isSo_123 : decode cX12_isSo 123 = .ok (.iload_n 3, 1) := by decide +kernel
theorem dX12_isSo_124 : decode cX12_isSo 124 = .ok (.imul, 1) := by decide +kernel
theorem dX12_isSo_125 : decode cX12_isSo 125 = .ok (.iconst 1, 1) := by decide +kernel
theorem dX12_isSo_126 : decode cX12_isSo 126 = .ok (.iadd, 1) := by decide +kernel
theorem dX12_isSo_127 : decode cX12_isSo 127 = .ok (.iaload, 1) := by decide +kernel
theorem dX12_isSo_128 : decode cX12_isSo 128 = .ok (.ishr, 1) := by decide +kernel
theorem dX12_isSo_129 : decode cX12_isSo 129 = .ok (.iconst 1, 1) := by decide +kernel
theorem dX12_isSo_130 : decode cX12_isSo 130 = .ok (.iand, 1) := by decide +kernel
theorem dX12_isSo_131 : decode cX12_isSo 131 = .ok (.aload_n 0, 1) := by decide +kernel
theorem dX12_isSo_132 : decode cX12_isSo 132 = .ok (.getfield 31, 3) := by decide +kernel
theorem dX12_isSo_135 : decode cX12_isSo 135 = .ok (.iconst 3, 1) := by decide +kernel
theorem dX12_isSo_136 : decode cX12_isSo 136 = .ok (.iload_n 3, 1) := by decide +kernel
theorem dX12_isSo_137 : decode cX12_isSo 137 = .ok (.imul, 1) := by decide +kernel
theorem dX12_isSo_138 : decode cX12_isSo 138 = .ok (.iconst 2, 1) := by decide +kernel
theorem dX12_isSo_139 : decode cX12_isSo 139 = .ok (.iadd, 1) := by decide +kernel
theorem dX12_isSo_140 : decode cX12_isSo 140 = .ok (.iaload, 1) := by decide +kernel
theorem dX12_isSo_141 : decode cX12_isSo 141 = .ok (.if_icmp .ne 7, 3) := by decide +kernel
theorem dX12_isSo_144 : decode cX12_isSo 144 = .ok (.iconst 1, 1) := by decide +kernel
theorem dX12_isSo_145 : decode cX12_isSo 145 = .ok (.goto 4, 3) := by decide +kernel
theorem dX12_isSo_148 : decode cX12_isSo 148 = .ok (.iconst 0, 1) := by decide +kernel
theorem dX12_isSo_149 : decode cX12_isSo 149 = .ok (.istore_n 2, 1) := by decide +kernel
theorem dX12_isSo_150 : decode cX12_isSo 150 = .ok (.iinc 3 1, 3) := by decide +kernel
theorem dX12_isSo_153 : decode cX12_isSo 153 = .ok (.goto (-60), 3) := by decide +kernel
theorem dX12_isSo_156 : decode cX12_isSo 156 = .ok (.iload_n 2, 1) := by decide +kernel
theorem dX12_isSo_157 : decode cX12_isSo 157 = .ok (.ireturn, 1) := by decide +kernel
set_option maxRecDepth 20000 in
theorem ggX12_which_X12_in : GoodIn wsX12_which wsX12_in := goodIn_r _ [4] (by decide +kernel) (by decide +kernel)
set_option maxRecDepth 20000 in
theorem gX12_which_X12_in : GoodIn wsX12_which (va_wsS RX12 48 yX12_in wsX12_in) := goodIn_app (goodIn_of _ (by decide +kernel)) ggX12_which_X12_in
set_option maxRecDepth 20000 in
theorem ggX12_which_X12_isSo : GoodIn wsX12_which wsX12_isSo := goodIn_r _ [8, 9, 10, 11, 12, 13, 14, 15, 16, 3, 17, 18, 19, 20, 21, 22, 23, 24, 25, 26, 27, 28, 29, 30, 31, 32, 33, 34, 35, 36, 37, 38, 39, 40, 41, 42, 43, 44, 45, 46, 47] (by decide +kernel) (by decide +kernel)
set_option maxRecDepth 20000 in
theorem gX12_which_X12_isSo : GoodIn wsX12_which (wsV RX12 179 RX12 yX12_isSo wsX12_isSo) := goodIn_app (goodIn_of _ (by decide +kernel)) ggX12_which_X12_isSo
