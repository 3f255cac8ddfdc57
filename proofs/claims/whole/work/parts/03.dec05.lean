theorem dX12_readClash_0 : decode cX12_readClash 0 = .ok (.aload_n 0, 1) := by decide +kernel
theorem dX12_readClash_1 : decode cX12_readClash 1 = .ok (.iconst 0, 1) := by decide +kernel
theorem dX12_readClash_2 : decode cX12_readClash 2 = .ok (.bipush 6, 2) := by decide +kernel
theorem dX12_readClash_4 : decode cX12_readClash 4 = .ok (.invokevirtual 79, 3) := by decide +kernel
theorem dX12_readClash_7 : decode cX12_readClash 7 = .ok (.ifCond .ne 5, 3) := by decide +kernel
theorem dX12_readClash_10 : decode cX12_readClash 10 = .ok (.iconst 0, 1) := by decide +kernel
theorem dX12_readClash_11 : decode cX12_readClash 11 = .ok (.ireturn, 1) := by decide +kernel
theorem dX12_readClash_12 : decode cX12_readClash 12 = .ok (.aload_n 0, 1) := by decide +kernel
theorem dX12_readClash_13 : decode cX12_readClash 13 = .ok (.getfield 73, 3) := by decide +kernel
theorem dX12_readClash_16 : decode cX12_readClash 16 = .ok (.istore_n 1, 1) := by decide +kernel
theorem dX12_readClash_17 : decode cX12_readClash 17 = .ok (.aload_n 0, 1) := by decide +kernel
theorem dX12_readClash_18 : decode cX12_readClash 18 = .ok (.iconst 0, 1) := by decide +kernel
theorem dX12_readClash_19 : decode cX12_readClash 19 = .ok (.bipush 6, 2) := by decide +kernel
theorem dX12_readClash_21 : decode cX12_readClash 21 = .ok (.invokevirtual 79, 3) := by decide +kernel
theorem dX12_readClash_24 : decode cX12_readClash 24 = .ok (.ifCond .eq 11, 3) := by decide +kernel
theorem dX12_readClash_27 : decode cX12_readClash 27 = .ok (.aload_n 0, 1) := by decide +kernel
theorem dX12_readClash_28 : decode cX12_readClash 28 = .ok (.getfield 73, 3) := by decide +kernel
theorem dX12_readClash_31 : decode cX12_readClash 31 = .ok (.iload_n 1, 1) := by decide +kernel
theorem dX12_readClash_32 : decode cX12_readClash 32 = .ok (.if_icmp .ne 5, 3) := by decide +kernel
theorem dX12_readClash_35 : decode cX12_readClash 35 = .ok (.iconst 0, 1) := by decide +kernel
theorem dX12_readClash_36 : decode cX12_readClash 36 = .ok (.ireturn, 1) := by decide +kernel
theorem dX12_readClash_37 : decode cX12_readClash 37 = .ok (.aload_n 0, 1) := by decide +kernel
theorem dX12_readClash_38 : decode cX12_readClash 38 = .ok (.getfield 13, 3) := by decide +kernel
theorem dX12_readClash_41 : decode cX12_readClash 41 = .ok (.bipush 14, 2) := by decide +kernel
theorem dX12_readClash_43 : decode cX12_readClash 43 = .ok (.iload_n 1, 1) := by decide +kernel
theorem dX12_readClash_44 : decode cX12_readClash 44 = .ok (.iadd, 1) := by decide +kernel
theorem dX12_readClash_45 : decode cX12_readClash 45 = .ok (.dup2, 1) := by decide +kernel
theorem dX12_readClash_46 : decode cX12_readClash 46 = .ok (.iaload, 1) := by decide +kernel
theorem dX12_readClash_47 : decode cX12_readClash 47 = .ok (.iconst 1, 1) := by decide +kernel
theorem dX12_readClash_48 : decode cX12_readClash 48 = .ok (.aload_n 0, 1) := by decide +kernel
theorem dX12_readClash_49 : decode cX12_readClash 49 = .ok (.getfield 73, 3) := by decide +kernel
theorem dX12_readClash_52 : decode cX12_readClash 52 = .ok (.ishl, 1) := by decide +kernel
theorem dX12_readClash_53 : decode cX12_readClash 53 = .ok (.ior, 1) := by decide +kernel
theorem dX12_readClash_54 : decode cX12_readClash 54 = .ok (.iastore, 1) := by decide +kernel
theorem dX12_readClash_55 : decode cX12_readClash 55 = .ok (.aload_n 0, 1) := by decide +kernel
theorem dX12_readClash_56 : decode cX12_readClash 56 = .ok (.getfield 13, 3) := by decide +kernel
theorem dX12_readClash_59 : decode cX12_readClash 59 = .ok (.bipush 14, 2) := by decide +kernel
theorem dX12_readClash_61 : decode cX12_readClash 61 = .ok (.aload_n 0, 1) := by decide +kernel
theorem dX12_readClash_62 : decode cX12_readClash 62 = .ok (.getfield 73, 3) := by decide +kernel
theorem dX12_readClash_65 : decode cX12_readClash 65 = .ok (.iadd, 1) := by decide +kernel
theorem dX12_readClash_66 : decode cX12_readClash 66 = .ok (.dup2, 1) := by decide +kernel
theorem dX12_readClash_67 : decode cX12_readClash 67 = .ok (.iaload, 1) := by decide +kernel
theorem dX12_readClash_68 : decode cX12_readClash 68 = .ok (.iconst 1, 1) := by decide +kernel
theorem dX12_readClash_69 : decode cX12_readClash 69 = .ok (.iload_n 1, 1) := by decide +kernel
theorem dX12_readClash_70 : decode cX12_readClash 70 = .ok (.ishl, 1) := by decide +kernel
theorem dX12_readClash_71 : decode cX12_readClash 71 = .ok (.ior, 1) := by decide +kernel
theorem dX12_readClash_72 : decode cX12_readClash 72 = .ok (.iastore, 1) := by decide +kernel
theorem dX12_readClash_73 : decode cX12_readClash 73 = .ok (.aload_n 0, 1) := by decide +kernel
theorem dX12_readClash_74 : decode cX12_readClash 74 = .ok (.invokevirtual 83, 3) := by decide +kernel
theorem dX12_readClash_77 : decode cX12_readClash 77 = .ok (.ireturn, 1) := by decide +kernel
set_option maxRecDepth 20000 in
theorem ggX12_readItem_X12_number : GoodIn wsX12_readItem wsX12_number := goodIn_r _ [8, 1, 2, 9, 10, 11, 7, 12, 13, 14, 15, 16, 17, 18, 19, 20, 21, 22, 23, 24, 33, 34, 35, 36, 37, 38, 39, 40, 41, 42, 43, 44, 45, 46, 47, 48, 49, 50] (by decide +kernel) (by decide +kernel)
set_option maxRecDepth 20000 in
theorem gX12_readItem_X12_number : GoodIn wsX12_readItem (wsV RX12 79 RX12 yX12_number wsX12_number) := goodIn_app (goodIn_of _ (by decide +kernel)) ggX12_readItem_X12_number
set_option maxRecDepth 20000 in
theorem ggX12_readItem_X12_itemEnds : GoodIn wsX12_readItem wsX12_itemEnds := goodIn_r _ [28, 1, 9, 10, 11, 7, 12, 13, 14, 15, 16, 2, 17, 18, 19, 20, 21, 22, 23, 24, 33, 34, 35, 36, 37, 38, 39, 40, 41, 42, 43, 44, 45, 46, 47, 48, 49, 50] (by decide +kernel) (by decide +kernel)
set_option maxRecDepth 20000 in
theorem gX12_readItem_X12_itemEnds : GoodIn wsX12_readItem (wsV RX12 83 RX12 yX12_itemEnds wsX12_itemEnds) := goodIn_app (goodIn_of _ (by decide +kernel)) ggX12_readItem_X12_itemEnds
set_option maxRecDepth 20000 in
theorem ggX12_readItem_X12_readClash : GoodIn wsX12_readItem wsX12_readClash := goodIn_r _ [32, 2, 3, 4, 5, 6, 7, 8, 1, 9, 10, 11, 12, 13, 14, 15, 16, 17, 18, 19, 20, 21, 22, 23, 24, 25, 26, 27, 28, 33, 34, 35, 36, 37, 38, 39, 40, 41, 42, 43, 44, 45, 46, 47, 48, 49, 50] (by decide +kernel) (by decide +kernel)
set_option maxRecDepth 20000 in
theorem gX12_readItem_X12_readClash : GoodIn wsX12_readItem (wsV RX12 87 RX12 yX12_readClash wsX12_readClash) := goodIn_app (goodIn_of _ (by decide +kernel)) ggX12_readItem_X12_readClash
theorem dX12_readItem_0 : decode cX12_readItem 0 = .ok (.aload_n 0, 1) := by decide +kernel
theorem dX12_readItem_1 : decode cX12_readItem 1 = .ok (.getfield 66, 3) := by decide +kernel
theorem dX12_readItem_4 : decode cX12_readItem 4 = .ok (.iconst 1, 1) := by decide +kernel
theorem dX12_readItem_5 : decode cX12_readItem 5 = .ok (.if_icmp .eq 5, 3) := by decide +kernel
theorem dX12_readItem_8 : decode cX12_readItem 8 = .ok (.iconst 0, 1) := by decide +kernel
theorem dX12_readItem_9 : decode cX12_readItem 9 = .ok (.ireturn, 1) := by decide +kernel
theorem dX12_readItem_10 : decode cX12_readItem 10 = .ok (.aload_n 0, 1) := by decide +kernel
theorem dX12_readItem_11 : decode cX12_readItem 11 = .ok (.getfield 73, 3) := by decide +kernel
theorem dX12_readItem_14 : decode cX12_readItem 14 = .ok (.bipush 113, 2) := by decide +kernel
theorem dX12_readItem_16 : decode cX12_readItem 16 = .ok (.if_icmp .ne 34, 3) := by decide +kernel
theorem dX12_readItem_19 : decode cX12_readItem 19 = .ok (.iload_n 1, 1) := by decide +kernel
theorem dX12_readItem_20 : decode cX12_readItem 20 = .ok (.ifCond .gt 13, 3) := by decide +kernel
theorem dX12_readItem_23 : decode cX12_readItem 23 = .ok (.aload_n 0, 1) := by decide +kernel
theorem dX12_readItem_24 : decode cX12_readItem 24 = .ok (.iconst 1, 1) := by decide +kernel
theorem dX12_readItem_25 : decode cX12_readItem 25 = .ok (.bipush 6, 2) := by decide +kernel
theorem dX12_readItem_27 : decode cX12_readItem 27 = .ok (.invokevirtual 79, 3) := by decide +kernel
theorem dX12_readItem_30 : decode cX12_readItem 30 = .ok (.ifCond .ne 5, 3) := by decide +kernel
theorem dX12_readItem_33 : decode cX12_readItem 33 = .ok (.iconst 0, 1) := by decide +kernel
theorem dX12_readItem_34 : decode cX12_readItem 34 = .ok (.ireturn, 1) := by decide +kernel
theorem dX12_readItem_35 : decode cX12_readItem 35 = .ok (.aload_n 0, 1) := by decide +kernel
theorem dX12_readItem_36 : decode cX12_readItem 36 = .ok (.getfield 13, 3) := by decide +kernel
theorem dX12_readItem_39 : decode cX12_readItem 39 = .ok (.iconst 1, 1) := by decide +kernel
theorem dX12_readItem_40 : decode cX12_readItem 40 = .ok (.aload_n 0, 1) := by decide +kernel
theorem dX12_readItem_41 : decode cX12_readItem 41 = .ok (.getfield 73, 3) := by decide +kernel
theorem dX12_readItem_44 : decode cX12_readItem 44 = .ok (.iastore, 1) := by decide +kernel
theorem dX12_readItem_45 : decode cX12_readItem 45 = .ok (.aload_n 0, 1) := by decide +kernel
theorem dX12_readItem_46 : decode cX12_readItem 46 = .ok (.invokevirtual 83, 3) := by decide +kernel
theorem dX12_readItem_49 : decode cX12_readItem 49 = .ok (.ireturn, 1) := by decide +kernel
theorem dX12_readItem_50 : decode cX12_readItem 50 = .ok (.aload_n 0, 1) := by decide +kernel
theorem dX12_readItem_51 : decode cX12_readItem 51 = .ok (.getfield 73, 3) := by decide +kernel
theorem dX12_readItem_54 : decode cX12_readItem 54 = .ok (.bipush 120, 2) := by decide +kernel
theorem dX12_readItem_56 : decode cX12_readItem 56 = .ok (.if_icmp .ne 8, 3) := by decide +kernel
theorem dX12_readItem_59 : decode cX12_readItem 59 = .ok (.aload_n 0, 1) := by decide +kernel
theorem dX12_readItem_60 : decode cX12_readItem 60 = .ok (.invokevirtual 87, 3) := by decide +kernel
theorem dX12_readItem_63 : decode cX12_readItem 63 = .ok (.ireturn, 1) := by decide +kernel
theorem dX12_readItem_64 : decode cX12_readItem 64 = .ok (.iconst 2, 1) := by decide +kernel
theorem dX12_readItem_65 : decode cX12_readItem 65 = .ok (.iconst 2, 1) := by decide +kernel
theorem dX12_readItem_66 : decode cX12_readItem 66 = .ok (.aload_n 0, 1) := by decide +kernel
theorem dX12_readItem_67 : decode cX12_readItem 67 = .ok (.getfield 13, 3) := by decide +kernel
theorem dX12_readItem_70 : decode cX12_readItem 70 = .ok (.iconst 0, 1) := by decide +kernel
theorem dX12_readItem_71 : decode cX12_readItem 71 = .ok (.iaload, 1) := by decide +kernel
theorem dX12_readItem_72 : decode cX12_readItem 72 = .ok (.imul, 1) := by decide +kernel
theorem dX12_readItem_73 : decode cX12_readItem 73 = .ok (.iadd, 1) := by decide +kernel
theorem dX12_readItem_74 : decode cX12_readItem 74 = .ok (.istore_n 2, 1) := by decide +kernel
theorem dX12_readItem_75 : decode cX12_readItem 75 = .ok (.aload_n 0, 1) := by decide +kernel
theorem dX12_readItem_76 : decode cX12_readItem 76 = .ok (.getfield 13, 3) := by decide +kernel
theorem dX12_readItem_79 : decode cX12_readItem 79 = .ok (.iconst 0, 1) := by decide +kernel
theorem dX12_readItem_80 : decode cX12_readItem 80 = .ok (.iaload, 1) := by decide +kernel
theorem dX12_readItem_81 : decode cX12_readItem 81 = .ok (.bipush 6, 2) := by decide +kernel
theorem dX12_readItem_83 : decode cX12_readItem 83 = .ok (.if_icmp .eq 13, 3) := by decide +kernel
theorem dX12_readItem_86 : decode cX12_readItem 86 = .ok (.aload_n 0, 1) := by decide +kernel
theorem dX12_readItem_87 : decode cX12_readItem 87 = .ok (.iconst 0, 1) := by decide +kernel
theorem dX12_readItem_88 : decode cX12_readItem 88 = .ok (.bipush 127, 2) := by decide +kernel
theorem dX12_readItem_90 : decode cX12_readItem 90 = .ok (.invokevirtual 79, 3) := by decide +kernel
theorem dX12_readItem_93 : decode cX12_readItem 93 = .ok (.ifCond .ne 5, 3) := by decide +kernel
theorem dX12_readItem_96 : decode cX12_readItem 96 = .ok (.iconst 0, 1) := by decide +kernel
theorem dX12_readItem_97 : decode cX12_readItem 97 = .ok (.ireturn, 1) := by decide +kernel
theorem dX12_readItem_98 : decode cX12_readItem 98 = .ok (.aload_n 0, 1) := by decide +kernel
theorem dX12_readItem_99 : decode cX12_readItem 99 = .ok (.getfield 13, 3) := by decide +kernel
theorem dX12_readItem_102 : decode cX12_readItem 102 = .ok (.iload_n 2, 1) := by decide +kernel
theorem dX12_readItem_103 : decode cX12_readItem 103 = .ok (.aload_n 0, 1) := by decide +kernel
theorem dX12_readItem_104 : decode cX12_readItem 104 = .ok (.getfield 73, 3) := by decide +kernel
theorem dX12_readItem_107 : decode cX12_readItem 107 = .ok (.iastore, 1) := by decide +kernel
theorem dX12_readItem_108 : decode cX12_readItem 108 = .ok (.aload_n 0, 1) := by decide +kernel
theorem dX12_readItem_109 : decode cX12_readItem 109 = .ok (.iconst 0, 1) := by decide +kernel
theorem dX12_readItem_110 : decode cX12_readItem 110 = .ok (.bipush 10, 2) := by decide +kernel
theorem dX12_readItem_112 : decode cX12_readItem 112 = .ok (.invokevirtual 79, 3) := by decide +kernel
theorem dX12_readItem_115 : decode cX12_readItem 115 = .ok (.ifCond .ne 5, 3) := by decide +kernel
theorem dX12_readItem_118 : decode cX12_readItem 118 = .ok (.iconst 0, 1) := by decide +kernel
theorem dX12_readItem_119 : decode cX12_readItem 119 = .ok (.ireturn, 1) := by decide +kernel
theorem dX12_readItem_120 : decode cX12_readItem 120 = .ok (.aload_n 0, 1) := by decide +kernel
theorem dX12_readItem_121 : decode cX12_readItem 121 = .ok (.getfield 13, 3) := by decide +kernel
theorem dX12_readItem_124 : decode cX12_readItem 124 = .ok (.iload_n 2, 1) := by decide +kernel
theorem dX12_readItem_125 : decode cX12_readItem 125 = .ok (.iconst 1, 1) := by decide +kernel
theorem dX12_readItem_126 : decode cX12_readItem 126 = .ok (.iadd, 1) := by decide +kernel
theorem dX12_readItem_127 : decode cX12_readItem 127 = .ok (.aload_n 0, 1) := by decide +kernel
theorem dX12_readItem_128 : decode cX12_readItem 128 = .ok (.getfield 73, 3) := by decide +kernel
theorem dX12_readItem_131 : decode cX12_readItem 131 = .ok (.iastore, 1) := by decide +kernel
theorem dX12_readItem_132 : decode cX12_readItem 132 = .ok (.aload_n 0, 1) := by decide +kernel
theorem dX12_readItem_133 : decode cX12_readItem 133 = .ok (.getfield 13, 3) := by decide +kernel
theorem dX12_readItem_136 : decode cX12_readItem 136 = .ok (.iconst 0, 1) := by decide +kernel
theorem dX12_readItem_137 : decode cX12_readItem 137 = .ok (.dup2, 1) := by decide +kernel
theorem dX12_readItem_138 : decode cX12_readItem 138 = .ok (.iaload, 1) := by decide +kernel
theorem dX12_readItem_139 : decode cX12_readItem 139 = .ok (.iconst 1, 1) := by decide +kernel
theorem dX12_readItem_140 : decode cX12_readItem 140 = .ok (.iadd, 1) := by decide +kernel
theorem dX12_readItem_141 : decode cX12_readItem 141 = .ok (.iastore, 1) := by decide +kernel
theorem dX12_readItem_142 : decode cX12_readItem 142 = .ok (.aload_n 0, 1) := by decide +kernel
theorem dX12_readItem_143 : decode cX12_readItem 143 = .ok (.invokevirtual 83, 3) := by decide +kernel
theorem dX12_readItem_146 : decode cX12_readItem 146 = .ok (.ireturn, 1) := by decide +kernel
set_option maxRecDepth 20000 in
theorem ggX12_court_X12_plain : GoodIn wsX12_court wsX12_plain := goodIn_r _ [9, 10, 50, 51, 52, 53, 54, 55, 56, 57, 58, 59, 60, 61, 62, 63, 64, 65, 66, 67] (by decide +kernel) (by decide +kernel)
set_option maxRecDepth 20000 in
theorem gX12_court_X12_plain : GoodIn wsX12_court (wsV RX12 40 RX12 yX12_plain wsX12_plain) := goodIn_app (goodIn_of _ (by decide +kernel)) ggX12_court_X12_plain
set_option maxRecDepth 20000 in
theorem ggX12_court_X12_reads : GoodIn wsX12_court wsX12_reads := goodIn_r _ [14, 1, 4, 15, 3, 2, 16, 17, 18, 8, 19, 20, 21, 22, 23, 24, 50, 51, 52, 53, 54, 55, 56, 57, 58, 59, 60, 61, 62, 63, 64, 65, 66, 67] (by decide +kernel) (by decide +kernel)
set_option maxRecDepth 20000 in
theorem gX12_court_X12_reads : GoodIn wsX12_court (wsV RX12 76 RX12 yX12_reads wsX12_reads) := goodIn_app (goodIn_of _ (by decide +kernel)) ggX12_court_X12_reads
set_option maxRecDepth 20000 in
theorem ggX12_court_X12_readItem : GoodIn wsX12_court wsX12_readItem := goodIn_r _ [28, 2, 16, 10, 29, 30, 31, 8, 32, 11, 12, 13, 14, 1, 4, 15, 3, 17, 18, 19, 20, 21, 22, 23, 24, 33, 34, 35, 36, 37, 38, 39, 40, 50, 51, 52, 53, 54, 55, 56, 57, 58, 59, 60, 61, 62, 63, 64, 65, 66, 67] (by decide +kernel) (by decide +kernel)
set_option maxRecDepth 20000 in
theorem gX12_court_X12_readItem : GoodIn wsX12_court (wsV RX12 90 RX12 yX12_readItem wsX12_readItem) := goodIn_app (goodIn_of _ (by decide +kernel)) ggX12_court_X12_readItem
set_option maxRecDepth 20000 in
theorem ggX12_court_X12_takes : GoodIn wsX12_court wsX12_takes := goodIn_r _ [44, 45, 10, 46, 47, 48, 49, 50, 51, 52, 53, 54, 55, 56, 57, 58, 59, 60, 61, 62, 63, 64, 65, 66, 67] (by decide +kernel) (by decide +kernel)
set_option maxRecDepth 20000 in
theorem gX12_court_X12_takes : GoodIn wsX12_court (wsV RX12 43 RX12 yX12_takes wsX12_takes) := goodIn_app (goodIn_of _ (by decide +kernel)) ggX12_court_X12_takes
theorem dX12_court_0 : decode cX12_court 0 = .ok (.aload_n 0, 1) := by decide +kernel
theorem dX12_court_1 : decode cX12_court 1 = .ok (.invokevirtual 40, 3) := by decide +kernel
theorem dX12_court_4 : decode cX12_court 4 = .ok (.aload_n 0, 1) := by decide +kernel
theorem dX12_court_5 : decode cX12_court 5 = .ok (.iconst 0, 1) := by decide +kernel
theorem dX12_court_6 : decode cX12_court 6 = .ok (.putfield 60, 3) := by decide +kernel
theorem dX12_court_9 : decode cX12_court 9 = .ok (.iconst 0, 1) := by decide +kernel
theorem dX12_court_10 : decode cX12_court 10 = .ok (.istore_n 1, 1) := by decide +kernel
theorem dX12_court_11 : decode cX12_court 11 = .ok (.aload_n 0, 1) := by decide +kernel
theorem dX12_court_12 : decode cX12_court 12 = .ok (.invokevirtual 76, 3) := by decide +kernel
theorem dX12_court_15 : decode cX12_court 15 = .ok (.aload_n 0, 1) := by decide +kernel
theorem dX12_court_16 : decode cX12_court 16 = .ok (.getfield 66, 3) := by decide +kernel
theorem dX12_court_19 : decode cX12_court 19 = .ok (.ifCond .eq 29, 3) := by decide +kernel
theorem dX12_court_22 : decode cX12_court 22 = .ok (.aload_n 0, 1) := by decide +kernel
theorem dX12_court_23 : decode cX12_court 23 = .ok (.iload_n 1, 1) := by decide +kernel
theorem dX12_court_24 : decode cX12_court 24 = .ok (.invokevirtual 90, 3) := by decide +kernel
theorem dX12_court_27 : decode cX12_court 27 = .ok (.ifCond .ne 11, 3) := by decide +kernel
theorem dX12_court_30 : decode cX12_court 30 = .ok (.bipush (-10), 2) := by decide +kernel
theorem dX12_court_32 : decode cX12_court 32 = .ok (.aload_n 0, 1) := by decide +kernel
theorem dX12_court_33 : decode cX12_court 33 = .ok (.getfield 63, 3) := by decide +kernel
theorem dX12_court_36 : decode cX12_court 36 = .ok (.isub, 1) := by decide +kernel
theorem dX12_court_37 : decode cX12_court 37 = .ok (.ireturn, 1) := by decide +kernel
theorem dX12_court_38 : decode cX12_court 38 = .ok (.iinc 1 1, 3) := by decide +kernel
theorem dX12_court_41 : decode cX12_court 41 = .ok (.aload_n 0, 1) := by decide +kernel
theorem dX12_court_42 : decode cX12_court 42 = .ok (.invokevirtual 76, 3) := by decide +kernel
theorem dX12_court_45 : decode cX12_court 45 = .ok (.goto (-30), 3) := by decide +kernel
theorem dX12_court_48 : decode cX12_court 48 = .ok (.aload_n 0, 1) := by decide +kernel
theorem dX12_court_49 : decode cX12_court 49 = .ok (.iconst 0, 1) := by decide +kernel
theorem dX12_court_50 : decode cX12_court 50 = .ok (.putfield 52, 3) := by decide +kernel
theorem dX12_court_53 : decode cX12_court 53 = .ok (.aload_n 0, 1) := by decide +kernel
theorem dX12_court_54 : decode cX12_court 54 = .ok (.invokevirtual 43, 3) := by decide +kernel
theorem dX12_court_57 : decode cX12_court 57 = .ok (.iload_n 1, 1) := by decide +kernel
theorem dX12_court_58 : decode cX12_court 58 = .ok (.ireturn, 1) := by decide +kernel
theorem dX12_takes_0 : decode cX12_takes 0 = .ok (.iconst 0, 1) := by decide +kernel
theorem dX12_takes_1 : decode cX12_takes 1 = .ok (.istore_n 1, 1) := by decide +kernel
theorem dX12_takes_2 : decode cX12_takes 2 = .ok (.iload_n 1, 1) := by decide +kernel
theorem dX12_takes_3 : decode cX12_takes 3 = .ok (.bipush 21, 2) := by decide +kernel
theorem dX12_takes_5 : decode cX12_takes 5 = .ok (.if_icmp .ge 21, 3) := by decide +kernel
theorem dX12_takes_8 : decode cX12_takes 8 = .ok (.aload_n 0, 1) := by decide +kernel
theorem dX12_takes_9 : decode cX12_takes 9 = .ok (.getfield 16, 3) := by decide +kernel
theorem dX12_takes_12 : decode cX12_takes 12 = .ok (.iload_n 1, 1) := by decide +kernel
theorem dX12_takes_13 : decode cX12_takes 13 = .ok (.aload_n 0, 1) := by decide +kernel
theorem dX12_takes_14 : decode cX12_takes 14 = .ok (.getfield 13, 3) := by decide +kernel
theorem dX12_takes_17 : decode cX12_takes 17 = .ok (.iload_n 1, 1) := by decide +kernel
theorem dX12_takes_18 : decode cX12_takes 18 = .ok (.iaload, 1) := by decide +kernel
theorem dX12_takes_19 : decode cX12_takes 19 = .ok (.iastore, 1) := by decide +kernel
theorem dX12_takes_20 : decode cX12_takes 20 = .ok (.iinc 1 1, 3) := by decide +kernel
theorem dX12_takes_23 : decode cX12_takes 23 = .ok (.goto (-21), 3) := by decide +kernel
theorem dX12_takes_26 : decode cX12_takes 26 = .ok (.iconst 0, 1) := by decide +kernel
theorem dX12_takes_27 : decode cX12_takes 27 = .ok (.istore_n 1, 1) := by decide +kernel
theorem dX12_takes_28 : decode cX12_takes 28 = .ok (.iload_n 1, 1) := by decide +kernel
theorem dX12_takes_29 : decode cX12_takes 29 = .ok (.bipush 50, 2) := by decide +kernel
theorem dX12_takes_31 : decode cX12_takes 31 = .ok (.if_icmp .ge 16, 3) := by decide +kernel
theorem dX12_takes_34 : decode cX12_takes 34 = .ok (.aload_n 0, 1) := by decide +kernel
theorem dX12_takes_35 : decode cX12_takes 35 = .ok (.getfield 19, 3) := by decide +kernel
theorem dX12_takes_38 : decode cX12_takes 38 = .ok (.iload_n 1, 1) := by decide +kernel
theorem dX12_takes_39 : decode cX12_takes 39 = .ok (.iconst 0, 1) := by decide +kernel
theorem dX12_takes_40 : decode cX12_takes 40 = .ok (.iastore, 1) := by decide +kernel
theorem dX12_takes_41 : decode cX12_takes 41 = .ok (.iinc 1 1, 3) := by decide +kernel
theorem dX12_takes_44 : decode cX12_takes 44 = .ok (.goto (-16), 3) := by decide +kernel
theorem dX12_takes_47 : decode cX12_takes 47 = .ok (.iconst 0, 1) := by decide +kernel
theorem dX12_takes_48 : decode cX12_takes 48 = .ok (.istore_n 1, 1) := by decide +kernel
theorem dX12_takes_49 : decode cX12_takes 49 = .ok (.iload_n 1, 1) := by decide +kernel
theorem dX12_takes_50 : decode cX12_takes 50 = .ok (.bipush 6, 2) := by decide +kernel
theorem dX12_takes_52 : decode cX12_takes 52 = .ok (.if_icmp .ge 43, 3) := by decide +kernel
theorem dX12_takes_55 : decode cX12_takes 55 = .ok (.aload_n 0, 1) := by decide +kernel
theorem dX12_takes_56 : decode cX12_takes 56 = .ok (.getfield 19, 3) := by decide +kernel
theorem dX12_takes_59 : decode cX12_takes 59 = .ok (.iconst 2, 1) := by decide +kernel
theorem dX12_takes_60 : decode cX12_takes 60 = .ok (.iload_n 1, 1) := by decide +kernel
theorem dX12_takes_61 : decode cX12_takes 61 = .ok (.iadd, 1) := by decide +kernel
theorem dX12_takes_62 : decode cX12_takes 62 = .ok (.iload_n 1, 1) := by decide +kernel
theorem dX12_takes_63 : decode cX12_takes 63 = .ok (.aload_n 0, 1) := by decide +kernel
theorem dX12_takes_64 : decode cX12_takes 64 = .ok (.getfield 16, 3) := by decide +kernel
theorem dX12_takes_67 : decode cX12_takes 67 = .ok (.iconst 0, 1) := by decide +kernel
theorem dX12_takes_68 : decode cX12_takes 68 = .ok (.iaload, 1) := by decide +kernel
theorem dX12_takes_69 : decode cX12_takes 69 = .ok (.if_icmp .ge 17, 3) := by decide +kernel
theorem dX12_takes_72 : decode cX12_takes 72 = .ok (.iload_n 1, 1) := by decide +kernel
theorem dX12_takes_73 : decode cX12_takes 73 = .ok (.aload_n 0, 1) := by decide +kernel
theorem dX12_takes_74 : decode cX12_takes 74 = .ok (.getfield 16, 3) := by decide +kernel
theorem dX12_takes_77 : decode cX12_takes 77 = .ok (.iconst 1, 1) := by decide +kernel
theorem dX12_takes_78 : decode cX12_takes 78 = .ok (.iaload, 1) := by decide +kernel
theorem dX12_takes_79 : decode cX12_takes 79 = .ok (.if_icmp .ge 7, 3) := by decide +kernel
theorem dX12_takes_82 : decode cX12_takes 82 = .ok (.iload_n 1, 1) := by decide +kernel
theorem dX12_takes_83 : decode cX12_takes 83 = .ok (.goto 5, 3) := by decide +kernel
theorem dX12_takes_86 : decode cX12_takes 86 = .ok (.bipush (-9), 2) := by decide +kernel
theorem dX12_takes_88 : decode cX12_takes 88 = .ok (.iastore, 1) := by decide +kernel
theorem dX12_takes_89 : decode cX12_takes 89 = .ok (.iinc 1 1, 3) := by decide +kernel
theorem dX12_takes_92 : decode cX12_takes 92 = .ok (.goto (-43), 3) := by decide +kernel
theorem dX12_takes_95 : decode cX12_takes 95 = .ok (.aload_n 0, 1) := by decide +kernel
theorem dX12_takes_96 : decode cX12_takes 96 = .ok (.iconst 0, 1) := by decide +kernel
theorem dX12_takes_97 : decode cX12_takes 97 = .ok (.putfield 93, 3) := by decide +kernel
theorem dX12_takes_100 : decode cX12_takes 100 = .ok (.aload_n 0, 1) := by decide +kernel
theorem dX12_takes_101 : decode cX12_takes 101 = .ok (.iconst 0, 1) := by decide +kernel
theorem dX12_takes_102 : decode cX12_takes 102 = .ok (.putfield 96, 3) := by decide +kernel
theorem dX12_takes_105 : decode cX12_takes 105 = .ok (.aload_n 0, 1) := by decide +kernel
theorem dX12_takes_106 : decode cX12_takes 106 = .ok (.getfield 37, 3) := by decide +kernel
theorem dX12_takes_109 : decode cX12_takes 109 = .ok (.iconst 0, 1) := by decide +kernel
theorem dX12_takes_110 : decode cX12_takes 110 = .ok (.iconst 0, 1) := by decide +kernel
theorem dX12_takes_111 : decode cX12_takes 111 = .ok (.iastore, 1) := by decide +kernel
theorem dX12_takes_112 : decode cX12_takes 112 = .ok (.aload_n 0, 1) := by decide +kernel
theorem dX12_takes_113 : decode cX12_takes 113 = .ok (.getfield 37, 3) := by decide +kernel
theorem dX12_takes_116 : decode cX12_takes 116 = .ok (.bipush 51, 2) := by decide +kernel
theorem dX12_takes_118 : decode cX12_takes 118 = .ok (.iconst 0, 1) := by decide +kernel
theorem dX12_takes_119 : decode cX12_takes 119 = .ok (.iastore, 1) := by decide +kernel
theorem dX12_takes_120 : decode cX12_takes 120 = .ok (.return_, 1) := by decide +kernel
set_option maxRecDepth 20000 in
theorem ggX12_isPerson_X12_in : GoodIn wsX12_isPerson wsX12_in := goodIn_r _ [5] (by decide +kernel) (by decide +kernel)
set_option maxRecDepth 20000 in
theorem gX12_isPerson_X12_in : GoodIn wsX12_isPerson (va_wsS RX12 48 yX12_in wsX12_in) := goodIn_app (goodIn_of _ (by decide +kernel)) ggX12_isPerson_X12_in
theorem dX12_isPerson_0 : decode cX12_isPerson 0 = .ok (.iload_n 1, 1) := by decide +kernel
theorem dX12_isPerson_1 : decode cX12_isPerson 1 = .ok (.i2l, 1) := by decide +kernel
theorem dX12_isPerson_2 : decode cX12_isPerson 2 = .ok (.lconst 0, 1) := by decide +kernel
theorem dX12_isPerson_3 : decode cX12_isPerson 3 = .ok (.aload_n 0, 1) := by decide +kernel
theorem dX12_isPerson_4 : decode cX12_isPerson 4 = .ok (.getfield 16, 3) := by decide +kernel
theorem dX12_isPerson_7 : decode cX12_isPerson 7 = .ok (.iconst 0, 1) := by decide +kernel
theorem dX12_isPerson_8 : decode cX12_isPerson 8 = .ok (.iaload, 1) := by decide +kernel
theorem dX12_isPerson_9 : decode cX12_isPerson 9 = .ok (.iconst 1, 1) := by decide +kernel
theorem dX12_isPerson_10 : decode cX12_isPerson 10 = .ok (.isub, 1) := by decide +kernel
theorem dX12_isPerson_11 : decode cX12_isPerson 11 = .ok (.i2l, 1) := by decide +kernel
theorem dX12_isPerson_12 : decode cX12_isPerson 12 = .ok (.invokestatic 48, 3) := by decide +kernel
theorem dX12_isPerson_15 : decode cX12_isPerson 15 = .ok (.ireturn, 1) := by decide +kernel
set_option maxRecDepth 20000 in
theorem ggX12_isPillow_X12_in : GoodIn wsX12_isPillow wsX12_in := goodIn_r _ [5] (by decide +kernel) (by decide +kernel)
set_option maxRecDepth 20000 in
theorem gX12_isPillow_X12_in : GoodIn wsX12_isPillow (va_wsS RX12 48 yX12_in wsX12_in) := goodIn_app (goodIn_of _ (by decide +kernel)) ggX12_isPillow_X12_in
theorem dX12_isPillow_0 : decode cX12_isPillow 0 = .ok (.iload_n 1, 1) := by decide +kernel
theorem dX12_isPillow_1 : decode cX12_isPillow 1 = .ok (.i2l, 1) := by decide +kernel
theorem dX12_isPillow_2 : decode cX12_isPillow 2 = .ok (.lconst 0, 1) := by decide +kernel
theorem dX12_isPillow_3 : decode cX12_isPillow 3 = .ok (.aload_n 0, 1) := by decide +kernel
theorem dX12_isPillow_4 : decode cX12_isPillow 4 = .ok (.getfield 16, 3) := by decide +kernel
theorem dX12_isPillow_7 : decode cX12_isPillow 7 = .ok (.iconst 1, 1) := by decide +kernel
theorem dX12_isPillow_8 : decode cX12_isPillow 8 = .ok (.iaload, 1) := by decide +kernel
theorem dX12_isPillow_9 : decode cX12_isPillow 9 = .ok (.iconst 1, 1) := by decide +kernel
theorem dX12_isPillow_10 : decode cX12_isPillow 10 = .ok (.isub, 1) := by decide +kernel
theorem dX12_isPillow_11 : decode cX12_isPillow 11 = .ok (.i2l, 1) := by decide +kernel
theorem dX12_isPillow_12 : decode cX12_isPillow 12 = .ok (.invokestatic 48, 3) := by decide +kernel
theorem dX12_isPillow_15 : decode cX12_isPillow 15 = .ok (.ireturn, 1) := by decide +kernel
set_option maxRecDepth 20000 in
theorem ggX12_isThing_X12_in : GoodIn wsX12_isThing wsX12_in := goodIn_r _ [5] (by decide +kernel) (by decide +kernel)
set_option maxRecDepth 20000 in
theorem gX12_isThing_X12_in : GoodIn wsX12_isThing (va_wsS RX12 48 yX12_in wsX12_in) := goodIn_app (goodIn_of _ (by decide +kernel)) ggX12_isThing_X12_in
theorem dX12_isThing_0 : decode cX12_isThing 0 = .ok (.iload_n 0, 1) := by decide +kernel
theorem dX12_isThing_1 : decode cX12_isThing 1 = .ok (.i2l, 1) := by decide +kernel
theorem dX12_isThing_2 : decode cX12_isThing 2 = .ok (.lconst 0, 1) := by decide +kernel
theorem dX12_isThing_3 : decode cX12_isThing 3 = .ok (.ldc2_w 99, 3) := by decide +kernel
theorem dX12_isThing_6 : decode cX12_isThing 6 = .ok (.invokestatic 48, 3) := by decide +kernel
theorem dX12_isThing_9 : decode cX12_isThing 9 = .ok (.ireturn, 1) := by decide +kernel
theorem dX12_knows_0 : decode cX12_knows 0 = .ok (.aload_n 0, 1) := by decide +kernel
theorem dX12_knows_1 : decode cX12_knows 1 = .ok (.getfield 16, 3) := by decide +kernel
theorem dX12_knows_4 : decode cX12_knows 4 = .ok (.iconst 2, 1) := by decide +kernel
theorem dX12_knows_5 : decode cX12_knows 5 = .ok (.iconst 2, 1) := by decide +kernel
theorem dX12_knows_6 : decode cX12_knows 6 = .ok (.iload_n 1, 1) := by decide +kernel
theorem dX12_knows_7 : decode cX12_knows 7 = .ok (.imul, 1) := by decide +kernel
theorem dX12_knows_8 : decode cX12_knows 8 = .ok (.iadd, 1) := by decide +kernel
theorem dX12_knows_9 : decode cX12_knows 9 = .ok (.iaload, 1) := by decide +kernel
theorem dX12_knows_10 : decode cX12_knows 10 = .ok (.ireturn, 1) := by decide +kernel
theorem dX12_many_0 : decode cX12_many 0 = .ok (.iconst 0, 1) := by decide +kernel
theorem dX12_many_1 : decode cX12_many 1 = .ok (.istore_n 1, 1) := by decide +kernel
theorem dX12_many_2 : decode cX12_many 2 = .ok (.iload_n 0, 1) := by decide +kernel
theorem dX12_many_3 : decode cX12_many 3 = .ok (.istore_n 2, 1) := by decide +kernel
theorem dX12_many_4 : decode cX12_many 4 = .ok (.iload_n 2, 1) := by decide +kernel
theorem dX12_many_5 : decode cX12_many 5 = .ok (.ifCond .eq 15, 3) := by decide +kernel
theorem dX12_many_8 : decode cX12_many 8 = .ok (.iinc 1 1, 3) := by decide +kernel
theorem dX12_many_11 : decode cX12_many 11 = .ok (.iload_n 2, 1) := by decide +kernel
theorem dX12_many_12 : decode cX12_many 12 = .ok (.iload_n 2, 1) := by decide +kernel
theorem dX12_many_13 : decode cX12_many 13 = .ok (.iconst 1, 1) := by decide +kernel
theorem dX12_many_14 : decode cX12_many 14 = .ok (.isub, 1) := by decide +kernel
theorem dX12_many_15 : decode cX12_many 15 = .ok (.iand, 1) := by decide +kernel
theorem dX12_many_16 : decode cX12_many 16 = .ok (.istore_n 2, 1) := by decide +kernel
theorem dX12_many_17 : decode cX12_many 17 = .ok (.goto (-13), 3) := by decide +kernel
theorem dX12_many_20 : decode cX12_many 20 = .ok (.iload_n 1, 1) := by decide +kernel
theorem dX12_many_21 : decode cX12_many 21 = .ok (.ireturn, 1) := by decide +kernel
theorem dX12_often_0 : decode cX12_often 0 = .ok (.aload_n 0, 1) := by decide +kernel
theorem dX12_often_1 : decode cX12_often 1 = .ok (.getfield 19, 3) := by decide +kernel
theorem dX12_often_4 : decode cX12_often 4 = .ok (.bipush 8, 2) := by decide +kernel
theorem dX12_often_6 : decode cX12_often 6 = .ok (.bipush 7, 2) := by decide +kernel
theorem dX12_often_8 : decode cX12_often 8 = .ok (.iload_n 1, 1) := by decide +kernel
theorem dX12_often_9 : decode cX12_often 9 = .ok (.imul, 1) := by decide +kernel
theorem dX12_often_10 : decode cX12_often 10 = .ok (.iadd, 1) := by decide +kernel
theorem dX12_often_11 : decode cX12_often 11 = .ok (.iload_n 2, 1) := by decide +kernel
theorem dX12_often_12 : decode cX12_often 12 = .ok (.iadd, 1) := by decide +kernel
theorem dX12_often_13 : decode cX12_often 13 = .ok (.iaload, 1) := by decide +kernel
theorem dX12_often_14 : decode cX12_often 14 = .ok (.ireturn, 1) := by decide +kernel
set_option maxRecDepth 20000 in
theorem ggX12_hears_X12_often : GoodIn wsX12_hears wsX12_often := goodIn_r _ [5, 6, 7, 8, 9, 10, 11, 12, 13, 14, 15, 16, 17, 18, 19, 20, 21, 22, 23, 24] (by decide +kernel) (by decide +kernel)
set_option maxRecDepth 20000 in
theorem gX12_hears_X12_often : GoodIn wsX12_hears (wsV RX12 101 RX12 yX12_often wsX12_often) := goodIn_app (goodIn_of _ (by decide +kernel)) ggX12_hears_X12_often
theorem dX12_hears_0 : decode cX12_hears 0 = .ok (.iconst 0, 1) := by decide +kernel
theorem dX12_hears_1 : decode cX12_hears 1 = .ok (.istore_n 2, 1) := by decide +kernel
theorem dX12_hears_2 : decode cX12_hears 2 = .ok (.iconst 0, 1) := by decide +kernel
theorem dX12_hears_3 : decode cX12_hears 3 = .ok (.istore_n 3, 1) := by decide +kernel
theorem dX12_hears_4 : decode cX12_hears 4 = .ok (.iload_n 3, 1) := by decide +kernel
theorem dX12_hears_5 : decode cX12_hears 5 = .ok (.bipush 7, 2) := by decide +kernel
theorem dX12_hears_7 : decode cX12_hears 7 = .ok (.if_icmp .ge 28, 3) := by decide +kernel
theorem dX12_hears_10 : decode cX12_hears 10 = .ok (.iload_n 2, 1) := by decide +kernel
theorem dX12_hears_11 : decode cX12_hears 11 = .ok (.aload_n 0, 1) := by decide +kernel
theorem dX12_hears_12 : decode cX12_hears 12 = .ok (.iload_n 1, 1) := by decide +kernel
theorem dX12_hears_13 : decode cX12_hears 13 = .ok (.iload_n 3, 1) := by decide +kernel
theorem dX12_hears_14 : decode cX12_hears 14 = .ok (.invokevirtual 101, 3) := by decide +kernel
theorem dX12_hears_17 : decode cX12_hears 17 = .ok (.ifCond .le 9, 3) := by decide +kernel
theorem dX12_hears_20 : decode cX12_hears 20 = .ok (.iconst 1, 1) := by decide +kernel
theorem dX12_hears_21 : decode cX12_hears 21 = .ok (.iload_n 3, 1) := by decide +kernel
theorem dX12_hears_22 : decode cX12_hears 22 = .ok (.ishl, 1) := by decide +kernel
theorem dX12_hears_23 : decode cX12_hears 23 = .ok (.goto 4, 3) := by decide +kernel
theorem dX12_hears_26 : decode cX12_hears 26 = .ok (.iconst 0, 1) := by decide +kernel
theorem dX12_hears_27 : decode cX12_hears 27 = .ok (.ior, 1) := by decide +kernel
theorem dX12_hears_28 : decode cX12_hears 28 = .ok (.istore_n 2, 1) := by decide +kernel
theorem dX12_hears_29 : decode cX12_hears 29 = .ok (.iinc 3 1, 3) := by decide +kernel
theorem dX12_hears_32 : decode cX12_hears 32 = .ok (.goto (-28), 3) := by decide +kernel
theorem dX12_hears_35 : decode cX12_hears 35 = .ok (.iload_n 2, 1) := by decide +kernel
theorem dX12_hears_36 : decode cX12_hears 36 = .ok (.ireturn, 1) := by decide +kernel
set_option maxRecDepth 20000 in
theorem ggX12_hear_X12_hears : GoodIn wsX12_hear wsX12_hears := goodIn_r _ [6, 7, 8, 9, 5, 10, 11, 12, 13, 14, 15, 16, 17, 18, 19, 20, 21, 22, 23, 24, 25, 26, 27, 28, 29] (by decide +kernel) (by decide +kernel)
set_option maxRecDepth 20000 in
theorem gX12_hear_X12_hears : GoodIn wsX12_hear (wsV RX12 105 RX12 yX12_hears wsX12_hears) := goodIn_app (goodIn_of _ (by decide +kernel)) ggX12_hear_X12_hears
theorem dX12_hear_0 : decode cX12_hear 0 = .ok (.iconst 0, 1) := by decide +kernel
theorem dX12_hear_1 : decode cX12_hear 1 = .ok (.istore_n 2, 1) := by decide +kernel
theorem dX12_hear_2 : decode cX12_hear 2 = .ok (.iconst 0, 1) := by decide +kernel
theorem dX12_hear_3 : decode cX12_hear 3 = .ok (.istore_n 3, 1) := by decide +kernel
theorem dX12_hear_4 : decode cX12_hear 4 = .ok (.iload_n 3, 1) := by decide +kernel
theorem dX12_hear_5 : decode cX12_hear 5 = .ok (.aload_n 0, 1) := by decide +kernel
theorem dX12_hear_6 : decode cX12_hear 6 = .ok (.getfield 16, 3) := by decide +kernel
theorem dX12_hear_9 : decode cX12_hear 9 = .ok (.iconst 1, 1) := by decide +kernel
theorem dX12_hear_10 : decode cX12_hear 10 = .ok (.iaload, 1) := by decide +kernel
theorem dX12_hear_11 : decode cX12_hear 11 = .ok (.if_icmp .ge 30, 3) := by decide +kernel
theorem dX12_hear_14 : decode cX12_hear 14 = .ok (.iload_n 2, 1) := by decide +kernel
theorem dX12_hear_15 : decode cX12_hear 15 = .ok (.iload_n 1, 1) := by decide +kernel
theorem dX12_hear_16 : decode cX12_hear 16 = .ok (.iload_n 3, 1) := by decide +kernel
theorem dX12_hear_17 : decode cX12_hear 17 = .ok (.ishr, 1) := by decide +kernel
theorem dX12_hear_18 : decode cX12_hear 18 = .ok (.iconst 1, 1) := by decide +kernel
theorem dX12_hear_19 : decode cX12_hear 19 = .ok (.iand, 1) := by decide +kernel
theorem dX12_hear_20 : decode cX12_hear 20 = .ok (.iconst 1, 1) := by decide +kernel
theorem dX12_hear_21 : decode cX12_hear 21 = .ok (.if_icmp .ne 11, 3) := by decide +kernel
theorem dX12_hear_24 : decode cX12_hear 24 = .ok (.aload_n 0, 1) := by decide +kernel
theorem dX12_hear_25 : decode cX12_hear 25 = .ok (.iload_n 3, 1) := by decide +kernel
theorem dX12_hear_26 : decode cX12_hear 26 = .ok (.invokevirtual 105, 3) := by decide +kernel
theorem dX12_hear_29 : decode cX12_hear 29 = .ok (.goto 4, 3) := by decide +kernel
theorem dX12_hear_32 : decode cX12_hear 32 = .ok (.iconst 0, 1) := by decide +kernel
theorem dX12_hear_33 : decode cX12_hear 33 = .ok (.ior, 1) := by decide +kernel
theorem dX12_hear_34 : decode cX12_hear 34 = .ok (.istore_n 2, 1) := by decide +kernel
theorem dX12_hear_35 : decode cX12_hear 35 = .ok (.iinc 3 1, 3) := by decide +kernel
theorem dX12_hear_38 : decode cX12_hear 38 = .ok (.goto (-34), 3) := by decide +kernel
theorem dX12_hear_41 : decode cX12_hear 41 = .ok (.iload_n 2, 1) := by decide +kernel
theorem dX12_hear_42 : decode cX12_hear 42 = .ok (.ireturn, 1) := by decide +kernel
theorem dX12_lieOn_0 : decode cX12_lieOn 0 = .ok (.iconst 0, 1) := by decide +kernel
theorem dX12_lieOn_1 : decode cX12_lieOn 1 = .ok (.istore_n 2, 1) := by decide +kernel
theorem dX12_lieOn_2 : decode cX12_lieOn 2 = .ok (.iconst 0, 1) := by decide +kernel
theorem dX12_lieOn_3 : decode cX12_lieOn 3 = .ok (.istore_n 3, 1) := by decide +kernel
theorem dX12_lieOn_4 : decode cX12_lieOn 4 = .ok (.iload_n 3, 1) := by decide +kernel
theorem dX12_lieOn_5 : decode cX12_lieOn 5 = .ok (.aload_n 0, 1) := by decide +kernel
theorem dX12_lieOn_6 : decode cX12_lieOn 6 = .ok (.getfield 16, 3) := by decide +kernel
theorem dX12_lieOn_9 : decode cX12_lieOn 9 = .ok (.iconst 0, 1) := by decide +kernel
theorem dX12_lieOn_10 : decode cX12_lieOn 10 = .ok (.iaload, 1) := by decide +kernel
theorem dX12_lieOn_11 : decode cX12_lieOn 11 = .ok (.if_icmp .ge 31, 3) := by decide +kernel
theorem dX12_lieOn_14 : decode cX12_lieOn 14 = .ok (.iload_n 2, 1) := by decide +kernel
theorem dX12_lieOn_15 : decode cX12_lieOn 15 = .ok (.aload_n 0, 1) := by decide +kernel
theorem dX12_lieOn_16 : decode cX12_lieOn 16 = .ok (.getfield 19, 3) := by decide +kernel
theorem dX12_lieOn_19 : decode cX12_lieOn 19 = .ok (.iconst 2, 1) := by decide +kernel
theorem dX12_lieOn_20 : decode cX12_lieOn 20 = .ok (.iload_n 3, 1) := by decide +kernel
theorem dX12_lieOn_21 : decode cX12_lieOn 21 = .ok (.iadd, 1) := by decide +kernel
theorem dX12_lieOn_22 : decode cX12_lieOn 22 = .ok (.iaload, 1) := by decide +kernel
theorem dX12_lieOn_23 : decode cX12_lieOn 23 = .ok (.iload_n 1, 1) := by decide +kernel
theorem dX12_lieOn_24 : decode cX12_lieOn 24 = .ok (.if_icmp .ne 9, 3) := by decide +kernel
theorem dX12_lieOn_27 : decode cX12_lieOn 27 = .ok (.iconst 1, 1) := by decide +kernel
theorem dX12_lieOn_28 : decode cX12_lieOn 28 = .ok (.iload_n 3, 1) := by decide +kernel
theorem dX12_lieOn_29 : decode cX12_lieOn 29 = .ok (.ishl, 1) := by decide +kernel
theorem dX12_lieOn_30 : decode cX12_lieOn 30 = .ok (.goto 4, 3) := by decide +kernel
theorem dX12_lieOn_33 : decode cX12_lieOn 33 = .ok (.iconst 0, 1) := by decide +kernel
theorem dX12_lieOn_34 : decode cX12_lieOn 34 = .ok (.ior, 1) := by decide +kernel
theorem dX12_lieOn_35 : decode cX12_lieOn 35 = .ok (.istore_n 2, 1) := by decide +kernel
theorem dX12_lieOn_36 : decode cX12_lieOn 36 = .ok (.iinc 3 1, 3) := by decide +kernel
theorem dX12_lieOn_39 : decode cX12_lieOn 39 = .ok (.goto (-35), 3) := by decide +kernel
theorem dX12_lieOn_42 : decode cX12_lieOn 42 = .ok (.iload_n 2, 1) := by decide +kernel
theorem dX12_lieOn_43 : decode cX12_lieOn 43 = .ok (.ireturn, 1) := by decide +kernel
set_option maxRecDepth 20000 in
theorem ggX12_safe_X12_knows : GoodIn wsX12_safe wsX12_knows := goodIn_r _ [7, 1, 8, 9, 10, 11, 12, 13, 14, 15, 16, 17, 18, 19, 20, 21, 22, 23, 24, 25] (by decide +kernel) (by decide +kernel)
set_option maxRecDepth 20000 in
theorem gX12_safe_X12_knows : GoodIn wsX12_safe (wsV RX12 109 RX12 yX12_knows wsX12_knows) := goodIn_app (goodIn_of _ (by decide +kernel)) ggX12_safe_X12_knows
theorem dX12_safe_0 : decode cX12_safe 0 = .ok (.iconst 1, 1) := by decide +kernel
theorem dX12_safe_1 : decode cX12_safe 1 = .ok (.aload_n 0, 1) := by decide +kernel
theorem dX12_safe_2 : decode cX12_safe 2 = .ok (.getfield 16, 3) := by decide +kernel
theorem dX12_safe_5 : decode cX12_safe 5 = .ok (.iconst 1, 1) := by decide +kernel
theorem dX12_safe_6 : decode cX12_safe 6 = .ok (.iaload, 1) := by decide +kernel
theorem dX12_safe_7 : decode cX12_safe 7 = .ok (.ishl, 1) := by decide +kernel
theorem dX12_safe_8 : decode cX12_safe 8 = .ok (.iconst 1, 1) := by decide +kernel
theorem dX12_safe_9 : decode cX12_safe 9 = .ok (.isub, 1) := by decide +kernel
theorem dX12_safe_10 : decode cX12_safe 10 = .ok (.istore_n 2, 1) := by decide +kernel
theorem dX12_safe_11 : decode cX12_safe 11 = .ok (.iconst 0, 1) := by decide +kernel
theorem dX12_safe_12 : decode cX12_safe 12 = .ok (.istore_n 3, 1) := by decide +kernel
theorem dX12_safe_13 : decode cX12_safe 13 = .ok (.iload_n 3, 1) := by decide +kernel
theorem dX12_safe_14 : decode cX12_safe 14 = .ok (.aload_n 0, 1) := by decide +kernel
theorem dX12_safe_15 : decode cX12_safe 15 = .ok (.getfield 16, 3) := by decide +kernel
theorem dX12_safe_18 : decode cX12_safe 18 = .ok (.iconst 0, 1) := by decide +kernel
theorem dX12_safe_19 : decode cX12_safe 19 = .ok (.iaload, 1) := by decide +kernel
theorem dX12_safe_20 : decode cX12_safe 20 = .ok (.if_icmp .ge 58, 3) := by decide +kernel
theorem dX12_safe_23 : decode cX12_safe 23 = .ok (.aload_n 0, 1) := by decide +kernel
theorem dX12_safe_24 : decode cX12_safe 24 = .ok (.getfield 19, 3) := by decide +kernel
theorem dX12_safe_27 : decode cX12_safe 27 = .ok (.iconst 2, 1) := by decide +kernel
theorem dX12_safe_28 : decode cX12_safe 28 = .ok (.iload_n 3, 1) := by decide +kernel
theorem dX12_safe_29 : decode cX12_safe 29 = .ok (.iadd, 1) := by decide +kernel
theorem dX12_safe_30 : decode cX12_safe 30 = .ok (.iaload, 1) := by decide +kernel
theorem dX12_safe_31 : decode cX12_safe 31 = .ok (.istore 4, 2) := by decide +kernel
theorem dX12_safe_33 : decode cX12_safe 33 = .ok (.iload_n 2, 1) := by decide +kernel
theorem dX12_safe_34 : decode cX12_safe 34 = .ok (.iload_n 3, 1) := by decide +kernel
theorem dX12_safe_35 : decode cX12_safe 35 = .ok (.iload_n 1, 1) := by decide +kernel
theorem dX12_safe_36 : decode cX12_safe 36 = .ok (.if_icmp .eq 33, 3) := by decide +kernel
theorem dX12_safe_39 : decode cX12_safe 39 = .ok (.iload 4, 2) := by decide +kernel
theorem dX12_safe_41 : decode cX12_safe 41 = .ok (.bipush (-9), 2) := by decide +kernel
theorem dX12_safe_43 : decode cX12_safe 43 = .ok (.if_icmp .eq 26, 3) := by decide +kernel
theorem dX12_safe_46 : decode cX12_safe 46 = .ok (.aload_n 0, 1) := by decide +kernel
theorem dX12_safe_47 : decode cX12_safe 47 = .ok (.iload_n 3, 1) := by decide +kernel
theorem dX12_safe_48 : decode cX12_safe 48 = .ok (.invokevirtual 109, 3) := by decide +kernel
theorem dX12_safe_51 : decode cX12_safe 51 = .ok (.aload_n 0, 1) := by decide +kernel
theorem dX12_safe_52 : decode cX12_safe 52 = .ok (.iload_n 1, 1) := by decide +kernel
theorem dX12_safe_53 : decode cX12_safe 53 = .ok (.invokevirtual 109, 3) := by decide +kernel
theorem dX12_safe_56 : decode cX12_safe 56 = .ok (.iand, 1) := by decide +kernel
theorem dX12_safe_57 : decode cX12_safe 57 = .ok (.ifCond .eq 12, 3) := by decide +kernel
theorem dX12_safe_60 : decode cX12_safe 60 = .ok (.iconst 1, 1) := by decide +kernel
theorem dX12_safe_61 : decode cX12_safe 61 = .ok (.iload 4, 2) := by decide +kernel
theorem dX12_safe_63 : decode cX12_safe 63 = .ok (.ishl, 1) := by decide +kernel
theorem dX12_safe_64 : decode cX12_safe 64 = .ok (.iconst (-1), 1) := by decide +kernel
theorem dX12_safe_65 : decode cX12_safe 65 = .ok (.ixor, 1) := by decide +kernel
theorem dX12_safe_66 : decode cX12_safe 66 = .ok (.goto 4, 3) := by decide +kernel
theorem dX12_safe_69 : decode cX12_safe 69 = .ok (.iconst (-1), 1) := by decide +kernel
theorem dX12_safe_70 : decode cX12_safe 70 = .ok (.iand, 1) := by decide +kernel
theorem dX12_safe_71 : decode cX12_safe 71 = .ok (.istore_n 2, 1) := by decide +kernel
theorem dX12_safe_72 : decode cX12_safe 72 = .ok (.iinc 3 1, 3) := by decide +kernel
theorem dX12_safe_75 : decode cX12_safe 75 = .ok (.goto (-62), 3) := by decide +kernel
theorem dX12_safe_78 : decode cX12_safe 78 = .ok (.iload_n 2, 1) := by decide +kernel
theorem dX12_safe_79 : decode cX12_safe 79 = .ok (.ireturn, 1) := by decide +kernel
set_option maxRecDepth 20000 in
theorem ggX12_person_X12_isPerson : GoodIn wsX12_person wsX12_isPerson := goodIn_r _ [8, 2, 9, 10, 7, 11, 20, 21, 22, 23, 24, 25, 26, 27, 28, 29, 30, 31, 32, 33, 34, 35, 36, 37] (by decide +kernel) (by decide +kernel)
set_option maxRecDepth 20000 in
theorem gX12_person_X12_isPerson : GoodIn wsX12_person (wsV RX12 112 RX12 yX12_isPerson wsX12_isPerson) := goodIn_app (goodIn_of _ (by decide +kernel)) ggX12_person_X12_isPerson
set_option maxRecDepth 20000 in
theorem ggX12_person_X12_in : GoodIn wsX12_person wsX12_in := goodIn_r _ [11] (by decide +kernel) (by decide +kernel)
set_option maxRecDepth 20000 in
theorem gX12_person_X12_in : GoodIn wsX12_person (va_wsS RX12 48 yX12_in wsX12_in) := goodIn_app (goodIn_of _ (by decide +kernel)) ggX12_person_X12_in
set_option maxRecDepth 20000 in
theorem ggX12_person_X12_safe : GoodIn wsX12_person wsX12_safe := goodIn_r _ [15, 2, 3, 16, 17, 18, 7, 19, 20, 21, 22, 23, 24, 25, 26, 27, 28, 29, 30, 31, 32, 33, 34, 35, 36, 37] (by decide +kernel) (by decide +kernel)
set_option maxRecDepth 20000 in
theorem gX12_person_X12_safe : GoodIn wsX12_person (wsV RX12 117 RX12 yX12_safe wsX12_safe) := goodIn_app (goodIn_of _ (by decide +kernel)) ggX12_person_X12_safe
theorem dX12_person_0 : decode cX12_person 0 = .ok (.aload_n 0, 1) := by decide +kernel
theorem dX12_person_1 : decode cX12_person 1 = .ok (.iload_n 1, 1) := by decide +kernel
theorem dX12_person_2 : decode cX12_person 2 = .ok (.invokevirtual 112, 3) := by decide +kernel
theorem dX12_person_5 : decode cX12_person 5 = .ok (.ifCond .eq 15, 3) := by decide +kernel
theorem dX12_person_8 : decode cX12_person 8 = .ok (.iload_n 2, 1) := by decide +kernel
theorem dX12_person_9 : decode cX12_person 9 = .ok (.i2l, 1) := by decide +kernel
theorem dX12_person_10 : decode cX12_person 10 = .ok (.lconst 0, 1) := by decide +kernel
theorem dX12_person_11 : decode cX12_person 11 = .ok (.ldc2_w 115, 3) := by decide +kernel
theorem dX12_person_14 : decode cX12_person 14 = .ok (.invokestatic 48, 3) := by decide +kernel
theorem dX12_person_17 : decode cX12_person 17 = .ok (.ifCond .ne 5, 3) := by decide +kernel
theorem dX12_person_20 : decode cX12_person 20 = .ok (.iconst (-1), 1) := by decide +kernel
theorem dX12_person_21 : decode cX12_person 21 = .ok (.ireturn, 1) := by decide +kernel
theorem dX12_person_22 : decode cX12_person 22 = .ok (.iload_n 2, 1) := by decide +kernel
theorem dX12_person_23 : decode cX12_person 23 = .ok (.iconst 2, 1) := by decide +kernel
theorem dX12_person_24 : decode cX12_person 24 = .ok (.if_icmp .ge 18, 3) := by decide +kernel
theorem dX12_person_27 : decode cX12_person 27 = .ok (.aload_n 0, 1) := by decide +kernel
theorem dX12_person_28 : decode cX12_person 28 = .ok (.getfield 16, 3) := by decide +kernel
theorem dX12_person_31 : decode cX12_person 31 = .ok (.iconst 2, 1) := by decide +kernel
theorem dX12_person_32 : decode cX12_person 32 = .ok (.iconst 2, 1) := by decide +kernel
theorem dX12_person_33 : decode cX12_person 33 = .ok (.iload_n 1, 1) := by decide +kernel
theorem dX12_person_34 : decode cX12_person 34 = .ok (.imul, 1) := by decide +kernel
theorem dX12_person_35 : decode cX12_person 35 = .ok (.iadd, 1) := by decide +kernel
theorem dX12_person_36 : decode cX12_person 36 = .ok (.iload_n 2, 1) := by decide +kernel
theorem dX12_person_37 : decode cX12_person 37 = .ok (.iadd, 1) := by decide +kernel
theorem dX12_person_38 : decode cX12_person 38 = .ok (.iaload, 1) := by decide +kernel
theorem dX12_person_39 : decode cX12_person 39 = .ok (.goto 24, 3) := by decide +kernel
theorem dX12_person_42 : decode cX12_person 42 = .ok (.iload_n 2, 1) := by decide +kernel
theorem dX12_person_43 : decode cX12_person 43 = .ok (.iconst 2, 1) := by decide +kernel
theorem dX12_person_44 : decode cX12_person 44 = .ok (.if_icmp .ne 14, 3) := by decide +kernel
theorem dX12_person_47 : decode cX12_person 47 = .ok (.aload_n 0, 1) := by decide +kernel
theorem dX12_person_48 : decode cX12_person 48 = .ok (.getfield 19, 3) := by decide +kernel
theorem dX12_person_51 : decode cX12_person 51 = .ok (.iconst 2, 1) := by decide +kernel
theorem dX12_person_52 : decode cX12_person 52 = .ok (.iload_n 1, 1) := by decide +kernel
theorem dX12_person_53 : decode cX12_person 53 = .ok (.iadd, 1) := by decide +kernel
theorem dX12_person_54 : decode cX12_person 54 = .ok (.iaload, 1) := by decide +kernel
theorem dX12_person_55 : decode cX12_person 55 = .ok (.goto 8, 3) := by decide +kernel
theorem dX12_person_58 : decode cX12_person 58 = .ok (.aload_n 0, 1) := by decide +kernel
theorem dX12_person_59 : decode cX12_person 59 = .ok (.iload_n 1, 1) := by decide +kernel
theorem dX12_person_60 : decode cX12_person 60 = .ok (.invokevirtual 117, 3) := by decide +kernel
theorem dX12_person_63 : decode cX12_person 63 = .ok (.ireturn, 1) := by decide +kernel
set_option maxRecDepth 20000 in
theorem ggX12_clashes_X12_isThing : GoodIn wsX12_clashes wsX12_isThing := goodIn_r _ [5, 6, 7, 8, 4, 9] (by decide +kernel) (by decide +kernel)
set_option maxRecDepth 20000 in
theorem gX12_clashes_X12_isThing : GoodIn wsX12_clashes (va_wsS RX12 120 yX12_isThing wsX12_isThing) := goodIn_app (goodIn_of _ (by decide +kernel)) ggX12_clashes_X12_isThing
theorem dX12_clashes_0 : decode cX12_clashes 0 = .ok (.iload_n 1, 1) := by decide +kernel
theorem dX12_clashes_1 : decode cX12_clashes 1 = .ok (.invokestatic 120, 3) := by decide +kernel
theorem dX12_clashes_4 : decode cX12_clashes 4 = .ok (.ifCond .eq 15, 3) := by decide +kernel
theorem dX12_clashes_7 : decode cX12_clashes 7 = .ok (.aload_n 0, 1) := by decide +kernel
theorem dX12_clashes_8 : decode cX12_clashes 8 = .ok (.getfield 16, 3) := by decide +kernel
theorem dX12_clashes_11 : decode cX12_clashes 11 = .ok (.bipush 14, 2) := by decide +kernel
theorem dX12_clashes_13 : decode cX12_clashes 13 = .ok (.iload_n 1, 1) := by decide +kernel
theorem dX12_clashes_14 : decode cX12_clashes 14 = .ok (.iadd, 1) := by decide +kernel
theorem dX12_clashes_15 : decode cX12_clashes 15 = .ok (.iaload, 1) := by decide +kernel
theorem dX12_clashes_16 : decode cX12_clashes 16 = .ok (.goto 4, 3) := by decide +kernel
theorem dX12_clashes_19 : decode cX12_clashes 19 = .ok (.iconst (-1), 1) := by decide +kernel
theorem dX12_clashes_20 : decode cX12_clashes 20 = .ok (.ireturn, 1) := by decide +kernel
set_option maxRecDepth 20000 in
theorem ggX12_pillow_X12_isPillow : GoodIn wsX12_pillow wsX12_isPillow := goodIn_r _ [7, 8, 9, 10, 6, 11, 24, 25, 26, 27, 28, 29, 30, 31, 32, 33, 34, 35, 36, 37, 38, 39, 40, 41] (by decide +kernel) (by decide +kernel)
set_option maxRecDepth 20000 in
theorem gX12_pillow_X12_isPillow : GoodIn wsX12_pillow (wsV RX12 123 RX12 yX12_isPillow wsX12_isPillow) := goodIn_app (goodIn_of _ (by decide +kernel)) ggX12_pillow_X12_isPillow
set_option maxRecDepth 20000 in
theorem ggX12_pillow_X12_in : GoodIn wsX12_pillow wsX12_in := goodIn_r _ [11] (by decide +kernel) (by decide +kernel)
set_option maxRecDepth 20000 in
theorem gX12_pillow_X12_in : GoodIn wsX12_pillow (va_wsS RX12 48 yX12_in wsX12_in) := goodIn_app (goodIn_of _ (by decide +kernel)) ggX12_pillow_X12_in
set_option maxRecDepth 20000 in
theorem ggX12_pillow_X12_hears : GoodIn wsX12_pillow wsX12_hears := goodIn_r _ [15, 16, 17, 18, 6, 19, 2, 24, 25, 26, 27, 28, 29, 30, 31, 32, 33, 34, 35, 36, 37, 38, 39, 40, 41] (by decide +kernel) (by decide +kernel)
set_option maxRecDepth 20000 in
theorem gX12_pillow_X12_hears : GoodIn wsX12_pillow (wsV RX12 105 RX12 yX12_hears wsX12_hears) := goodIn_app (goodIn_of _ (by decide +kernel)) ggX12_pillow_X12_hears
set_option maxRecDepth 20000 in
theorem ggX12_pillow_X12_lieOn : GoodIn wsX12_pillow wsX12_lieOn := goodIn_r _ [23, 8, 2, 24, 25, 26, 27, 28, 29, 30, 31, 32, 33, 34, 35, 36, 37, 38, 39, 40, 41] (by decide +kernel) (by decide +kernel)
set_option maxRecDepth 20000 in
theorem gX12_pillow_X12_lieOn : GoodIn wsX12_pillow (wsV RX12 128 RX12 yX12_lieOn wsX12_lieOn) := goodIn_app (goodIn_of _ (by decide +kernel)) ggX12_pillow_X12_lieOn
theorem dX12_pillow_0 : decode cX12_pillow 0 = .ok (.aload_n 0, 1) := by decide +kernel
theorem dX12_pillow_1 : decode cX12_pillow 1 = .ok (.iload_n 1, 1) := by decide +kernel
theorem dX12_pillow_2 : decode cX12_pillow 2 = .ok (.invokevirtual 123, 3) := by decide +kernel
theorem dX12_pillow_5 : decode cX12_pillow 5 = .ok (.ifCond .eq 15, 3) := by decide +kernel
theorem dX12_pillow_8 : decode cX12_pillow 8 = .ok (.iload_n 2, 1) := by decide +kernel
theorem dX12_pillow_9 : decode cX12_pillow 9 = .ok (.i2l, 1) := by decide +kernel
theorem dX12_pillow_10 : decode cX12_pillow 10 = .ok (.lconst 0, 1) := by decide +kernel
theorem dX12_pillow_11 : decode cX12_pillow 11 = .ok (.ldc2_w 126, 3) := by decide +kernel
theorem dX12_pillow_14 : decode cX12_pillow 14 = .ok (.invokestatic 48, 3) := by decide +kernel
theorem dX12_pillow_17 : decode cX12_pillow 17 = .ok (.ifCond .ne 5, 3) := by decide +kernel
theorem dX12_pillow_20 : decode cX12_pillow 20 = .ok (.iconst (-1), 1) := by decide +kernel
theorem dX12_pillow_21 : decode cX12_pillow 21 = .ok (.ireturn, 1) := by decide +kernel
theorem dX12_pillow_22 : decode cX12_pillow 22 = .ok (.iload_n 2, 1) := by decide +kernel
theorem dX12_pillow_23 : decode cX12_pillow 23 = .ok (.ifCond .ne 11, 3) := by decide +kernel
theorem dX12_pillow_26 : decode cX12_pillow 26 = .ok (.aload_n 0, 1) := by decide +kernel
theorem dX12_pillow_27 : decode cX12_pillow 27 = .ok (.iload_n 1, 1) := by decide +kernel
theorem dX12_pillow_28 : decode cX12_pillow 28 = .ok (.invokevirtual 105, 3) := by decide +kernel
theorem dX12_pillow_31 : decode cX12_pillow 31 = .ok (.goto 26, 3) := by decide +kernel
theorem dX12_pillow_34 : decode cX12_pillow 34 = .ok (.iload_n 2, 1) := by decide +kernel
theorem dX12_pillow_35 : decode cX12_pillow 35 = .ok (.iconst 1, 1) := by decide +kernel
theorem dX12_pillow_36 : decode cX12_pillow 36 = .ok (.if_icmp .ne 11, 3) := by decide +kernel
theorem dX12_pillow_39 : decode cX12_pillow 39 = .ok (.aload_n 0, 1) := by decide +kernel
theorem dX12_pillow_40 : decode cX12_pillow 40 = .ok (.iload_n 1, 1) := by decide +kernel
theorem dX12_pillow_41 : decode cX12_pillow 41 = .ok (.invokevirtual 128, 3) := by decide +kernel
theorem dX12_pillow_44 : decode cX12_pillow 44 = .ok (.goto 13, 3) := by decide +kernel
theorem dX12_pillow_47 : decode cX12_pillow 47 = .ok (.aload_n 0, 1) := by decide +kernel
theorem dX12_pillow_48 : decode cX12_pillow 48 = .ok (.getfield 19, 3) := by decide +kernel
theorem dX12_pillow_51 : decode cX12_pillow 51 = .ok (.iconst 1, 1) := by decide +kernel
theorem dX12_pillow_52 : decode cX12_pillow 52 = .ok (.iaload, 1) := by decide +kernel
theorem dX12_pillow_53 : decode cX12_pillow 53 = .ok (.iload_n 1, 1) := by decide +kernel
theorem dX12_pillow_54 : decode cX12_pillow 54 = .ok (.ishr, 1) := by decide +kernel
theorem dX12_pillow_55 : decode cX12_pillow 55 = .ok (.iconst 1, 1) := by decide +kernel
theorem dX12_pillow_56 : decode cX12_pillow 56 = .ok (.iand, 1) := by decide +kernel
theorem dX12_pillow_57 : decode cX12_pillow 57 = .ok (.ireturn, 1) := by decide +kernel
set_option maxRecDepth 20000 in
theorem ggX12_heard_X12_isPillow : GoodIn wsX12_heard wsX12_isPillow := goodIn_r _ [5, 6, 7, 8, 4, 9, 19, 20, 21, 22, 23, 24, 25, 26, 27, 28, 29, 30, 31, 32, 33, 34, 35, 36] (by decide +kernel) (by decide +kernel)
set_option maxRecDepth 20000 in
theorem gX12_heard_X12_isPillow : GoodIn wsX12_heard (wsV RX12 123 RX12 yX12_isPillow wsX12_isPillow) := goodIn_app (goodIn_of _ (by decide +kernel)) ggX12_heard_X12_isPillow
set_option maxRecDepth 20000 in
theorem ggX12_heard_X12_isThing : GoodIn wsX12_heard wsX12_isThing := goodIn_r _ [12, 13, 7, 8, 4, 9] (by decide +kernel) (by decide +kernel)
set_option maxRecDepth 20000 in
theorem gX12_heard_X12_isThing : GoodIn wsX12_heard (va_wsS RX12 120 yX12_isThing wsX12_isThing) := goodIn_app (goodIn_of _ (by decide +kernel)) ggX12_heard_X12_isThing
set_option maxRecDepth 20000 in
theorem ggX12_heard_X12_often : GoodIn wsX12_heard wsX12_often := goodIn_r _ [17, 18, 19, 20, 21, 22, 23, 24, 25, 26, 27, 28, 29, 30, 31, 32, 33, 34, 35, 36] (by decide +kernel) (by decide +kernel)
set_option maxRecDepth 20000 in
theorem gX12_heard_X12_often : GoodIn wsX12_heard (wsV RX12 101 RX12 yX12_often wsX12_often) := goodIn_app (goodIn_of _ (by decide +kernel)) ggX12_heard_X12_often
theorem dX12_heard_0 : decode cX12_heard 0 = .ok (.aload_n 0, 1) := by decide +kernel
theorem dX12_heard_1 : decode cX12_heard 1 = .ok (.iload_n 1, 1) := by decide +kernel
theorem dX12_heard_2 : decode cX12_heard 2 = .ok (.invokevirtual 123, 3) := by decide +kernel
theorem dX12_heard_5 : decode cX12_heard 5 = .ok (.ifCond .eq 19, 3) := by decide +kernel
theorem dX12_heard_8 : decode cX12_heard 8 = .ok (.iload_n 2, 1) := by decide +kernel
theorem dX12_heard_9 : decode cX12_heard 9 = .ok (.invokestatic 120, 3) := by decide +kernel
theorem dX12_heard_12 : decode cX12_heard 12 = .ok (.ifCond .eq 12, 3) := by decide +kernel
theorem dX12_heard_15 : decode cX12_heard 15 = .ok (.aload_n 0, 1) := by decide +kernel
theorem dX12_heard_16 : decode cX12_heard 16 = .ok (.iload_n 1, 1) := by decide +kernel
theorem dX12_heard_17 : decode cX12_heard 17 = .ok (.iload_n 2, 1) := by decide +kernel
theorem dX12_heard_18 : decode cX12_heard 18 = .ok (.invokevirtual 101, 3) := by decide +kernel
theorem dX12_heard_21 : decode cX12_heard 21 = .ok (.goto 4, 3) := by decide +kernel
theorem dX12_heard_24 : decode cX12_heard 24 = .ok (.iconst (-1), 1) := by decide +kernel
theorem dX12_heard_25 : decode cX12_heard 25 = .ok (.ireturn, 1) := by decide +kernel
set_option maxRecDepth 20000 in
theorem ggX12_against_X12_hear : GoodIn wsX12_against wsX12_hear := goodIn_r _ [6, 1, 7, 8, 9, 5, 10, 11, 12, 13, 14, 15, 19, 20, 21, 22, 23, 24, 25, 26, 27, 28, 29, 30, 31, 32, 33, 34, 35, 36] (by decide +kernel) (by decide +kernel)
set_option maxRecDepth 20000 in
theorem gX12_against_X12_hear : GoodIn wsX12_against (wsV RX12 131 RX12 yX12_hear wsX12_hear) := goodIn_app (goodIn_of _ (by decide +kernel)) ggX12_against_X12_hear
set_option maxRecDepth 20000 in
theorem ggX12_against_X12_many : GoodIn wsX12_against wsX12_many := goodIn_r _ [18] (by decide +kernel) (by decide +kernel)
set_option maxRecDepth 20000 in
theorem gX12_against_X12_many : GoodIn wsX12_against (va_wsS RX12 134 yX12_many wsX12_many) := goodIn_app (goodIn_of _ (by decide +kernel)) ggX12_against_X12_many
theorem dX12_against_0 : decode cX12_against 0 = .ok (.aload_n 0, 1) := by decide +kernel
theorem dX12_against_1 : decode cX12_against 1 = .ok (.bipush 63, 2) := by decide +kernel
theorem dX12_against_3 : decode cX12_against 3 = .ok (.invokevirtual 131, 3) := by decide +kernel
theorem dX12_against_6 : decode cX12_against 6 = .ok (.istore_n 1, 1) := by decide +kernel
theorem dX12_against_7 : decode cX12_against 7 = .ok (.iconst 0, 1) := by decide +kernel
theorem dX12_against_8 : decode cX12_against 8 = .ok (.istore_n 2, 1) := by decide +kernel
theorem dX12_against_9 : decode cX12_against 9 = .ok (.iconst 0, 1) := by decide +kernel
theorem dX12_against_10 : decode cX12_against 10 = .ok (.istore_n 3, 1) := by decide +kernel
theorem dX12_against_11 : decode cX12_against 11 = .ok (.iload_n 3, 1) := by decide +kernel
theorem dX12_against_12 : decode cX12_against 12 = .ok (.bipush 7, 2) := by decide +kernel
theorem dX12_against_14 : decode cX12_against 14 = .ok (.if_icmp .ge 39, 3) := by decide +kernel
theorem dX12_against_17 : decode cX12_against 17 = .ok (.iload_n 2, 1) := by decide +kernel
theorem dX12_against_18 : decode cX12_against 18 = .ok (.iload_n 1, 1) := by decide +kernel
theorem dX12_against_19 : decode cX12_against 19 = .ok (.iload_n 3, 1) := by decide +kernel
theorem dX12_against_20 : decode cX12_against 20 = .ok (.ishr, 1) := by decide +kernel
theorem dX12_against_21 : decode cX12_against 21 = .ok (.iconst 1, 1) := by decide +kernel
theorem dX12_against_22 : decode cX12_against 22 = .ok (.iand, 1) := by decide +kernel
theorem dX12_against_23 : decode cX12_against 23 = .ok (.iconst 1, 1) := by decide +kernel
theorem dX12_against_24 : decode cX12_against 24 = .ok (.if_icmp .ne 20, 3) := by decide +kernel
theorem dX12_against_27 : decode cX12_against 27 = .ok (.aload_n 0, 1) := by decide +kernel
theorem dX12_against_28 : decode cX12_against 28 = .ok (.getfield 16, 3) := by decide +kernel
theorem dX12_against_31 : decode cX12_against 31 = .ok (.bipush 14, 2) := by decide +kernel
theorem dX12_against_33 : decode cX12_against 33 = .ok (.iload_n 3, 1) := by decide +kernel
theorem dX12_against_34 : decode cX12_against 34 = .ok (.iadd, 1) := by decide +kernel
theorem dX12_against_35 : decode cX12_against 35 = .ok (.iaload, 1) := by decide +kernel
theorem dX12_against_36 : decode cX12_against 36 = .ok (.iload_n 1, 1) := by decide +kernel
theorem dX12_against_37 : decode cX12_against 37 = .ok (.iand, 1) := by decide +kernel
theorem dX12_against_38 : decode cX12_against 38 = .ok (.invokestatic 134, 3) := by decide +kernel
theorem dX12_against_41 : decode cX12_against 41 = .ok (.goto 4, 3) := by decide +kernel
theorem dX12_against_44 : decode cX12_against 44 = .ok (.iconst 0, 1) := by decide +kernel
theorem dX12_against_45 : decode cX12_against 45 = .ok (.iadd, 1) := by decide +kernel
theorem dX12_against_46 : decode cX12_against 46 = .ok (.istore_n 2, 1) := by decide +kernel
theorem dX12_against_47 : decode cX12_against 47 = .ok (.iinc 3 1, 3) := by decide +kernel
theorem dX12_against_50 : decode cX12_against 50 = .ok (.goto (-39), 3) := by decide +kernel
theorem dX12_against_53 : decode cX12_against 53 = .ok (.iload_n 2, 1) := by decide +kernel
theorem dX12_against_54 : decode cX12_against 54 = .ok (.iconst 2, 1) := by decide +kernel
theorem dX12_against_55 : decode cX12_against 55 = .ok (.idiv, 1) := by decide +kernel
theorem dX12_against_56 : decode cX12_against 56 = .ok (.ireturn, 1) := by decide +kernel
set_option maxRecDepth 20000 in
theorem ggX12_alone_X12_knows : GoodIn wsX12_alone wsX12_knows := goodIn_r _ [6, 1, 7, 8, 9, 10, 11, 12, 13, 14, 15, 16, 17, 18, 19, 20, 21, 22, 23, 24] (by decide +kernel) (by decide +kernel)
set_option maxRecDepth 20000 in
theorem gX12_alone_X12_knows : GoodIn wsX12_alone (wsV RX12 109 RX12 yX12_knows wsX12_knows) := goodIn_app (goodIn_of _ (by decide +kernel)) ggX12_alone_X12_knows
theorem dX12_alone_0 : decode cX12_alone 0 = .ok (.iconst 0, 1) := by decide +kernel
theorem dX12_alone_1 : decode cX12_alone 1 = .ok (.istore_n 1, 1) := by decide +kernel
theorem dX12_alone_2 : decode cX12_alone 2 = .ok (.iconst 0, 1) := by decide +kernel
theorem dX12_alone_3 : decode cX12_alone 3 = .ok (.istore_n 2, 1) := by decide +kernel
theorem dX12_alone_4 : decode cX12_alone 4 = .ok (.iconst 0, 1) := by decide +kernel
theorem dX12_alone_5 : decode cX12_alone 5 = .ok (.istore_n 3, 1) := by decide +kernel
theorem dX12_alone_6 : decode cX12_alone 6 = .ok (.iload_n 3, 1) := by decide +kernel
theorem dX12_alone_7 : decode cX12_alone 7 = .ok (.aload_n 0, 1) := by decide +kernel
theorem dX12_alone_8 : decode cX12_alone 8 = .ok (.getfield 16, 3) := by decide +kernel
theorem dX12_alone_11 : decode cX12_alone 11 = .ok (.iconst 0, 1) := by decide +kernel
theorem dX12_alone_12 : decode cX12_alone 12 = .ok (.iaload, 1) := by decide +kernel
theorem dX12_alone_13 : decode cX12_alone 13 = .ok (.if_icmp .ge 27, 3) := by decide +kernel
theorem dX12_alone_16 : decode cX12_alone 16 = .ok (.iload_n 2, 1) := by decide +kernel
theorem dX12_alone_17 : decode cX12_alone 17 = .ok (.iload_n 1, 1) := by decide +kernel
theorem dX12_alone_18 : decode cX12_alone 18 = .ok (.aload_n 0, 1) := by decide +kernel
theorem dX12_alone_19 : decode cX12_alone 19 = .ok (.iload_n 3, 1) := by decide +kernel
theorem dX12_alone_20 : decode cX12_alone 20 = .ok (.invokevirtual 109, 3) := by decide +kernel
theorem dX12_alone_23 : decode cX12_alone 23 = .ok (.iand, 1) := by decide +kernel
theorem dX12_alone_24 : decode cX12_alone 24 = .ok (.ior, 1) := by decide +kernel
theorem dX12_alone_25 : decode cX12_alone 25 = .ok (.istore_n 2, 1) := by decide +kernel
theorem dX12_alone_26 : decode cX12_alone 26 = .ok (.iload_n 1, 1) := by decide +kernel
theorem dX12_alone_27 : decode cX12_alone 27 = .ok (.aload_n 0, 1) := by decide +kernel
theorem dX12_alone_28 : decode cX12_alone 28 = .ok (.iload_n 3, 1) := by decide +kernel
theorem dX12_alone_29 : decode cX12_alone 29 = .ok (.invokevirtual 109, 3) := by decide +kernel
theorem dX12_alone_32 : decode cX12_alone 32 = .ok (.ior, 1) := by decide +kernel
theorem dX12_alone_33 : decode cX12_alone 33 = .ok (.istore_n 1, 1) := by decide +kernel
theorem dX12_alone_34 : decode cX12_alone 34 = .ok (.iinc 3 1, 3) := by decide +kernel
theorem dX12_alone_37 : decode cX12_alone 37 = .ok (.goto (-31), 3) := by decide +kernel
theorem dX12_alone_40 : decode cX12_alone 40 = .ok (.iload_n 1, 1) := by decide +kernel
theorem dX12_alone_41 : decode cX12_alone 41 = .ok (.iload_n 2, 1) := by decide +kernel
theorem dX12_alone_42 : decode cX12_alone 42 = .ok (.iconst (-1), 1) := by decide +kernel
theorem dX12_alone_43 : decode cX12_alone 43 = .ok (.ixor, 1) := by decide +kernel
theorem dX12_alone_44 : decode cX12_alone 44 = .ok (.iand, 1) := by decide +kernel
theorem dX12_alone_45 : decode cX12_alone 45 = .ok (.ireturn, 1) := by decide +kernel
set_option maxRecDepth 20000 in
theorem ggX12_now_X12_hear : GoodIn wsX12_now wsX12_hear := goodIn_r _ [7, 8, 9, 10, 11, 6, 12, 13, 14, 15, 16, 1, 32, 33, 34, 35, 36, 37, 38, 39, 40, 41, 42, 43, 44, 45, 46, 47, 48, 49] (by decide +kernel) (by decide +kernel)
set_option maxRecDepth 20000 in
theorem gX12_now_X12_hear : GoodIn wsX12_now (wsV RX12 131 RX12 yX12_hear wsX12_hear) := goodIn_app (goodIn_of _ (by decide +kernel)) ggX12_now_X12_hear
set_option maxRecDepth 20000 in
theorem ggX12_now_X12_against : GoodIn wsX12_now wsX12_against := goodIn_r _ [20, 8, 3, 4, 5, 6, 7, 9, 10, 11, 12, 13, 14, 15, 16, 1, 21, 22, 23, 32, 33, 34, 35, 36, 37, 38, 39, 40, 41, 42, 43, 44, 45, 46, 47, 48, 49] (by decide +kernel) (by decide +kernel)
set_option maxRecDepth 20000 in
theorem gX12_now_X12_against : GoodIn wsX12_now (wsV RX12 137 RX12 yX12_against wsX12_against) := goodIn_app (goodIn_of _ (by decide +kernel)) ggX12_now_X12_against
set_option maxRecDepth 20000 in
theorem ggX12_now_X12_alone : GoodIn wsX12_now wsX12_alone := goodIn_r _ [27, 8, 28, 29, 30, 6, 31, 32, 33, 34, 35, 36, 37, 38, 39, 40, 41, 42, 43, 44, 45, 46, 47, 48, 49] (by decide +kernel) (by decide +kernel)
set_option maxRecDepth 20000 in
theorem gX12_now_X12_alone : GoodIn wsX12_now (wsV RX12 141 RX12 yX12_alone wsX12_alone) := goodIn_app (goodIn_of _ (by decide +kernel)) ggX12_now_X12_alone
