theorem dX0_init_0 : decode cX0_init 0 = .ok (.aload_n 0, 1) := by decide +kernel
theorem dX0_init_1 : decode cX0_init 1 = .ok (.invokespecial 3, 3) := by decide +kernel
theorem dX0_init_4 : decode cX0_init 4 = .ok (.aload_n 0, 1) := by decide +kernel
theorem dX0_init_5 : decode cX0_init 5 = .ok (.bipush 36, 2) := by decide +kernel
theorem dX0_init_7 : decode cX0_init 7 = .ok (.newarray .int, 2) := by decide +kernel
theorem dX0_init_9 : decode cX0_init 9 = .ok (.putfield 9, 3) := by decide +kernel
theorem dX0_init_12 : decode cX0_init 12 = .ok (.aload_n 0, 1) := by decide +kernel
theorem dX0_init_13 : decode cX0_init 13 = .ok (.sipush 448, 3) := by decide +kernel
theorem dX0_init_16 : decode cX0_init 16 = .ok (.newarray .int, 2) := by decide +kernel
theorem dX0_init_18 : decode cX0_init 18 = .ok (.putfield 15, 3) := by decide +kernel
theorem dX0_init_21 : decode cX0_init 21 = .ok (.return_, 1) := by decide +kernel
set_option maxRecDepth 20000 in
theorem ggX0_weigh_J7_fill_53178 : GoodIn wsX0_weigh wsJ7_fill_53178 := goodIn_r _ [8] (by decide +kernel) (by decide +kernel)
set_option maxRecDepth 20000 in
theorem gX0_weigh_J7_fill_53178 : GoodIn wsX0_weigh (va_wsS RX0 18 yJ7_fill_53178 wsJ7_fill_53178) := goodIn_app (goodIn_of _ (by decide +kernel)) ggX0_weigh_J7_fill_53178
set_option maxRecDepth 20000 in
theorem ggX0_weigh_X8_timesOn : GoodIn wsX0_weigh wsX8_timesOn := goodIn_r _ [13, 14, 15, 16, 12, 17, 18, 40] (by decide +kernel) (by decide +kernel)
set_option maxRecDepth 20000 in
theorem gX0_weigh_X8_timesOn : GoodIn wsX0_weigh (wsV RX0 33 RX8 yX8_timesOn wsX8_timesOn) := goodIn_app (goodIn_of _ (by decide +kernel)) ggX0_weigh_X8_timesOn
set_option maxRecDepth 20000 in
theorem ggX0_weigh_X0_bestOf : GoodIn wsX0_weigh wsX0_bestOf := goodIn_r _ [23, 24, 25, 26, 27, 28, 29, 30, 31, 22, 32, 1, 3, 35, 36, 37, 38, 39, 33, 34] (by decide +kernel) (by decide +kernel)
set_option maxRecDepth 20000 in
theorem gX0_weigh_X0_bestOf : GoodIn wsX0_weigh (wsV RX0 39 RX0 yX0_bestOf wsX0_bestOf) := goodIn_app (goodIn_of _ (by decide +kernel)) ggX0_weigh_X0_bestOf
theorem dX0_weigh_0 : decode cX0_weigh 0 = .ok (.aload_n 0, 1) := by decide +kernel
theorem dX0_weigh_1 : decode cX0_weigh 1 = .ok (.getfield 15, 3) := by decide +kernel
theorem dX0_weigh_4 : decode cX0_weigh 4 = .ok (.iconst 0, 1) := by decide +kernel
theorem dX0_weigh_5 : decode cX0_weigh 5 = .ok (.invokestatic 18, 3) := by decide +kernel
theorem dX0_weigh_8 : decode cX0_weigh 8 = .ok (.aload_n 1, 1) := by decide +kernel
theorem dX0_weigh_9 : decode cX0_weigh 9 = .ok (.getfield 24, 3) := by decide +kernel
theorem dX0_weigh_12 : decode cX0_weigh 12 = .ok (.iconst 1, 1) := by decide +kernel
theorem dX0_weigh_13 : decode cX0_weigh 13 = .ok (.isub, 1) := by decide +kernel
theorem dX0_weigh_14 : decode cX0_weigh 14 = .ok (.istore_n 3, 1) := by decide +kernel
theorem dX0_weigh_15 : decode cX0_weigh 15 = .ok (.iload_n 3, 1) := by decide +kernel
theorem dX0_weigh_16 : decode cX0_weigh 16 = .ok (.ifCond .lt 85, 3) := by decide +kernel
theorem dX0_weigh_19 : decode cX0_weigh 19 = .ok (.iconst 0, 1) := by decide +kernel
theorem dX0_weigh_20 : decode cX0_weigh 20 = .ok (.istore 4, 2) := by decide +kernel
theorem dX0_weigh_22 : decode cX0_weigh 22 = .ok (.iload 4, 2) := by decide +kernel
theorem dX0_weigh_24 : decode cX0_weigh 24 = .ok (.bipush 6, 2) := by decide +kernel
theorem dX0_weigh_26 : decode cX0_weigh 26 = .ok (.if_icmp .ge 33, 3) := by decide +kernel
theorem dX0_weigh_29 : decode cX0_weigh 29 = .ok (.aload_n 0, 1) := by decide +kernel
theorem dX0_weigh_30 : decode cX0_weigh 30 = .ok (.getfield 9, 3) := by decide +kernel
theorem dX0_weigh_33 : decode cX0_weigh 33 = .ok (.iload_n 3, 1) := by decide +kernel
theorem dX0_weigh_34 : decode cX0_weigh 34 = .ok (.bipush 6, 2) := by decide +kernel
theorem dX0_weigh_36 : decode cX0_weigh 36 = .ok (.imul, 1) := by decide +kernel
theorem dX0_weigh_37 : decode cX0_weigh 37 = .ok (.iload 4, 2) := by decide +kernel
theorem dX0_weigh_39 : decode cX0_weigh 39 = .ok (.iadd, 1) := by decide +kernel
theorem dX0_weigh_40 : decode cX0_weigh 40 = .ok (.aload_n 2, 1) := by decide +kernel
theorem dX0_weigh_41 : decode cX0_weigh 41 = .ok (.iload 4, 2) := by decide +kernel
theorem dX0_weigh_43 : decode cX0_weigh 43 = .ok (.aload_n 1, 1) := by decide +kernel
theorem dX0_weigh_44 : decode cX0_weigh 44 = .ok (.getfield 30, 3) := by decide +kernel
theorem dX0_weigh_47 : decode cX0_weigh 47 = .ok (.iload_n 3, 1) := by decide +kernel
theorem dX0_weigh_48 : decode cX0_weigh 48 = .ok (.iaload, 1) := by decide +kernel
theorem dX0_weigh_49 : decode cX0_weigh 49 = .ok (.invokevirtual 33, 3) := by decide +kernel
theorem dX0_weigh_52 : decode cX0_weigh 52 = .ok (.iastore, 1) := by decide +kernel
theorem dX0_weigh_53 : decode cX0_weigh 53 = .ok (.iinc 4 1, 3) := by decide +kernel
theorem dX0_weigh_56 : decode cX0_weigh 56 = .ok (.goto (-34), 3) := by decide +kernel
theorem dX0_weigh_59 : decode cX0_weigh 59 = .ok (.iconst 0, 1) := by decide +kernel
theorem dX0_weigh_60 : decode cX0_weigh 60 = .ok (.istore 4, 2) := by decide +kernel
theorem dX0_weigh_62 : decode cX0_weigh 62 = .ok (.iload 4, 2) := by decide +kernel
theorem dX0_weigh_64 : decode cX0_weigh 64 = .ok (.bipush 64, 2) := by decide +kernel
theorem dX0_weigh_66 : decode cX0_weigh 66 = .ok (.if_icmp .ge 29, 3) := by decide +kernel
theorem dX0_weigh_69 : decode cX0_weigh 69 = .ok (.aload_n 0, 1) := by decide +kernel
theorem dX0_weigh_70 : decode cX0_weigh 70 = .ok (.getfield 15, 3) := by decide +kernel
theorem dX0_weigh_73 : decode cX0_weigh 73 = .ok (.iload_n 3, 1) := by decide +kernel
theorem dX0_weigh_74 : decode cX0_weigh 74 = .ok (.bipush 64, 2) := by decide +kernel
theorem dX0_weigh_76 : decode cX0_weigh 76 = .ok (.imul, 1) := by decide +kernel
theorem dX0_weigh_77 : decode cX0_weigh 77 = .ok (.iload 4, 2) := by decide +kernel
theorem dX0_weigh_79 : decode cX0_weigh 79 = .ok (.iadd, 1) := by decide +kernel
theorem dX0_weigh_80 : decode cX0_weigh 80 = .ok (.aload_n 0, 1) := by decide +kernel
theorem dX0_weigh_81 : decode cX0_weigh 81 = .ok (.aload_n 1, 1) := by decide +kernel
theorem dX0_weigh_82 : decode cX0_weigh 82 = .ok (.iload_n 3, 1) := by decide +kernel
theorem dX0_weigh_83 : decode cX0_weigh 83 = .ok (.iload 4, 2) := by decide +kernel
theorem dX0_weigh_85 : decode cX0_weigh 85 = .ok (.invokevirtual 39, 3) := by decide +kernel
theorem dX0_weigh_88 : decode cX0_weigh 88 = .ok (.iastore, 1) := by decide +kernel
theorem dX0_weigh_89 : decode cX0_weigh 89 = .ok (.iinc 4 1, 3) := by decide +kernel
theorem dX0_weigh_92 : decode cX0_weigh 92 = .ok (.goto (-30), 3) := by decide +kernel
theorem dX0_weigh_95 : decode cX0_weigh 95 = .ok (.iinc 3 (-1), 3) := by decide +kernel
theorem dX0_weigh_98 : decode cX0_weigh 98 = .ok (.goto (-83), 3) := by decide +kernel
theorem dX0_weigh_101 : decode cX0_weigh 101 = .ok (.return_, 1) := by decide +kernel
set_option maxRecDepth 20000 in
theorem ggX0_bestOf_X0_mostWith : GoodIn wsX0_bestOf wsX0_mostWith := goodIn_r _ [10, 11, 12, 18, 19] (by decide +kernel) (by decide +kernel)
set_option maxRecDepth 20000 in
theorem gX0_bestOf_X0_mostWith : GoodIn wsX0_bestOf (wsV RX0 43 RX0 yX0_mostWith wsX0_mostWith) := goodIn_app (goodIn_of _ (by decide +kernel)) ggX0_bestOf_X0_mostWith
theorem dX0_bestOf_0 : decode cX0_bestOf 0 = .ok (.aload_n 0, 1) := by decide +kernel
theorem dX0_bestOf_1 : decode cX0_bestOf 1 = .ok (.iload_n 2, 1) := by decide +kernel
theorem dX0_bestOf_2 : decode cX0_bestOf 2 = .ok (.iload_n 3, 1) := by decide +kernel
theorem dX0_bestOf_3 : decode cX0_bestOf 3 = .ok (.bipush (-9), 2) := by decide +kernel
theorem dX0_bestOf_5 : decode cX0_bestOf 5 = .ok (.invokevirtual 43, 3) := by decide +kernel
theorem dX0_bestOf_8 : decode cX0_bestOf 8 = .ok (.istore 4, 2) := by decide +kernel
theorem dX0_bestOf_10 : decode cX0_bestOf 10 = .ok (.iconst 0, 1) := by decide +kernel
theorem dX0_bestOf_11 : decode cX0_bestOf 11 = .ok (.istore 5, 2) := by decide +kernel
theorem dX0_bestOf_13 : decode cX0_bestOf 13 = .ok (.iload 5, 2) := by decide +kernel
theorem dX0_bestOf_15 : decode cX0_bestOf 15 = .ok (.aload_n 1, 1) := by decide +kernel
theorem dX0_bestOf_16 : decode cX0_bestOf 16 = .ok (.getfield 47, 3) := by decide +kernel
theorem dX0_bestOf_19 : decode cX0_bestOf 19 = .ok (.if_icmp .ge 33, 3) := by decide +kernel
theorem dX0_bestOf_22 : decode cX0_bestOf 22 = .ok (.iload_n 3, 1) := by decide +kernel
theorem dX0_bestOf_23 : decode cX0_bestOf 23 = .ok (.iload 5, 2) := by decide +kernel
theorem dX0_bestOf_25 : decode cX0_bestOf 25 = .ok (.ishr, 1) := by decide +kernel
theorem dX0_bestOf_26 : decode cX0_bestOf 26 = .ok (.iconst 1, 1) := by decide +kernel
theorem dX0_bestOf_27 : decode cX0_bestOf 27 = .ok (.iand, 1) := by decide +kernel
theorem dX0_bestOf_28 : decode cX0_bestOf 28 = .ok (.ifCond .ne 18, 3) := by decide +kernel
theorem dX0_bestOf_31 : decode cX0_bestOf 31 = .ok (.iload 4, 2) := by decide +kernel
theorem dX0_bestOf_33 : decode cX0_bestOf 33 = .ok (.aload_n 0, 1) := by decide +kernel
theorem dX0_bestOf_34 : decode cX0_bestOf 34 = .ok (.iload_n 2, 1) := by decide +kernel
theorem dX0_bestOf_35 : decode cX0_bestOf 35 = .ok (.iload_n 3, 1) := by decide +kernel
theorem dX0_bestOf_36 : decode cX0_bestOf 36 = .ok (.iload 5, 2) := by decide +kernel
theorem dX0_bestOf_38 : decode cX0_bestOf 38 = .ok (.invokevirtual 43, 3) := by decide +kernel
theorem dX0_bestOf_41 : decode cX0_bestOf 41 = .ok (.invokestatic 50, 3) := by decide +kernel
theorem dX0_bestOf_44 : decode cX0_bestOf 44 = .ok (.istore 4, 2) := by decide +kernel
theorem dX0_bestOf_46 : decode cX0_bestOf 46 = .ok (.iinc 5 1, 3) := by decide +kernel
theorem dX0_bestOf_49 : decode cX0_bestOf 49 = .ok (.goto (-36), 3) := by decide +kernel
theorem dX0_bestOf_52 : decode cX0_bestOf 52 = .ok (.iload 4, 2) := by decide +kernel
theorem dX0_bestOf_54 : decode cX0_bestOf 54 = .ok (.ireturn, 1) := by decide +kernel
theorem dX0_mostWith_0 : decode cX0_mostWith 0 = .ok (.iload_n 1, 1) := by decide +kernel
theorem dX0_mostWith_1 : decode cX0_mostWith 1 = .ok (.iconst 1, 1) := by decide +kernel
theorem dX0_mostWith_2 : decode cX0_mostWith 2 = .ok (.iadd, 1) := by decide +kernel
theorem dX0_mostWith_3 : decode cX0_mostWith 3 = .ok (.bipush 64, 2) := by decide +kernel
theorem dX0_mostWith_5 : decode cX0_mostWith 5 = .ok (.imul, 1) := by decide +kernel
theorem dX0_mostWith_6 : decode cX0_mostWith 6 = .ok (.istore 4, 2) := by decide +kernel
theorem dX0_mostWith_8 : decode cX0_mostWith 8 = .ok (.iload_n 3, 1) := by decide +kernel
theorem dX0_mostWith_9 : decode cX0_mostWith 9 = .ok (.ifCond .ge 13, 3) := by decide +kernel
theorem dX0_mostWith_12 : decode cX0_mostWith 12 = .ok (.aload_n 0, 1) := by decide +kernel
theorem dX0_mostWith_13 : decode cX0_mostWith 13 = .ok (.getfield 15, 3) := by decide +kernel
theorem dX0_mostWith_16 : decode cX0_mostWith 16 = .ok (.iload 4, 2) := by decide +kernel
theorem dX0_mostWith_18 : decode cX0_mostWith 18 = .ok (.iload_n 2, 1) := by decide +kernel
theorem dX0_mostWith_19 : decode cX0_mostWith 19 = .ok (.iadd, 1) := by decide +kernel
theorem dX0_mostWith_20 : decode cX0_mostWith 20 = .ok (.iaload, 1) := by decide +kernel
theorem dX0_mostWith_21 : decode cX0_mostWith 21 = .ok (.ireturn, 1) := by decide +kernel
theorem dX0_mostWith_22 : decode cX0_mostWith 22 = .ok (.aload_n 0, 1) := by decide +kernel
theorem dX0_mostWith_23 : decode cX0_mostWith 23 = .ok (.getfield 9, 3) := by decide +kernel
theorem dX0_mostWith_26 : decode cX0_mostWith 26 = .ok (.iload_n 1, 1) := by decide +kernel
theorem dX0_mostWith_27 : decode cX0_mostWith 27 = .ok (.bipush 6, 2) := by decide +kernel
theorem dX0_mostWith_29 : decode cX0_mostWith 29 = .ok (.imul, 1) := by decide +kernel
theorem dX0_mostWith_30 : decode cX0_mostWith 30 = .ok (.iload_n 3, 1) := by decide +kernel
theorem dX0_mostWith_31 : decode cX0_mostWith 31 = .ok (.iadd, 1) := by decide +kernel
theorem dX0_mostWith_32 : decode cX0_mostWith 32 = .ok (.iaload, 1) := by decide +kernel
theorem dX0_mostWith_33 : decode cX0_mostWith 33 = .ok (.aload_n 0, 1) := by decide +kernel
theorem dX0_mostWith_34 : decode cX0_mostWith 34 = .ok (.getfield 15, 3) := by decide +kernel
theorem dX0_mostWith_37 : decode cX0_mostWith 37 = .ok (.iload 4, 2) := by decide +kernel
theorem dX0_mostWith_39 : decode cX0_mostWith 39 = .ok (.iload_n 2, 1) := by decide +kernel
theorem dX0_mostWith_40 : decode cX0_mostWith 40 = .ok (.iconst 1, 1) := by decide +kernel
theorem dX0_mostWith_41 : decode cX0_mostWith 41 = .ok (.iload_n 3, 1) := by decide +kernel
theorem dX0_mostWith_42 : decode cX0_mostWith 42 = .ok (.ishl, 1) := by decide +kernel
theorem dX0_mostWith_43 : decode cX0_mostWith 43 = .ok (.ior, 1) := by decide +kernel
theorem dX0_mostWith_44 : decode cX0_mostWith 44 = .ok (.iadd, 1) := by decide +kernel
theorem dX0_mostWith_45 : decode cX0_mostWith 45 = .ok (.iaload, 1) := by decide +kernel
theorem dX0_mostWith_46 : decode cX0_mostWith 46 = .ok (.iadd, 1) := by decide +kernel
theorem dX0_mostWith_47 : decode cX0_mostWith 47 = .ok (.ireturn, 1) := by decide +kernel
theorem dX0_explained_0 : decode cX0_explained 0 = .ok (.aload_n 0, 1) := by decide +kernel
theorem dX0_explained_1 : decode cX0_explained 1 = .ok (.getfield 15, 3) := by decide +kernel
theorem dX0_explained_4 : decode cX0_explained 4 = .ok (.iconst 0, 1) := by decide +kernel
theorem dX0_explained_5 : decode cX0_explained 5 = .ok (.iaload, 1) := by decide +kernel
theorem dX0_explained_6 : decode cX0_explained 6 = .ok (.ireturn, 1) := by decide +kernel
set_option maxRecDepth 20000 in
theorem ggX0_pillowOf_X0_firstBest : GoodIn wsX0_pillowOf wsX0_firstBest := goodIn_r _ [5, 6, 7, 8, 9, 10, 4, 11, 12, 13, 14, 15, 16, 17, 18, 19] (by decide +kernel) (by decide +kernel)
set_option maxRecDepth 20000 in
theorem gX0_pillowOf_X0_firstBest : GoodIn wsX0_pillowOf (wsV RX0 55 RX0 yX0_firstBest wsX0_firstBest) := goodIn_app (goodIn_of _ (by decide +kernel)) ggX0_pillowOf_X0_firstBest
theorem dX0_pillowOf_0 : decode cX0_pillowOf 0 = .ok (.iconst 0, 1) := by decide +kernel
theorem dX0_pillowOf_1 : decode cX0_pillowOf 1 = .ok (.istore_n 3, 1) := by decide +kernel
theorem dX0_pillowOf_2 : decode cX0_pillowOf 2 = .ok (.bipush (-9), 2) := by decide +kernel
theorem dX0_pillowOf_4 : decode cX0_pillowOf 4 = .ok (.istore 4, 2) := by decide +kernel
theorem dX0_pillowOf_6 : decode cX0_pillowOf 6 = .ok (.iconst 0, 1) := by decide +kernel
theorem dX0_pillowOf_7 : decode cX0_pillowOf 7 = .ok (.istore 5, 2) := by decide +kernel
theorem dX0_pillowOf_9 : decode cX0_pillowOf 9 = .ok (.iload 5, 2) := by decide +kernel
theorem dX0_pillowOf_11 : decode cX0_pillowOf 11 = .ok (.iload_n 2, 1) := by decide +kernel
theorem dX0_pillowOf_12 : decode cX0_pillowOf 12 = .ok (.if_icmp .gt 31, 3) := by decide +kernel
theorem dX0_pillowOf_15 : decode cX0_pillowOf 15 = .ok (.aload_n 0, 1) := by decide +kernel
theorem dX0_pillowOf_16 : decode cX0_pillowOf 16 = .ok (.aload_n 1, 1) := by decide +kernel
theorem dX0_pillowOf_17 : decode cX0_pillowOf 17 = .ok (.iload 5, 2) := by decide +kernel
theorem dX0_pillowOf_19 : decode cX0_pillowOf 19 = .ok (.iload_n 3, 1) := by decide +kernel
theorem dX0_pillowOf_20 : decode cX0_pillowOf 20 = .ok (.invokevirtual 55, 3) := by decide +kernel
theorem dX0_pillowOf_23 : decode cX0_pillowOf 23 = .ok (.istore 4, 2) := by decide +kernel
theorem dX0_pillowOf_25 : decode cX0_pillowOf 25 = .ok (.iload 4, 2) := by decide +kernel
theorem dX0_pillowOf_27 : decode cX0_pillowOf 27 = .ok (.ifCond .lt 10, 3) := by decide +kernel
theorem dX0_pillowOf_30 : decode cX0_pillowOf 30 = .ok (.iload_n 3, 1) := by decide +kernel
theorem dX0_pillowOf_31 : decode cX0_pillowOf 31 = .ok (.iconst 1, 1) := by decide +kernel
theorem dX0_pillowOf_32 : decode cX0_pillowOf 32 = .ok (.iload 4, 2) := by decide +kernel
theorem dX0_pillowOf_34 : decode cX0_pillowOf 34 = .ok (.ishl, 1) := by decide +kernel
theorem dX0_pillowOf_35 : decode cX0_pillowOf 35 = .ok (.ior, 1) := by decide +kernel
theorem dX0_pillowOf_36 : decode cX0_pillowOf 36 = .ok (.istore_n 3, 1) := by decide +kernel
theorem dX0_pillowOf_37 : decode cX0_pillowOf 37 = .ok (.iinc 5 1, 3) := by decide +kernel
theorem dX0_pillowOf_40 : decode cX0_pillowOf 40 = .ok (.goto (-31), 3) := by decide +kernel
theorem dX0_pillowOf_43 : decode cX0_pillowOf 43 = .ok (.iload 4, 2) := by decide +kernel
theorem dX0_pillowOf_45 : decode cX0_pillowOf 45 = .ok (.ireturn, 1) := by decide +kernel
set_option maxRecDepth 20000 in
theorem ggX0_firstBest_X0_mostWith : GoodIn wsX0_firstBest wsX0_mostWith := goodIn_r _ [7, 1, 8, 9, 10] (by decide +kernel) (by decide +kernel)
set_option maxRecDepth 20000 in
theorem gX0_firstBest_X0_mostWith : GoodIn wsX0_firstBest (wsV RX0 43 RX0 yX0_mostWith wsX0_mostWith) := goodIn_app (goodIn_of _ (by decide +kernel)) ggX0_firstBest_X0_mostWith
theorem dX0_firstBest_0 : decode cX0_firstBest 0 = .ok (.aload_n 0, 1) := by decide +kernel
theorem dX0_firstBest_1 : decode cX0_firstBest 1 = .ok (.getfield 15, 3) := by decide +kernel
theorem dX0_firstBest_4 : decode cX0_firstBest 4 = .ok (.iload_n 2, 1) := by decide +kernel
theorem dX0_firstBest_5 : decode cX0_firstBest 5 = .ok (.bipush 64, 2) := by decide +kernel
theorem dX0_firstBest_7 : decode cX0_firstBest 7 = .ok (.imul, 1) := by decide +kernel
theorem dX0_firstBest_8 : decode cX0_firstBest 8 = .ok (.iload_n 3, 1) := by decide +kernel
theorem dX0_firstBest_9 : decode cX0_firstBest 9 = .ok (.iadd, 1) := by decide +kernel
theorem dX0_firstBest_10 : decode cX0_firstBest 10 = .ok (.iaload, 1) := by decide +kernel
theorem dX0_firstBest_11 : decode cX0_firstBest 11 = .ok (.istore 4, 2) := by decide +kernel
theorem dX0_firstBest_13 : decode cX0_firstBest 13 = .ok (.aload_n 0, 1) := by decide +kernel
theorem dX0_firstBest_14 : decode cX0_firstBest 14 = .ok (.iload_n 2, 1) := by decide +kernel
theorem dX0_firstBest_15 : decode cX0_firstBest 15 = .ok (.iload_n 3, 1) := by decide +kernel
theorem dX0_firstBest_16 : decode cX0_firstBest 16 = .ok (.bipush (-9), 2) := by decide +kernel
theorem dX0_firstBest_18 : decode cX0_firstBest 18 = .ok (.invokevirtual 43, 3) := by decide +kernel
theorem dX0_firstBest_21 : decode cX0_firstBest 21 = .ok (.iload 4, 2) := by decide +kernel
theorem dX0_firstBest_23 : decode cX0_firstBest 23 = .ok (.if_icmp .ne 6, 3) := by decide +kernel
theorem dX0_firstBest_26 : decode cX0_firstBest 26 = .ok (.bipush (-9), 2) := by decide +kernel
theorem dX0_firstBest_28 : decode cX0_firstBest 28 = .ok (.ireturn, 1) := by decide +kernel
theorem dX0_firstBest_29 : decode cX0_firstBest 29 = .ok (.iconst 0, 1) := by decide +kernel
theorem dX0_firstBest_30 : decode cX0_firstBest 30 = .ok (.istore 5, 2) := by decide +kernel
theorem dX0_firstBest_32 : decode cX0_firstBest 32 = .ok (.iload 5, 2) := by decide +kernel
theorem dX0_firstBest_34 : decode cX0_firstBest 34 = .ok (.aload_n 1, 1) := by decide +kernel
theorem dX0_firstBest_35 : decode cX0_firstBest 35 = .ok (.getfield 47, 3) := by decide +kernel
theorem dX0_firstBest_38 : decode cX0_firstBest 38 = .ok (.if_icmp .ge 34, 3) := by decide +kernel
theorem dX0_firstBest_41 : decode cX0_firstBest 41 = .ok (.iload_n 3, 1) := by decide +kernel
theorem dX0_firstBest_42 : decode cX0_firstBest 42 = .ok (.iload 5, 2) := by decide +kernel
theorem dX0_firstBest_44 : decode cX0_firstBest 44 = .ok (.ishr, 1) := by decide +kernel
theorem dX0_firstBest_45 : decode cX0_firstBest 45 = .ok (.iconst 1, 1) := by decide +kernel
theorem dX0_firstBest_46 : decode cX0_firstBest 46 = .ok (.iand, 1) := by decide +kernel
theorem dX0_firstBest_47 : decode cX0_firstBest 47 = .ok (.ifCond .ne 19, 3) := by decide +kernel
theorem dX0_firstBest_50 : decode cX0_firstBest 50 = .ok (.aload_n 0, 1) := by decide +kernel
theorem dX0_firstBest_51 : decode cX0_firstBest 51 = .ok (.iload_n 2, 1) := by decide +kernel
theorem dX0_firstBest_52 : decode cX0_firstBest 52 = .ok (.iload_n 3, 1) := by decide +kernel
theorem dX0_firstBest_53 : decode cX0_firstBest 53 = .ok (.iload 5, 2) := by decide +kernel
theorem dX0_firstBest_55 : decode cX0_firstBest 55 = .ok (.invokevirtual 43, 3) := by decide +kernel
theorem dX0_firstBest_58 : decode cX0_firstBest 58 = .ok (.iload 4, 2) := by decide +kernel
theorem dX0_firstBest_60 : decode cX0_firstBest 60 = .ok (.if_icmp .ne 6, 3) := by decide +kernel
theorem dX0_firstBest_63 : decode cX0_firstBest 63 = .ok (.iload 5, 2) := by decide +kernel
theorem dX0_firstBest_65 : decode cX0_firstBest 65 = .ok (.ireturn, 1) := by decide +kernel
theorem dX0_firstBest_66 : decode cX0_firstBest 66 = .ok (.iinc 5 1, 3) := by decide +kernel
theorem dX0_firstBest_69 : decode cX0_firstBest 69 = .ok (.goto (-37), 3) := by decide +kernel
theorem dX0_firstBest_72 : decode cX0_firstBest 72 = .ok (.bipush (-9), 2) := by decide +kernel
theorem dX0_firstBest_74 : decode cX0_firstBest 74 = .ok (.ireturn, 1) := by decide +kernel
set_option maxRecDepth 20000 in
theorem ggX1_init_X6_init : GoodIn wsX1_init wsX6_init := goodIn_r _ [3, 4, 5, 6] (by decide +kernel) (by decide +kernel)
set_option maxRecDepth 20000 in
theorem gX1_init_X6_init_n1 : GoodIn wsX1_init (wsX6_init) := ggX1_init_X6_init
theorem dX1_init_0 : decode cX1_init 0 = .ok (.aload_n 0, 1) := by decide +kernel
theorem dX1_init_1 : decode cX1_init 1 = .ok (.invokespecial 1, 3) := by decide +kernel
theorem dX1_init_4 : decode cX1_init 4 = .ok (.return_, 1) := by decide +kernel
set_option maxRecDepth 20000 in
theorem ggX1_rating_X6_rating : GoodIn wsX1_rating wsX6_rating := goodIn_r _ [9, 10, 11, 12, 13, 14, 15, 16, 17, 18, 19, 20, 21, 22, 23, 24, 25, 26, 27, 32, 33, 34, 35, 36, 37, 38] (by decide +kernel) (by decide +kernel)
set_option maxRecDepth 20000 in
theorem gX1_rating_X6_rating_s15 : GoodIn wsX1_rating (va_wsSU RX1 15 yX6_rating wsX6_rating) := goodIn_app (goodIn_of _ (by decide +kernel)) ggX1_rating_X6_rating
set_option maxRecDepth 20000 in
theorem ggX1_rating_X8_nightNumber : GoodIn wsX1_rating wsX8_nightNumber := goodIn_r _ [31, 20, 38] (by decide +kernel) (by decide +kernel)
set_option maxRecDepth 20000 in
theorem gX1_rating_X8_nightNumber : GoodIn wsX1_rating (wsV RX1 19 RX8 yX8_nightNumber wsX8_nightNumber) := goodIn_app (goodIn_of _ (by decide +kernel)) ggX1_rating_X8_nightNumber
theorem dX1_rating_0 : decode cX1_rating 0 = .ok (.aload_n 0, 1) := by decide +kernel
theorem dX1_rating_1 : decode cX1_rating 1 = .ok (.dup, 1) := by decide +kernel
theorem dX1_rating_2 : decode cX1_rating 2 = .ok (.getfield 7, 3) := by decide +kernel
theorem dX1_rating_5 : decode cX1_rating 5 = .ok (.ldc2_w 13, 3) := by decide +kernel
theorem dX1_rating_8 : decode cX1_rating 8 = .ok (.ladd, 1) := by decide +kernel
theorem dX1_rating_9 : decode cX1_rating 9 = .ok (.putfield 7, 3) := by decide +kernel
theorem dX1_rating_12 : decode cX1_rating 12 = .ok (.aload_n 0, 1) := by decide +kernel
theorem dX1_rating_13 : decode cX1_rating 13 = .ok (.aload_n 1, 1) := by decide +kernel
theorem dX1_rating_14 : decode cX1_rating 14 = .ok (.iload_n 2, 1) := by decide +kernel
theorem dX1_rating_15 : decode cX1_rating 15 = .ok (.invokespecial 15, 3) := by decide +kernel
theorem dX1_rating_18 : decode cX1_rating 18 = .ok (.aload_n 1, 1) := by decide +kernel
theorem dX1_rating_19 : decode cX1_rating 19 = .ok (.invokevirtual 19, 3) := by decide +kernel
theorem dX1_rating_22 : decode cX1_rating 22 = .ok (.iadd, 1) := by decide +kernel
theorem dX1_rating_23 : decode cX1_rating 23 = .ok (.ireturn, 1) := by decide +kernel
set_option maxRecDepth 20000 in
theorem ggX2_init_X6_init : GoodIn wsX2_init wsX6_init := goodIn_r _ [3, 4, 5, 6] (by decide +kernel) (by decide +kernel)
set_option maxRecDepth 20000 in
theorem gX2_init_X6_init_n1 : GoodIn wsX2_init (wsX6_init) := ggX2_init_X6_init
theorem dX2_init_0 : decode cX2_init 0 = .ok (.aload_n 0, 1) := by decide +kernel
theorem dX2_init_1 : decode cX2_init 1 = .ok (.invokespecial 1, 3) := by decide +kernel
theorem dX2_init_4 : decode cX2_init 4 = .ok (.return_, 1) := by decide +kernel
set_option maxRecDepth 20000 in
theorem ggX2_rating_X6_rating : GoodIn wsX2_rating wsX6_rating := goodIn_r _ [9, 10, 11, 12, 13, 14, 15, 16, 17, 18, 19, 20, 21, 22, 23, 24, 25, 26, 27, 37, 38, 39, 40, 41, 42, 43] (by decide +kernel) (by decide +kernel)
set_option maxRecDepth 20000 in
theorem gX2_rating_X6_rating_s15 : GoodIn wsX2_rating (va_wsSU RX2 15 yX6_rating wsX6_rating) := goodIn_app (goodIn_of _ (by decide +kernel)) ggX2_rating_X6_rating
set_option maxRecDepth 20000 in
theorem ggX2_rating_X8_sleepersOn : GoodIn wsX2_rating wsX8_sleepersOn := goodIn_r _ [31, 32, 33, 34, 14, 35, 20, 43] (by decide +kernel) (by decide +kernel)
set_option maxRecDepth 20000 in
theorem gX2_rating_X8_sleepersOn : GoodIn wsX2_rating (wsV RX2 19 RX8 yX8_sleepersOn wsX8_sleepersOn) := goodIn_app (goodIn_of _ (by decide +kernel)) ggX2_rating_X8_sleepersOn
set_option maxRecDepth 20000 in
theorem ggX2_rating_J6_bitCount_0f7a4 : GoodIn wsX2_rating wsJ6_bitCount_0f7a4 := goodIn_r _ [24, 25, 26, 27] (by decide +kernel) (by decide +kernel)
set_option maxRecDepth 20000 in
theorem gX2_rating_J6_bitCount_0f7a4 : GoodIn wsX2_rating (va_wsS RX2 25 yJ6_bitCount_0f7a4 wsJ6_bitCount_0f7a4) := goodIn_app (goodIn_of _ (by decide +kernel)) ggX2_rating_J6_bitCount_0f7a4
theorem dX2_rating_0 : decode cX2_rating 0 = .ok (.aload_n 0, 1) := by decide +kernel
theorem dX2_rating_1 : decode cX2_rating 1 = .ok (.dup, 1) := by decide +kernel
theorem dX2_rating_2 : decode cX2_rating 2 = .ok (.getfield 7, 3) := by decide +kernel
theorem dX2_rating_5 : decode cX2_rating 5 = .ok (.ldc2_w 13, 3) := by decide +kernel
theorem dX2_rating_8 : decode cX2_rating 8 = .ok (.ladd, 1) := by decide +kernel
theorem dX2_rating_9 : decode cX2_rating 9 = .ok (.putfield 7, 3) := by decide +kernel
theorem dX2_rating_12 : decode cX2_rating 12 = .ok (.aload_n 0, 1) := by decide +kernel
theorem dX2_rating_13 : decode cX2_rating 13 = .ok (.aload_n 1, 1) := by decide +kernel
theorem dX2_rating_14 : decode cX2_rating 14 = .ok (.iload_n 2, 1) := by decide +kernel
theorem dX2_rating_15 : decode cX2_rating 15 = .ok (.invokespecial 15, 3) := by decide +kernel
theorem dX2_rating_18 : decode cX2_rating 18 = .ok (.aload_n 1, 1) := by decide +kernel
theorem dX2_rating_19 : decode cX2_rating 19 = .ok (.iload_n 2, 1) := by decide +kernel
theorem dX2_rating_20 : decode cX2_rating 20 = .ok (.invokevirtual 19, 3) := by decide +kernel
theorem dX2_rating_23 : decode cX2_rating 23 = .ok (.invokestatic 25, 3) := by decide +kernel
theorem dX2_rating_26 : decode cX2_rating 26 = .ok (.isub, 1) := by decide +kernel
theorem dX2_rating_27 : decode cX2_rating 27 = .ok (.ireturn, 1) := by decide +kernel
set_option maxRecDepth 20000 in
theorem ggX3_init_X6_init : GoodIn wsX3_init wsX6_init := goodIn_r _ [3, 4, 5, 6] (by decide +kernel) (by decide +kernel)
set_option maxRecDepth 20000 in
theorem gX3_init_X6_init_n3 : GoodIn wsX3_init (wsX6_init) := ggX3_init_X6_init
theorem dX3_init_0 : decode cX3_init 0 = .ok (.aload_n 0, 1) := by decide +kernel
theorem dX3_init_1 : decode cX3_init 1 = .ok (.invokespecial 3, 3) := by decide +kernel
theorem dX3_init_4 : decode cX3_init 4 = .ok (.return_, 1) := by decide +kernel
set_option maxRecDepth 20000 in
theorem ggX3_rating_X6_rating : GoodIn wsX3_rating wsX6_rating := goodIn_r _ [9, 10, 11, 12, 13, 14, 15, 16, 17, 18, 19, 20, 21, 22, 23, 24, 25, 26, 27, 32, 33, 34, 35, 36, 37, 38] (by decide +kernel) (by decide +kernel)
set_option maxRecDepth 20000 in
theorem gX3_rating_X6_rating_s17 : GoodIn wsX3_rating (va_wsSU RX3 17 yX6_rating wsX6_rating) := goodIn_app (goodIn_of _ (by decide +kernel)) ggX3_rating_X6_rating
set_option maxRecDepth 20000 in
theorem ggX3_rating_X8_timesOn : GoodIn wsX3_rating wsX8_timesOn := goodIn_r _ [31, 16, 17, 18, 14, 19, 20, 38] (by decide +kernel) (by decide +kernel)
set_option maxRecDepth 20000 in
theorem gX3_rating_X8_timesOn : GoodIn wsX3_rating (wsV RX3 21 RX8 yX8_timesOn wsX8_timesOn) := goodIn_app (goodIn_of _ (by decide +kernel)) ggX3_rating_X8_timesOn
theorem dX3_rating_0 : decode cX3_rating 0 = .ok (.aload_n 0, 1) := by decide +kernel
theorem dX3_rating_1 : decode cX3_rating 1 = .ok (.dup, 1) := by decide +kernel
theorem dX3_rating_2 : decode cX3_rating 2 = .ok (.getfield 9, 3) := by decide +kernel
theorem dX3_rating_5 : decode cX3_rating 5 = .ok (.ldc2_w 15, 3) := by decide +kernel
theorem dX3_rating_8 : decode cX3_rating 8 = .ok (.ladd, 1) := by decide +kernel
theorem dX3_rating_9 : decode cX3_rating 9 = .ok (.putfield 9, 3) := by decide +kernel
theorem dX3_rating_12 : decode cX3_rating 12 = .ok (.aload_n 0, 1) := by decide +kernel
theorem dX3_rating_13 : decode cX3_rating 13 = .ok (.aload_n 1, 1) := by decide +kernel
theorem dX3_rating_14 : decode cX3_rating 14 = .ok (.iload_n 2, 1) := by decide +kernel
theorem dX3_rating_15 : decode cX3_rating 15 = .ok (.invokespecial 17, 3) := by decide +kernel
theorem dX3_rating_18 : decode cX3_rating 18 = .ok (.aload_n 1, 1) := by decide +kernel
theorem dX3_rating_19 : decode cX3_rating 19 = .ok (.iload_n 2, 1) := by decide +kernel
theorem dX3_rating_20 : decode cX3_rating 20 = .ok (.bipush 127, 2) := by decide +kernel
theorem dX3_rating_22 : decode cX3_rating 22 = .ok (.invokevirtual 21, 3) := by decide +kernel
theorem dX3_rating_25 : decode cX3_rating 25 = .ok (.iadd, 1) := by decide +kernel
theorem dX3_rating_26 : decode cX3_rating 26 = .ok (.ireturn, 1) := by decide +kernel
set_option maxRecDepth 20000 in
theorem ggX4_init_X3_init : GoodIn wsX4_init wsX3_init := goodIn_r _ [3, 4, 5, 6, 7, 8, 9] (by decide +kernel) (by decide +kernel)
set_option maxRecDepth 20000 in
theorem gX4_init_X3_init_n1 : GoodIn wsX4_init (wsX3_init) := ggX4_init_X3_init
theorem dX4_init_0 : decode cX4_init 0 = .ok (.aload_n 0, 1) := by decide +kernel
theorem dX4_init_1 : decode cX4_init 1 = .ok (.invokespecial 1, 3) := by decide +kernel
theorem dX4_init_4 : decode cX4_init 4 = .ok (.return_, 1) := by decide +kernel
set_option maxRecDepth 20000 in
theorem ggX4_rating_X3_rating : GoodIn wsX4_rating wsX3_rating := goodIn_r _ [9, 10, 11, 12, 13, 14, 15, 16, 17, 18, 19, 20, 21, 22, 23, 24, 25, 26, 27, 28, 29, 30, 31, 32, 33, 34, 35, 36, 37, 38, 39, 40, 41, 42, 43, 44, 45, 46, 47] (by decide +kernel) (by decide +kernel)
set_option maxRecDepth 20000 in
theorem gX4_rating_X3_rating_s15 : GoodIn wsX4_rating (va_wsSU RX4 15 yX3_rating wsX3_rating) := goodIn_app (goodIn_of _ (by decide +kernel)) ggX4_rating_X3_rating
theorem dX4_rating_0 : decode cX4_rating 0 = .ok (.aload_n 0, 1) := by decide +kernel
theorem dX4_rating_1 : decode cX4_rating 1 = .ok (.dup, 1) := by decide +kernel
theorem dX4_rating_2 : decode cX4_rating 2 = .ok (.getfield 7, 3) := by decide +kernel
theorem dX4_rating_5 : decode cX4_rating 5 = .ok (.ldc2_w 13, 3) := by decide +kernel
theorem dX4_rating_8 : decode cX4_rating 8 = .ok (.ladd, 1) := by decide +kernel
theorem dX4_rating_9 : decode cX4_rating 9 = .ok (.putfield 7, 3) := by decide +kernel
theorem dX4_rating_12 : decode cX4_rating 12 = .ok (.iconst 2, 1) := by decide +kernel
theorem dX4_rating_13 : decode cX4_rating 13 = .ok (.aload_n 0, 1) := by decide +kernel
theorem dX4_rating_14 : decode cX4_rating 14 = .ok (.aload_n 1, 1) := by decide +kernel
theorem dX4_rating_15 : decode cX4_rating 15 = .ok (.iload_n 2, 1) := by decide +kernel
theorem dX4_rating_16 : decode cX4_rating 16 = .ok (.invokespecial 15, 3) := by decide +kernel
theorem dX4_rating_19 : decode cX4_rating 19 = .ok (.imul, 1) := by decide +kernel
theorem dX4_rating_20 : decode cX4_rating 20 = .ok (.ireturn, 1) := by decide +kernel
set_option maxRecDepth 20000 in
theorem ggX5_init_X2_init : GoodIn wsX5_init wsX2_init := goodIn_r _ [3, 4, 5, 6, 7, 8, 9] (by decide +kernel) (by decide +kernel)
set_option maxRecDepth 20000 in
theorem gX5_init_X2_init_n1 : GoodIn wsX5_init (wsX2_init) := ggX5_init_X2_init
theorem dX5_init_0 : decode cX5_init 0 = .ok (.aload_n 0, 1) := by decide +kernel
theorem dX5_init_1 : decode cX5_init 1 = .ok (.invokespecial 1, 3) := by decide +kernel
theorem dX5_init_4 : decode cX5_init 4 = .ok (.return_, 1) := by decide +kernel
set_option maxRecDepth 20000 in
theorem ggX5_rating_X2_rating : GoodIn wsX5_rating wsX2_rating := goodIn_r _ [9, 10, 11, 12, 13, 14, 15, 16, 17, 18, 19, 20, 21, 22, 23, 24, 25, 26, 27, 28, 29, 30, 31, 32, 33, 34, 35, 36, 37, 38, 39, 40, 41, 42, 43, 44, 45, 46, 47, 48, 49, 50, 51, 52] (by decide +kernel) (by decide +kernel)
set_option maxRecDepth 20000 in
theorem gX5_rating_X2_rating_s15 : GoodIn wsX5_rating (va_wsSU RX5 15 yX2_rating wsX2_rating) := goodIn_app (goodIn_of _ (by decide +kernel)) ggX5_rating_X2_rating
theorem dX5_rating_0 : decode cX5_rating 0 = .ok (.aload_n 0, 1) := by decide +kernel
theorem dX5_rating_1 : decode cX5_rating 1 = .ok (.dup, 1) := by decide +kernel
theorem dX5_rating_2 : decode cX5_rating 2 = .ok (.getfield 7, 3) := by decide +kernel
theorem dX5_rating_5 : decode cX5_rating 5 = .ok (.ldc2_w 13, 3) := by decide +kernel
theorem dX5_rating_8 : decode cX5_rating 8 = .ok (.ladd, 1) := by decide +kernel
theorem dX5_rating_9 : decode cX5_rating 9 = .ok (.putfield 7, 3) := by decide +kernel
theorem dX5_rating_12 : decode cX5_rating 12 = .ok (.aload_n 0, 1) := by decide +kernel
theorem dX5_rating_13 : decode cX5_rating 13 = .ok (.aload_n 1, 1) := by decide +kernel
theorem dX5_rating_14 : decode cX5_rating 14 = .ok (.iload_n 2, 1) := by decide +kernel
theorem dX5_rating_15 : decode cX5_rating 15 = .ok (.invokespecial 15, 3) := by decide +kernel
theorem dX5_rating_18 : decode cX5_rating 18 = .ok (.iload_n 2, 1) := by decide +kernel
theorem dX5_rating_19 : decode cX5_rating 19 = .ok (.iadd, 1) := by decide +kernel
theorem dX5_rating_20 : decode cX5_rating 20 = .ok (.ireturn, 1) := by decide +kernel
theorem dX6_init_0 : decode cX6_init 0 = .ok (.aload_n 0, 1) := by decide +kernel
theorem dX6_init_1 : decode cX6_init 1 = .ok (.invokespecial 1, 3) := by decide +kernel
theorem dX6_init_4 : decode cX6_init 4 = .ok (.return_, 1) := by decide +kernel
set_option maxRecDepth 20000 in
theorem ggX6_rating_X8_thingsOn : GoodIn wsX6_rating wsX8_thingsOn := goodIn_r _ [6, 7, 8, 9, 5, 10, 11, 25] (by decide +kernel) (by decide +kernel)
set_option maxRecDepth 20000 in
theorem gX6_rating_X8_thingsOn : GoodIn wsX6_rating (wsV RX6 13 RX8 yX8_thingsOn wsX8_thingsOn) := goodIn_app (goodIn_of _ (by decide +kernel)) ggX6_rating_X8_thingsOn
set_option maxRecDepth 20000 in
theorem ggX6_rating_J6_bitCount_0f7a4 : GoodIn wsX6_rating wsJ6_bitCount_0f7a4 := goodIn_r _ [15, 16, 17, 18] (by decide +kernel) (by decide +kernel)
set_option maxRecDepth 20000 in
theorem gX6_rating_J6_bitCount_0f7a4 : GoodIn wsX6_rating (va_wsS RX6 19 yJ6_bitCount_0f7a4 wsJ6_bitCount_0f7a4) := goodIn_app (goodIn_of _ (by decide +kernel)) ggX6_rating_J6_bitCount_0f7a4
theorem dX6_rating_0 : decode cX6_rating 0 = .ok (.aload_n 0, 1) := by decide +kernel
theorem dX6_rating_1 : decode cX6_rating 1 = .ok (.dup, 1) := by decide +kernel
theorem dX6_rating_2 : decode cX6_rating 2 = .ok (.getfield 7, 3) := by decide +kernel
theorem dX6_rating_5 : decode cX6_rating 5 = .ok (.lconst 1, 1) := by decide +kernel
theorem dX6_rating_6 : decode cX6_rating 6 = .ok (.ladd, 1) := by decide +kernel
theorem dX6_rating_7 : decode cX6_rating 7 = .ok (.putfield 7, 3) := by decide +kernel
theorem dX6_rating_10 : decode cX6_rating 10 = .ok (.aload_n 1, 1) := by decide +kernel
theorem dX6_rating_11 : decode cX6_rating 11 = .ok (.iload_n 2, 1) := by decide +kernel
theorem dX6_rating_12 : decode cX6_rating 12 = .ok (.invokevirtual 13, 3) := by decide +kernel
theorem dX6_rating_15 : decode cX6_rating 15 = .ok (.invokestatic 19, 3) := by decide +kernel
theorem dX6_rating_18 : decode cX6_rating 18 = .ok (.ireturn, 1) := by decide +kernel
theorem dX7_init_0 : decode cX7_init 0 = .ok (.aload_n 0, 1) := by decide +kernel
theorem dX7_init_1 : decode cX7_init 1 = .ok (.invokespecial 3, 3) := by decide +kernel
theorem dX7_init_4 : decode cX7_init 4 = .ok (.aload_n 0, 1) := by decide +kernel
theorem dX7_init_5 : decode cX7_init 5 = .ok (.sipush 200, 3) := by decide +kernel
theorem dX7_init_8 : decode cX7_init 8 = .ok (.newarray .int, 2) := by decide +kernel
theorem dX7_init_10 : decode cX7_init 10 = .ok (.putfield 9, 3) := by decide +kernel
theorem dX7_init_13 : decode cX7_init 13 = .ok (.return_, 1) := by decide +kernel
theorem dX7_append_0 : decode cX7_append 0 = .ok (.aload_n 0, 1) := by decide +kernel
theorem dX7_append_1 : decode cX7_append 1 = .ok (.getfield 15, 3) := by decide +kernel
theorem dX7_append_4 : decode cX7_append 4 = .ok (.sipush 200, 3) := by decide +kernel
theorem dX7_append_7 : decode cX7_append 7 = .ok (.if_icmp .lt 5, 3) := by decide +kernel
theorem dX7_append_10 : decode cX7_append 10 = .ok (.iconst 0, 1) := by decide +kernel
theorem dX7_append_11 : decode cX7_append 11 = .ok (.ireturn, 1) := by decide +kernel
theorem dX7_append_12 : decode cX7_append 12 = .ok (.aload_n 0, 1) := by decide +kernel
theorem dX7_append_13 : decode cX7_append 13 = .ok (.getfield 9, 3) := by decide +kernel
theorem dX7_append_16 : decode cX7_append 16 = .ok (.aload_n 0, 1) := by decide +kernel
theorem dX7_append_17 : decode cX7_append 17 = .ok (.getfield 15, 3) := by decide +kernel
theorem dX7_append_20 : decode cX7_append 20 = .ok (.iload_n 1, 1) := by decide +kernel
theorem dX7_append_21 : decode cX7_append 21 = .ok (.iastore, 1) := by decide +kernel
theorem dX7_append_22 : decode cX7_append 22 = .ok (.aload_n 0, 1) := by decide +kernel
theorem dX7_append_23 : decode cX7_append 23 = .ok (.dup, 1) := by decide +kernel
theorem dX7_append_24 : decode cX7_append 24 = .ok (.getfield 15, 3) := by decide +kernel
theorem dX7_append_27 : decode cX7_append 27 = .ok (.iconst 1, 1) := by decide +kernel
theorem dX7_append_28 : decode cX7_append 28 = .ok (.iadd, 1) := by decide +kernel
theorem dX7_append_29 : decode cX7_append 29 = .ok (.putfield 15, 3) := by decide +kernel
theorem dX7_append_32 : decode cX7_append 32 = .ok (.iconst 1, 1) := by decide +kernel
theorem dX7_append_33 : decode cX7_append 33 = .ok (.ireturn, 1) := by decide +kernel
theorem dX7_empty_0 : decode cX7_empty 0 = .ok (.aload_n 0, 1) := by decide +kernel
theorem dX7_empty_1 : decode cX7_empty 1 = .ok (.getfield 15, 3) := by decide +kernel
theorem dX7_empty_4 : decode cX7_empty 4 = .ok (.istore_n 1, 1) := by decide +kernel
theorem dX7_empty_5 : decode cX7_empty 5 = .ok (.aload_n 0, 1) := by decide +kernel
theorem dX7_empty_6 : decode cX7_empty 6 = .ok (.iconst 0, 1) := by decide +kernel
theorem dX7_empty_7 : decode cX7_empty 7 = .ok (.putfield 15, 3) := by decide +kernel
theorem dX7_empty_10 : decode cX7_empty 10 = .ok (.iload_n 1, 1) := by decide +kernel
theorem dX7_empty_11 : decode cX7_empty 11 = .ok (.ireturn, 1) := by decide +kernel
set_option maxRecDepth 20000 in
theorem ggX7_read_X10_begin : GoodIn wsX7_read wsX10_begin := goodIn_r _ [8, 9, 10, 11, 12, 13, 14, 15, 76, 77, 78, 79, 80] (by decide +kernel) (by decide +kernel)
set_option maxRecDepth 20000 in
theorem gX7_read_X10_begin : GoodIn wsX7_read (wsV RX7 19 RX10 yX10_begin wsX10_begin) := goodIn_app (goodIn_of _ (by decide +kernel)) ggX7_read_X10_begin
set_option maxRecDepth 20000 in
theorem ggX7_read_X7_advance : GoodIn wsX7_read wsX7_advance := goodIn_r _ [20, 1, 21, 22, 3, 2, 23, 24, 19, 25, 26, 27, 28, 29, 30, 31, 32, 33, 70, 71, 72, 73, 74, 75] (by decide +kernel) (by decide +kernel)
set_option maxRecDepth 20000 in
theorem gX7_read_X7_advance : GoodIn wsX7_read (wsV RX7 27 RX7 yX7_advance wsX7_advance) := goodIn_app (goodIn_of _ (by decide +kernel)) ggX7_read_X7_advance
set_option maxRecDepth 20000 in
theorem ggX7_read_X7_readItem : GoodIn wsX7_read wsX7_readItem := goodIn_r _ [37, 2, 38, 39, 40, 41, 19, 42, 30, 43, 44, 45, 46, 47, 16, 17, 18, 20, 1, 21, 22, 3, 23, 24, 25, 26, 27, 28, 29, 31, 32, 33, 48, 49, 50, 51, 52, 53, 54, 55, 56, 57, 58, 7, 59, 10, 60, 61, 62, 63, 64, 65, 66, 67, 68, 69, 9, 70, 71, 72, 73, 74, 75, 76, 77, 78, 79, 80] (by decide +kernel) (by decide +kernel)
set_option maxRecDepth 20000 in
theorem gX7_read_X7_readItem : GoodIn wsX7_read (wsV RX7 33 RX7 yX7_readItem wsX7_readItem) := goodIn_app (goodIn_of _ (by decide +kernel)) ggX7_read_X7_readItem
theorem dX7_read_0 : decode cX7_read 0 = .ok (.aload_n 1, 1) := by decide +kernel
theorem dX7_read_1 : decode cX7_read 1 = .ok (.invokevirtual 19, 3) := by decide +kernel
theorem dX7_read_4 : decode cX7_read 4 = .ok (.aload_n 0, 1) := by decide +kernel
theorem dX7_read_5 : decode cX7_read 5 = .ok (.iconst 0, 1) := by decide +kernel
theorem dX7_read_6 : decode cX7_read 6 = .ok (.putfield 24, 3) := by decide +kernel
theorem dX7_read_9 : decode cX7_read 9 = .ok (.aload_n 0, 1) := by decide +kernel
theorem dX7_read_10 : decode cX7_read 10 = .ok (.invokevirtual 27, 3) := by decide +kernel
theorem dX7_read_13 : decode cX7_read 13 = .ok (.iconst 0, 1) := by decide +kernel
theorem dX7_read_14 : decode cX7_read 14 = .ok (.istore_n 2, 1) := by decide +kernel
theorem dX7_read_15 : decode cX7_read 15 = .ok (.aload_n 0, 1) := by decide +kernel
theorem dX7_read_16 : decode cX7_read 16 = .ok (.getfield 30, 3) := by decide +kernel
theorem dX7_read_19 : decode cX7_read 19 = .ok (.ifCond .eq 45, 3) := by decide +kernel
theorem dX7_read_22 : decode cX7_read 22 = .ok (.iload_n 2, 1) := by decide +kernel
theorem dX7_read_23 : decode cX7_read 23 = .ok (.sipush 200, 3) := by decide +kernel
theorem dX7_read_26 : decode cX7_read 26 = .ok (.if_icmp .gt 38, 3) := by decide +kernel
theorem dX7_read_29 : decode cX7_read 29 = .ok (.aload_n 0, 1) := by decide +kernel
theorem dX7_read_30 : decode cX7_read 30 = .ok (.aload_n 1, 1) := by decide +kernel
theorem dX7_read_31 : decode cX7_read 31 = .ok (.iload_n 2, 1) := by decide +kernel
theorem dX7_read_32 : decode cX7_read 32 = .ok (.ifCond .ne 7, 3) := by decide +kernel
theorem dX7_read_35 : decode cX7_read 35 = .ok (.iconst 1, 1) := by decide +kernel
theorem dX7_read_36 : decode cX7_read 36 = .ok (.goto 4, 3) := by decide +kernel
theorem dX7_read_39 : decode cX7_read 39 = .ok (.iconst 0, 1) := by decide +kernel
theorem dX7_read_40 : decode cX7_read 40 = .ok (.invokevirtual 33, 3) := by decide +kernel
theorem dX7_read_43 : decode cX7_read 43 = .ok (.ifCond .ne 11, 3) := by decide +kernel
theorem dX7_read_46 : decode cX7_read 46 = .ok (.bipush (-10), 2) := by decide +kernel
theorem dX7_read_48 : decode cX7_read 48 = .ok (.aload_n 0, 1) := by decide +kernel
theorem dX7_read_49 : decode cX7_read 49 = .ok (.getfield 37, 3) := by decide +kernel
theorem dX7_read_52 : decode cX7_read 52 = .ok (.isub, 1) := by decide +kernel
theorem dX7_read_53 : decode cX7_read 53 = .ok (.ireturn, 1) := by decide +kernel
theorem dX7_read_54 : decode cX7_read 54 = .ok (.iinc 2 1, 3) := by decide +kernel
theorem dX7_read_57 : decode cX7_read 57 = .ok (.aload_n 0, 1) := by decide +kernel
theorem dX7_read_58 : decode cX7_read 58 = .ok (.invokevirtual 27, 3) := by decide +kernel
theorem dX7_read_61 : decode cX7_read 61 = .ok (.goto (-46), 3) := by decide +kernel
theorem dX7_read_64 : decode cX7_read 64 = .ok (.iload_n 2, 1) := by decide +kernel
theorem dX7_read_65 : decode cX7_read 65 = .ok (.ireturn, 1) := by decide +kernel
set_option maxRecDepth 20000 in
theorem ggX7_readItem_X7_readPillows : GoodIn wsX7_readItem wsX7_readPillows := goodIn_r _ [7, 8, 9, 10, 11, 12, 6, 13, 1, 14, 15, 16, 17, 18, 19, 20, 21, 22, 23, 24, 25, 26, 27, 28, 29, 30, 31, 32, 33, 34, 35, 57, 58, 59, 60, 61, 62, 63, 64, 65, 66, 67] (by decide +kernel) (by decide +kernel)
set_option maxRecDepth 20000 in
theorem gX7_readItem_X7_readPillows : GoodIn wsX7_readItem (wsV RX7 40 RX7 yX7_readPillows wsX7_readPillows) := goodIn_app (goodIn_of _ (by decide +kernel)) ggX7_readItem_X7_readPillows
set_option maxRecDepth 20000 in
theorem ggX7_readItem_X7_readPerson : GoodIn wsX7_readItem wsX7_readPerson := goodIn_r _ [39, 8, 10, 11, 12, 6, 13, 1, 14, 15, 16, 17, 18, 19, 20, 21, 22, 23, 24, 25, 26, 27, 28, 29, 30, 31, 40, 41, 42, 43, 44, 45, 46, 47, 32, 33, 34, 35, 57, 58, 59, 60, 61, 62, 63, 64, 65, 66, 67] (by decide +kernel) (by decide +kernel)
set_option maxRecDepth 20000 in
theorem gX7_readItem_X7_readPerson : GoodIn wsX7_readItem (wsV RX7 47 RX7 yX7_readPerson wsX7_readPerson) := goodIn_app (goodIn_of _ (by decide +kernel)) ggX7_readItem_X7_readPerson
set_option maxRecDepth 20000 in
theorem ggX7_readItem_X7_readClash : GoodIn wsX7_readItem wsX7_readClash := goodIn_r _ [51, 8, 10, 11, 12, 6, 13, 1, 14, 15, 16, 17, 18, 19, 20, 21, 22, 23, 24, 25, 26, 27, 28, 29, 30, 31, 52, 53, 54, 43, 55, 56, 32, 33, 34, 35, 57, 58, 59, 60, 61, 62, 63, 64, 65, 66, 67] (by decide +kernel) (by decide +kernel)
set_option maxRecDepth 20000 in
theorem gX7_readItem_X7_readClash : GoodIn wsX7_readItem (wsV RX7 50 RX7 yX7_readClash wsX7_readClash) := goodIn_app (goodIn_of _ (by decide +kernel)) ggX7_readItem_X7_readClash
theorem dX7_readItem_0 : decode cX7_readItem 0 = .ok (.aload_n 0, 1) := by decide +kernel
theorem dX7_readItem_1 : decode cX7_readItem 1 = .ok (.getfield 30, 3) := by decide +kernel
theorem dX7_readItem_4 : decode cX7_readItem 4 = .ok (.lookupswitch 83 #[(112, 54), (113, 36), (120, 77)], 36) := by decide +kernel
theorem dX7_readItem_40 : decode cX7_readItem 40 = .ok (.iload_n 2, 1) := by decide +kernel
theorem dX7_readItem_41 : decode cX7_readItem 41 = .ok (.ifCond .eq 15, 3) := by decide +kernel
theorem dX7_readItem_44 : decode cX7_readItem 44 = .ok (.aload_n 0, 1) := by decide +kernel
theorem dX7_readItem_45 : decode cX7_readItem 45 = .ok (.aload_n 1, 1) := by decide +kernel
theorem dX7_readItem_46 : decode cX7_readItem 46 = .ok (.invokevirtual 40, 3) := by decide +kernel
theorem dX7_readItem_49 : decode cX7_readItem 49 = .ok (.ifCond .eq 7, 3) := by decide +kernel
theorem dX7_readItem_52 : decode cX7_readItem 52 = .ok (.iconst 1, 1) := by decide +kernel
theorem dX7_readItem_53 : decode cX7_readItem 53 = .ok (.goto 4, 3) := by decide +kernel
theorem dX7_readItem_56 : decode cX7_readItem 56 = .ok (.iconst 0, 1) := by decide +kernel
theorem dX7_readItem_57 : decode cX7_readItem 57 = .ok (.ireturn, 1) := by decide +kernel
theorem dX7_readItem_58 : decode cX7_readItem 58 = .ok (.aload_n 1, 1) := by decide +kernel
theorem dX7_readItem_59 : decode cX7_readItem 59 = .ok (.getfield 44, 3) := by decide +kernel
theorem dX7_readItem_62 : decode cX7_readItem 62 = .ok (.bipush 6, 2) := by decide +kernel
theorem dX7_readItem_64 : decode cX7_readItem 64 = .ok (.if_icmp .ge 15, 3) := by decide +kernel
theorem dX7_readItem_67 : decode cX7_readItem 67 = .ok (.aload_n 0, 1) := by decide +kernel
theorem dX7_readItem_68 : decode cX7_readItem 68 = .ok (.aload_n 1, 1) := by decide +kernel
theorem dX7_readItem_69 : decode cX7_readItem 69 = .ok (.invokevirtual 47, 3) := by decide +kernel
theorem dX7_readItem_72 : decode cX7_readItem 72 = .ok (.ifCond .eq 7, 3) := by decide +kernel
theorem dX7_readItem_75 : decode cX7_readItem 75 = .ok (.iconst 1, 1) := by decide +kernel
theorem dX7_readItem_76 : decode cX7_readItem 76 = .ok (.goto 4, 3) := by decide +kernel
theorem dX7_readItem_79 : decode cX7_readItem 79 = .ok (.iconst 0, 1) := by decide +kernel
theorem dX7_readItem_80 : decode cX7_readItem 80 = .ok (.ireturn, 1) := by decide +kernel
theorem dX7_readItem_81 : decode cX7_readItem 81 = .ok (.aload_n 0, 1) := by decide +kernel
theorem dX7_readItem_82 : decode cX7_readItem 82 = .ok (.aload_n 1, 1) := by decide +kernel
theorem dX7_readItem_83 : decode cX7_readItem 83 = .ok (.invokevirtual 50, 3) := by decide +kernel
theorem dX7_readItem_86 : decode cX7_readItem 86 = .ok (.ireturn, 1) := by decide +kernel
theorem dX7_readItem_87 : decode cX7_readItem 87 = .ok (.iconst 0, 1) := by decide +kernel
theorem dX7_readItem_88 : decode cX7_readItem 88 = .ok (.ireturn, 1) := by decide +kernel
set_option maxRecDepth 20000 in
theorem ggX7_readPillows_X7_readNumber : GoodIn wsX7_readPillows wsX7_readNumber := goodIn_r _ [7, 8, 1, 9, 10, 11, 6, 12, 13, 14, 15, 16, 17, 18, 19, 20, 21, 22, 23, 24, 25, 26, 31, 32, 33, 34, 35, 36] (by decide +kernel) (by decide +kernel)
set_option maxRecDepth 20000 in
theorem gX7_readPillows_X7_readNumber : GoodIn wsX7_readPillows (wsV RX7 53 RX7 yX7_readNumber wsX7_readNumber) := goodIn_app (goodIn_of _ (by decide +kernel)) ggX7_readPillows_X7_readNumber
set_option maxRecDepth 20000 in
theorem ggX7_readPillows_X7_readItemEnd : GoodIn wsX7_readPillows wsX7_readItemEnd := goodIn_r _ [30, 8, 9, 10, 11, 6, 12, 13, 14, 15, 16, 17, 18, 19, 20, 21, 22, 23, 1, 24, 25, 26, 31, 32, 33, 34, 35, 36] (by decide +kernel) (by decide +kernel)
set_option maxRecDepth 20000 in
theorem gX7_readPillows_X7_readItemEnd : GoodIn wsX7_readPillows (wsV RX7 63 RX7 yX7_readItemEnd wsX7_readItemEnd) := goodIn_app (goodIn_of _ (by decide +kernel)) ggX7_readPillows_X7_readItemEnd
theorem dX7_readPillows_0 : decode cX7_readPillows 0 = .ok (.aload_n 0, 1) := by decide +kernel
theorem dX7_readPillows_1 : decode cX7_readPillows 1 = .ok (.iconst 1, 1) := by decide +kernel
theorem dX7_readPillows_2 : decode cX7_readPillows 2 = .ok (.bipush 6, 2) := by decide +kernel
theorem dX7_readPillows_4 : decode cX7_readPillows 4 = .ok (.invokevirtual 53, 3) := by decide +kernel
theorem dX7_readPillows_7 : decode cX7_readPillows 7 = .ok (.ifCond .ne 5, 3) := by decide +kernel
theorem dX7_readPillows_10 : decode cX7_readPillows 10 = .ok (.iconst 0, 1) := by decide +kernel
theorem dX7_readPillows_11 : decode cX7_readPillows 11 = .ok (.ireturn, 1) := by decide +kernel
theorem dX7_readPillows_12 : decode cX7_readPillows 12 = .ok (.aload_n 1, 1) := by decide +kernel
theorem dX7_readPillows_13 : decode cX7_readPillows 13 = .ok (.aload_n 0, 1) := by decide +kernel
theorem dX7_readPillows_14 : decode cX7_readPillows 14 = .ok (.getfield 57, 3) := by decide +kernel
theorem dX7_readPillows_17 : decode cX7_readPillows 17 = .ok (.putfield 60, 3) := by decide +kernel
theorem dX7_readPillows_20 : decode cX7_readPillows 20 = .ok (.aload_n 0, 1) := by decide +kernel
theorem dX7_readPillows_21 : decode cX7_readPillows 21 = .ok (.invokevirtual 63, 3) := by decide +kernel
theorem dX7_readPillows_24 : decode cX7_readPillows 24 = .ok (.ireturn, 1) := by decide +kernel
set_option maxRecDepth 20000 in
theorem ggX7_readPerson_X7_readNumber : GoodIn wsX7_readPerson wsX7_readNumber := goodIn_r _ [6, 7, 1, 8, 9, 10, 5, 11, 12, 13, 14, 15, 16, 17, 18, 19, 20, 21, 22, 23, 24, 25, 38, 39, 40, 41, 42, 43] (by decide +kernel) (by decide +kernel)
set_option maxRecDepth 20000 in
theorem gX7_readPerson_X7_readNumber : GoodIn wsX7_readPerson (wsV RX7 53 RX7 yX7_readNumber wsX7_readNumber) := goodIn_app (goodIn_of _ (by decide +kernel)) ggX7_readPerson_X7_readNumber
set_option maxRecDepth 20000 in
theorem ggX7_readPerson_X10_addPerson : GoodIn wsX7_readPerson wsX10_addPerson := goodIn_r _ [30, 31, 32, 33, 44, 45, 46, 47, 48] (by decide +kernel) (by decide +kernel)
set_option maxRecDepth 20000 in
theorem gX7_readPerson_X10_addPerson : GoodIn wsX7_readPerson (wsV RX7 67 RX10 yX10_addPerson wsX10_addPerson) := goodIn_app (goodIn_of _ (by decide +kernel)) ggX7_readPerson_X10_addPerson
set_option maxRecDepth 20000 in
theorem ggX7_readPerson_X7_readItemEnd : GoodIn wsX7_readPerson wsX7_readItemEnd := goodIn_r _ [37, 7, 8, 9, 10, 5, 11, 12, 13, 14, 15, 16, 17, 18, 19, 20, 21, 22, 1, 23, 24, 25, 38, 39, 40, 41, 42, 43] (by decide +kernel) (by decide +kernel)
set_option maxRecDepth 20000 in
theorem gX7_readPerson_X7_readItemEnd : GoodIn wsX7_readPerson (wsV RX7 63 RX7 yX7_readItemEnd wsX7_readItemEnd) := goodIn_app (goodIn_of _ (by decide +kernel)) ggX7_readPerson_X7_readItemEnd
theorem dX7_readPerson_0 : decode cX7_readPerson 0 = .ok (.aload_n 0, 1) := by decide +kernel
theorem dX7_readPerson_1 : decode cX7_readPerson 1 = .ok (.iconst 0, 1) := by decide +kernel
theorem dX7_readPerson_2 : decode cX7_readPerson 2 = .ok (.bipush 127, 2) := by decide +kernel
theorem dX7_readPerson_4 : decode cX7_readPerson 4 = .ok (.invokevirtual 53, 3) := by decide +kernel
theorem dX7_readPerson_7 : decode cX7_readPerson 7 = .ok (.ifCond .ne 5, 3) := by decide +kernel
theorem dX7_readPerson_10 : decode cX7_readPerson 10 = .ok (.iconst 0, 1) := by decide +kernel
theorem dX7_readPerson_11 : decode cX7_readPerson 11 = .ok (.ireturn, 1) := by decide +kernel
theorem dX7_readPerson_12 : decode cX7_readPerson 12 = .ok (.aload_n 0, 1) := by decide +kernel
theorem dX7_readPerson_13 : decode cX7_readPerson 13 = .ok (.getfield 57, 3) := by decide +kernel
theorem dX7_readPerson_16 : decode cX7_readPerson 16 = .ok (.istore_n 2, 1) := by decide +kernel
theorem dX7_readPerson_17 : decode cX7_readPerson 17 = .ok (.aload_n 0, 1) := by decide +kernel
theorem dX7_readPerson_18 : decode cX7_readPerson 18 = .ok (.iconst 0, 1) := by decide +kernel
theorem dX7_readPerson_19 : decode cX7_readPerson 19 = .ok (.bipush 10, 2) := by decide +kernel
theorem dX7_readPerson_21 : decode cX7_readPerson 21 = .ok (.invokevirtual 53, 3) := by decide +kernel
theorem dX7_readPerson_24 : decode cX7_readPerson 24 = .ok (.ifCond .ne 5, 3) := by decide +kernel
theorem dX7_readPerson_27 : decode cX7_readPerson 27 = .ok (.iconst 0, 1) := by decide +kernel
theorem dX7_readPerson_28 : decode cX7_readPerson 28 = .ok (.ireturn, 1) := by decide +kernel
theorem dX7_readPerson_29 : decode cX7_readPerson 29 = .ok (.aload_n 1, 1) := by decide +kernel
theorem dX7_readPerson_30 : decode cX7_readPerson 30 = .ok (.iload_n 2, 1) := by decide +kernel
theorem dX7_readPerson_31 : decode cX7_readPerson 31 = .ok (.aload_n 0, 1) := by decide +kernel
theorem dX7_readPerson_32 : decode cX7_readPerson 32 = .ok (.getfield 57, 3) := by decide +kernel
theorem dX7_readPerson_35 : decode cX7_readPerson 35 = .ok (.invokevirtual 67, 3) := by decide +kernel
theorem dX7_readPerson_38 : decode cX7_readPerson 38 = .ok (.aload_n 0, 1) := by decide +kernel
theorem dX7_readPerson_39 : decode cX7_readPerson 39 = .ok (.invokevirtual 63, 3) := by decide +kernel
theorem dX7_readPerson_42 : decode cX7_readPerson 42 = .ok (.ireturn, 1) := by decide +kernel
set_option maxRecDepth 20000 in
theorem ggX7_readClash_X7_readNumber : GoodIn wsX7_readClash wsX7_readNumber := goodIn_r _ [6, 7, 1, 8, 9, 10, 5, 11, 12, 13, 14, 15, 16, 17, 18, 19, 20, 21, 22, 23, 24, 25, 36, 37, 38, 39, 40, 41] (by decide +kernel) (by decide +kernel)
set_option maxRecDepth 20000 in
theorem gX7_readClash_X7_readNumber : GoodIn wsX7_readClash (wsV RX7 53 RX7 yX7_readNumber wsX7_readNumber) := goodIn_app (goodIn_of _ (by decide +kernel)) ggX7_readClash_X7_readNumber
set_option maxRecDepth 20000 in
theorem ggX7_readClash_X10_addClash : GoodIn wsX7_readClash wsX10_addClash := goodIn_r _ [30, 31, 42, 43, 44, 45, 46] (by decide +kernel) (by decide +kernel)
set_option maxRecDepth 20000 in
theorem gX7_readClash_X10_addClash : GoodIn wsX7_readClash (wsV RX7 71 RX10 yX10_addClash wsX10_addClash) := goodIn_app (goodIn_of _ (by decide +kernel)) ggX7_readClash_X10_addClash
set_option maxRecDepth 20000 in
theorem ggX7_readClash_X7_readItemEnd : GoodIn wsX7_readClash wsX7_readItemEnd := goodIn_r _ [35, 7, 8, 9, 10, 5, 11, 12, 13, 14, 15, 16, 17, 18, 19, 20, 21, 22, 1, 23, 24, 25, 36, 37, 38, 39, 40, 41] (by decide +kernel) (by decide +kernel)
set_option maxRecDepth 20000 in
theorem gX7_readClash_X7_readItemEnd : GoodIn wsX7_readClash (wsV RX7 63 RX7 yX7_readItemEnd wsX7_readItemEnd) := goodIn_app (goodIn_of _ (by decide +kernel)) ggX7_readClash_X7_readItemEnd
theorem dX7_readClash_0 : decode cX7_readClash 0 = .ok (.aload_n 0, 1) := by decide +kernel
theorem dX7_readClash_1 : decode cX7_readClash 1 = .ok (.iconst 0, 1) := by decide +kernel
theorem dX7_readClash_2 : decode cX7_readClash 2 = .ok (.bipush 6, 2) := by decide +kernel
theorem dX7_readClash_4 : decode cX7_readClash 4 = .ok (.invokevirtual 53, 3) := by decide +kernel
theorem dX7_readClash_7 : decode cX7_readClash 7 = .ok (.ifCond .ne 5, 3) := by decide +kernel
theorem dX7_readClash_10 : decode cX7_readClash 10 = .ok (.iconst 0, 1) := by decide +kernel
theorem dX7_readClash_11 : decode cX7_readClash 11 = .ok (.ireturn, 1) := by decide +kernel
theorem dX7_readClash_12 : decode cX7_readClash 12 = .ok (.aload_n 0, 1) := by decide +kernel
theorem dX7_readClash_13 : decode cX7_readClash 13 = .ok (.getfield 57, 3) := by decide +kernel
theorem dX7_readClash_16 : decode cX7_readClash 16 = .ok (.istore_n 2, 1) := by decide +kernel
theorem dX7_readClash_17 : decode cX7_readClash 17 = .ok (.aload_n 0, 1) := by decide +kernel
theorem dX7_readClash_18 : decode cX7_readClash 18 = .ok (.iconst 0, 1) := by decide +kernel
theorem dX7_readClash_19 : decode cX7_readClash 19 = .ok (.bipush 6, 2) := by decide +kernel
theorem dX7_readClash_21 : decode cX7_readClash 21 = .ok (.invokevirtual 53, 3) := by decide +kernel
theorem dX7_readClash_24 : decode cX7_readClash 24 = .ok (.ifCond .eq 11, 3) := by decide +kernel
theorem dX7_readClash_27 : decode cX7_readClash 27 = .ok (.aload_n 0, 1) := by decide +kernel
theorem dX7_readClash_28 : decode cX7_readClash 28 = .ok (.getfield 57, 3) := by decide +kernel
theorem dX7_readClash_31 : decode cX7_readClash 31 = .ok (.iload_n 2, 1) := by decide +kernel
theorem dX7_readClash_32 : decode cX7_readClash 32 = .ok (.if_icmp .ne 5, 3) := by decide +kernel
theorem dX7_readClash_35 : decode cX7_readClash 35 = .ok (.iconst 0, 1) := by decide +kernel
theorem dX7_readClash_36 : decode cX7_readClash 36 = .ok (.ireturn, 1) := by decide +kernel
theorem dX7_readClash_37 : decode cX7_readClash 37 = .ok (.aload_n 1, 1) := by decide +kernel
theorem dX7_readClash_38 : decode cX7_readClash 38 = .ok (.iload_n 2, 1) := by decide +kernel
theorem dX7_readClash_39 : decode cX7_readClash 39 = .ok (.aload_n 0, 1) := by decide +kernel
theorem dX7_readClash_40 : decode cX7_readClash 40 = .ok (.getfield 57, 3) := by decide +kernel
theorem dX7_readClash_43 : decode cX7_readClash 43 = .ok (.invokevirtual 71, 3) := by decide +kernel
theorem dX7_readClash_46 : decode cX7_readClash 46 = .ok (.aload_n 0, 1) := by decide +kernel
theorem dX7_readClash_47 : decode cX7_readClash 47 = .ok (.invokevirtual 63, 3) := by decide +kernel
theorem dX7_readClash_50 : decode cX7_readClash 50 = .ok (.ireturn, 1) := by decide +kernel
set_option maxRecDepth 20000 in
theorem ggX7_readNumber_X7_advance : GoodIn wsX7_readNumber wsX7_advance := goodIn_r _ [7, 8, 9, 10, 11, 1, 12, 13, 6, 14, 15, 16, 17, 18, 2, 19, 20, 21, 22, 23, 24, 25, 26, 27] (by decide +kernel) (by decide +kernel)
set_option maxRecDepth 20000 in
theorem gX7_readNumber_X7_advance : GoodIn wsX7_readNumber (wsV RX7 27 RX7 yX7_advance wsX7_advance) := goodIn_app (goodIn_of _ (by decide +kernel)) ggX7_readNumber_X7_advance
theorem dX7_readNumber_0 : decode cX7_readNumber 0 = .ok (.aload_n 0, 1) := by decide +kernel
theorem dX7_readNumber_1 : decode cX7_readNumber 1 = .ok (.invokevirtual 27, 3) := by decide +kernel
theorem dX7_readNumber_4 : decode cX7_readNumber 4 = .ok (.aload_n 0, 1) := by decide +kernel
theorem dX7_readNumber_5 : decode cX7_readNumber 5 = .ok (.getfield 30, 3) := by decide +kernel
theorem dX7_readNumber_8 : decode cX7_readNumber 8 = .ok (.iconst 1, 1) := by decide +kernel
theorem dX7_readNumber_9 : decode cX7_readNumber 9 = .ok (.if_icmp .ne 23, 3) := by decide +kernel
theorem dX7_readNumber_12 : decode cX7_readNumber 12 = .ok (.aload_n 0, 1) := by decide +kernel
theorem dX7_readNumber_13 : decode cX7_readNumber 13 = .ok (.getfield 57, 3) := by decide +kernel
theorem dX7_readNumber_16 : decode cX7_readNumber 16 = .ok (.iload_n 1, 1) := by decide +kernel
theorem dX7_readNumber_17 : decode cX7_readNumber 17 = .ok (.if_icmp .lt 15, 3) := by decide +kernel
theorem dX7_readNumber_20 : decode cX7_readNumber 20 = .ok (.aload_n 0, 1) := by decide +kernel
theorem dX7_readNumber_21 : decode cX7_readNumber 21 = .ok (.getfield 57, 3) := by decide +kernel
theorem dX7_readNumber_24 : decode cX7_readNumber 24 = .ok (.iload_n 2, 1) := by decide +kernel
theorem dX7_readNumber_25 : decode cX7_readNumber 25 = .ok (.if_icmp .gt 7, 3) := by decide +kernel
theorem dX7_readNumber_28 : decode cX7_readNumber 28 = .ok (.iconst 1, 1) := by decide +kernel
theorem dX7_readNumber_29 : decode cX7_readNumber 29 = .ok (.goto 4, 3) := by decide +kernel
theorem dX7_readNumber_32 : decode cX7_readNumber 32 = .ok (.iconst 0, 1) := by decide +kernel
theorem dX7_readNumber_33 : decode cX7_readNumber 33 = .ok (.ireturn, 1) := by decide +kernel
set_option maxRecDepth 20000 in
theorem ggX7_readItemEnd_X7_advance : GoodIn wsX7_readItemEnd wsX7_advance := goodIn_r _ [6, 7, 8, 9, 10, 1, 11, 12, 5, 13, 14, 15, 16, 17, 18, 19, 20, 21, 22, 23, 24, 25, 26, 27] (by decide +kernel) (by decide +kernel)
set_option maxRecDepth 20000 in
theorem gX7_readItemEnd_X7_advance : GoodIn wsX7_readItemEnd (wsV RX7 27 RX7 yX7_advance wsX7_advance) := goodIn_app (goodIn_of _ (by decide +kernel)) ggX7_readItemEnd_X7_advance
theorem dX7_readItemEnd_0 : decode cX7_readItemEnd 0 = .ok (.aload_n 0, 1) := by decide +kernel
theorem dX7_readItemEnd_1 : decode cX7_readItemEnd 1 = .ok (.invokevirtual 27, 3) := by decide +kernel
theorem dX7_readItemEnd_4 : decode cX7_readItemEnd 4 = .ok (.aload_n 0, 1) := by decide +kernel
theorem dX7_readItemEnd_5 : decode cX7_readItemEnd 5 = .ok (.getfield 30, 3) := by decide +kernel
theorem dX7_readItemEnd_8 : decode cX7_readItemEnd 8 = .ok (.bipush 59, 2) := by decide +kernel
theorem dX7_readItemEnd_10 : decode cX7_readItemEnd 10 = .ok (.if_icmp .ne 7, 3) := by decide +kernel
theorem dX7_readItemEnd_13 : decode cX7_readItemEnd 13 = .ok (.iconst 1, 1) := by decide +kernel
theorem dX7_readItemEnd_14 : decode cX7_readItemEnd 14 = .ok (.goto 4, 3) := by decide +kernel
theorem dX7_readItemEnd_17 : decode cX7_readItemEnd 17 = .ok (.iconst 0, 1) := by decide +kernel
theorem dX7_readItemEnd_18 : decode cX7_readItemEnd 18 = .ok (.ireturn, 1) := by decide +kernel
set_option maxRecDepth 20000 in
theorem ggX7_advance_X7_isDigit : GoodIn wsX7_advance wsX7_isDigit := goodIn_r _ [9] (by decide +kernel) (by decide +kernel)
set_option maxRecDepth 20000 in
theorem gX7_advance_X7_isDigit : GoodIn wsX7_advance (va_wsS RX7 74 yX7_isDigit wsX7_isDigit) := goodIn_app (goodIn_of _ (by decide +kernel)) ggX7_advance_X7_isDigit
set_option maxRecDepth 20000 in
theorem ggX7_advance_X7_scanNumber : GoodIn wsX7_advance wsX7_scanNumber := goodIn_r _ [13, 14, 1, 2, 3, 4, 6, 7, 8, 9, 18, 19, 20, 21, 22, 23] (by decide +kernel) (by decide +kernel)
set_option maxRecDepth 20000 in
theorem gX7_advance_X7_scanNumber : GoodIn wsX7_advance (wsV RX7 78 RX7 yX7_scanNumber wsX7_scanNumber) := goodIn_app (goodIn_of _ (by decide +kernel)) ggX7_advance_X7_scanNumber
set_option maxRecDepth 20000 in
theorem ggX7_advance_X7_tokenOf : GoodIn wsX7_advance wsX7_tokenOf := goodIn_r _ [17] (by decide +kernel) (by decide +kernel)
set_option maxRecDepth 20000 in
theorem gX7_advance_X7_tokenOf : GoodIn wsX7_advance (va_wsS RX7 82 yX7_tokenOf wsX7_tokenOf) := goodIn_app (goodIn_of _ (by decide +kernel)) ggX7_advance_X7_tokenOf
theorem dX7_advance_0 : decode cX7_advance 0 = .ok (.aload_n 0, 1) := by decide +kernel
theorem dX7_advance_1 : decode cX7_advance 1 = .ok (.getfield 24, 3) := by decide +kernel
theorem dX7_advance_4 : decode cX7_advance 4 = .ok (.aload_n 0, 1) := by decide +kernel
theorem dX7_advance_5 : decode cX7_advance 5 = .ok (.getfield 15, 3) := by decide +kernel
theorem dX7_advance_8 : decode cX7_advance 8 = .ok (.if_icmp .ge 30, 3) := by decide +kernel
theorem dX7_advance_11 : decode cX7_advance 11 = .ok (.aload_n 0, 1) := by decide +kernel
theorem dX7_advance_12 : decode cX7_advance 12 = .ok (.getfield 9, 3) := by decide +kernel
theorem dX7_advance_15 : decode cX7_advance 15 = .ok (.aload_n 0, 1) := by decide +kernel
theorem dX7_advance_16 : decode cX7_advance 16 = .ok (.getfield 24, 3) := by decide +kernel
theorem dX7_advance_19 : decode cX7_advance 19 = .ok (.iaload, 1) := by decide +kernel
theorem dX7_advance_20 : decode cX7_advance 20 = .ok (.bipush 32, 2) := by decide +kernel
theorem dX7_advance_22 : decode cX7_advance 22 = .ok (.if_icmp .ne 16, 3) := by decide +kernel
theorem dX7_advance_25 : decode cX7_advance 25 = .ok (.aload_n 0, 1) := by decide +kernel
theorem dX7_advance_26 : decode cX7_advance 26 = .ok (.dup, 1) := by decide +kernel
theorem dX7_advance_27 : decode cX7_advance 27 = .ok (.getfield 24, 3) := by decide +kernel
theorem dX7_advance_30 : decode cX7_advance 30 = .ok (.iconst 1, 1) := by decide +kernel
theorem dX7_advance_31 : decode cX7_advance 31 = .ok (.iadd, 1) := by decide +kernel
theorem dX7_advance_32 : decode cX7_advance 32 = .ok (.putfield 24, 3) := by decide +kernel
theorem dX7_advance_35 : decode cX7_advance 35 = .ok (.goto (-35), 3) := by decide +kernel
theorem dX7_advance_38 : decode cX7_advance 38 = .ok (.aload_n 0, 1) := by decide +kernel
theorem dX7_advance_39 : decode cX7_advance 39 = .ok (.aload_n 0, 1) := by decide +kernel
theorem dX7_advance_40 : decode cX7_advance 40 = .ok (.getfield 24, 3) := by decide +kernel
theorem dX7_advance_43 : decode cX7_advance 43 = .ok (.putfield 37, 3) := by decide +kernel
theorem dX7_advance_46 : decode cX7_advance 46 = .ok (.aload_n 0, 1) := by decide +kernel
theorem dX7_advance_47 : decode cX7_advance 47 = .ok (.getfield 24, 3) := by decide +kernel
theorem dX7_advance_50 : decode cX7_advance 50 = .ok (.aload_n 0, 1) := by decide +kernel
theorem dX7_advance_51 : decode cX7_advance 51 = .ok (.getfield 15, 3) := by decide +kernel
theorem dX7_advance_54 : decode cX7_advance 54 = .ok (.if_icmp .lt 11, 3) := by decide +kernel
theorem dX7_advance_57 : decode cX7_advance 57 = .ok (.aload_n 0, 1) := by decide +kernel
theorem dX7_advance_58 : decode cX7_advance 58 = .ok (.iconst 0, 1) := by decide +kernel
theorem dX7_advance_59 : decode cX7_advance 59 = .ok (.putfield 30, 3) := by decide +kernel
theorem dX7_advance_62 : decode cX7_advance 62 = .ok (.goto 55, 3) := by decide +kernel
theorem dX7_advance_65 : decode cX7_advance 65 = .ok (.aload_n 0, 1) := by decide +kernel
theorem dX7_advance_66 : decode cX7_advance 66 = .ok (.getfield 9, 3) := by decide +kernel
theorem dX7_advance_69 : decode cX7_advance 69 = .ok (.aload_n 0, 1) := by decide +kernel
theorem dX7_advance_70 : decode cX7_advance 70 = .ok (.getfield 24, 3) := by decide +kernel
theorem dX7_advance_73 : decode cX7_advance 73 = .ok (.iaload, 1) := by decide +kernel
theorem dX7_advance_74 : decode cX7_advance 74 = .ok (.invokestatic 74, 3) := by decide +kernel
theorem dX7_advance_77 : decode cX7_advance 77 = .ok (.ifCond .eq 14, 3) := by decide +kernel
theorem dX7_advance_80 : decode cX7_advance 80 = .ok (.aload_n 0, 1) := by decide +kernel
theorem dX7_advance_81 : decode cX7_advance 81 = .ok (.aload_n 0, 1) := by decide +kernel
theorem dX7_advance_82 : decode cX7_advance 82 = .ok (.invokevirtual 78, 3) := by decide +kernel
theorem dX7_advance_85 : decode cX7_advance 85 = .ok (.putfield 30, 3) := by decide +kernel
theorem dX7_advance_88 : decode cX7_advance 88 = .ok (.goto 29, 3) := by decide +kernel
theorem dX7_advance_91 : decode cX7_advance 91 = .ok (.aload_n 0, 1) := by decide +kernel
theorem dX7_advance_92 : decode cX7_advance 92 = .ok (.aload_n 0, 1) := by decide +kernel
theorem dX7_advance_93 : decode cX7_advance 93 = .ok (.getfield 9, 3) := by decide +kernel
theorem dX7_advance_96 : decode cX7_advance 96 = .ok (.aload_n 0, 1) := by decide +kernel
theorem dX7_advance_97 : decode cX7_advance 97 = .ok (.getfield 24, 3) := by decide +kernel
theorem dX7_advance_100 : decode cX7_advance 100 = .ok (.iaload, 1) := by decide +kernel
theorem dX7_advance_101 : decode cX7_advance 101 = .ok (.invokestatic 82, 3) := by decide +kernel
theorem dX7_advance_104 : decode cX7_advance 104 = .ok (.putfield 30, 3) := by decide +kernel
theorem dX7_advance_107 : decode cX7_advance 107 = .ok (.aload_n 0, 1) := by decide +kernel
theorem dX7_advance_108 : decode cX7_advance 108 = .ok (.dup, 1) := by decide +kernel
theorem dX7_advance_109 : decode cX7_advance 109 = .ok (.getfield 24, 3) := by decide +kernel
theorem dX7_advance_112 : decode cX7_advance 112 = .ok (.iconst 1, 1) := by decide +kernel
theorem dX7_advance_113 : decode cX7_advance 113 = .ok (.iadd, 1) := by decide +kernel
theorem dX7_advance_114 : decode cX7_advance 114 = .ok (.putfield 24, 3) := by decide +kernel
theorem dX7_advance_117 : decode cX7_advance 117 = .ok (.return_, 1) := by decide +kernel
