theorem dX7_isDigit_0 : decode cX7_isDigit 0 = .ok (.iload_n 0, 1) := by decide +kernel
theorem dX7_isDigit_1 : decode cX7_isDigit 1 = .ok (.bipush 48, 2) := by decide +kernel
theorem dX7_isDigit_3 : decode cX7_isDigit 3 = .ok (.if_icmp .lt 13, 3) := by decide +kernel
theorem dX7_isDigit_6 : decode cX7_isDigit 6 = .ok (.iload_n 0, 1) := by decide +kernel
theorem dX7_isDigit_7 : decode cX7_isDigit 7 = .ok (.bipush 57, 2) := by decide +kernel
theorem dX7_isDigit_9 : decode cX7_isDigit 9 = .ok (.if_icmp .gt 7, 3) := by decide +kernel
theorem dX7_isDigit_12 : decode cX7_isDigit 12 = .ok (.iconst 1, 1) := by decide +kernel
theorem dX7_isDigit_13 : decode cX7_isDigit 13 = .ok (.goto 4, 3) := by decide +kernel
theorem dX7_isDigit_16 : decode cX7_isDigit 16 = .ok (.iconst 0, 1) := by decide +kernel
theorem dX7_isDigit_17 : decode cX7_isDigit 17 = .ok (.ireturn, 1) := by decide +kernel
set_option maxRecDepth 20000 in
theorem ggX7_scanNumber_X7_isDigit : GoodIn wsX7_scanNumber wsX7_isDigit := goodIn_r _ [9] (by decide +kernel) (by decide +kernel)
set_option maxRecDepth 20000 in
theorem gX7_scanNumber_X7_isDigit : GoodIn wsX7_scanNumber (va_wsS RX7 74 yX7_isDigit wsX7_isDigit) := goodIn_app (goodIn_of _ (by decide +kernel)) ggX7_scanNumber_X7_isDigit
theorem dX7_scanNumber_0 : decode cX7_scanNumber 0 = .ok (.aload_n 0, 1) := by decide +kernel
theorem dX7_scanNumber_1 : decode cX7_scanNumber 1 = .ok (.iconst 0, 1) := by decide +kernel
theorem dX7_scanNumber_2 : decode cX7_scanNumber 2 = .ok (.putfield 57, 3) := by decide +kernel
theorem dX7_scanNumber_5 : decode cX7_scanNumber 5 = .ok (.aload_n 0, 1) := by decide +kernel
theorem dX7_scanNumber_6 : decode cX7_scanNumber 6 = .ok (.getfield 24, 3) := by decide +kernel
theorem dX7_scanNumber_9 : decode cX7_scanNumber 9 = .ok (.aload_n 0, 1) := by decide +kernel
theorem dX7_scanNumber_10 : decode cX7_scanNumber 10 = .ok (.getfield 15, 3) := by decide +kernel
theorem dX7_scanNumber_13 : decode cX7_scanNumber 13 = .ok (.if_icmp .ge 64, 3) := by decide +kernel
theorem dX7_scanNumber_16 : decode cX7_scanNumber 16 = .ok (.aload_n 0, 1) := by decide +kernel
theorem dX7_scanNumber_17 : decode cX7_scanNumber 17 = .ok (.getfield 9, 3) := by decide +kernel
theorem dX7_scanNumber_20 : decode cX7_scanNumber 20 = .ok (.aload_n 0, 1) := by decide +kernel
theorem dX7_scanNumber_21 : decode cX7_scanNumber 21 = .ok (.getfield 24, 3) := by decide +kernel
theorem dX7_scanNumber_24 : decode cX7_scanNumber 24 = .ok (.iaload, 1) := by decide +kernel
theorem dX7_scanNumber_25 : decode cX7_scanNumber 25 = .ok (.invokestatic 74, 3) := by decide +kernel
theorem dX7_scanNumber_28 : decode cX7_scanNumber 28 = .ok (.ifCond .eq 49, 3) := by decide +kernel
theorem dX7_scanNumber_31 : decode cX7_scanNumber 31 = .ok (.aload_n 0, 1) := by decide +kernel
theorem dX7_scanNumber_32 : decode cX7_scanNumber 32 = .ok (.getfield 57, 3) := by decide +kernel
theorem dX7_scanNumber_35 : decode cX7_scanNumber 35 = .ok (.bipush 127, 2) := by decide +kernel
theorem dX7_scanNumber_37 : decode cX7_scanNumber 37 = .ok (.if_icmp .gt 27, 3) := by decide +kernel
theorem dX7_scanNumber_40 : decode cX7_scanNumber 40 = .ok (.aload_n 0, 1) := by decide +kernel
theorem dX7_scanNumber_41 : decode cX7_scanNumber 41 = .ok (.aload_n 0, 1) := by decide +kernel
theorem dX7_scanNumber_42 : decode cX7_scanNumber 42 = .ok (.getfield 57, 3) := by decide +kernel
theorem dX7_scanNumber_45 : decode cX7_scanNumber 45 = .ok (.bipush 10, 2) := by decide +kernel
theorem dX7_scanNumber_47 : decode cX7_scanNumber 47 = .ok (.imul, 1) := by decide +kernel
theorem dX7_scanNumber_48 : decode cX7_scanNumber 48 = .ok (.aload_n 0, 1) := by decide +kernel
theorem dX7_scanNumber_49 : decode cX7_scanNumber 49 = .ok (.getfield 9, 3) := by decide +kernel
theorem dX7_scanNumber_52 : decode cX7_scanNumber 52 = .ok (.aload_n 0, 1) := by decide +kernel
theorem dX7_scanNumber_53 : decode cX7_scanNumber 53 = .ok (.getfield 24, 3) := by decide +kernel
theorem dX7_scanNumber_56 : decode cX7_scanNumber 56 = .ok (.iaload, 1) := by decide +kernel
theorem dX7_scanNumber_57 : decode cX7_scanNumber 57 = .ok (.iadd, 1) := by decide +kernel
theorem dX7_scanNumber_58 : decode cX7_scanNumber 58 = .ok (.bipush 48, 2) := by decide +kernel
theorem dX7_scanNumber_60 : decode cX7_scanNumber 60 = .ok (.isub, 1) := by decide +kernel
theorem dX7_scanNumber_61 : decode cX7_scanNumber 61 = .ok (.putfield 57, 3) := by decide +kernel
theorem dX7_scanNumber_64 : decode cX7_scanNumber 64 = .ok (.aload_n 0, 1) := by decide +kernel
theorem dX7_scanNumber_65 : decode cX7_scanNumber 65 = .ok (.dup, 1) := by decide +kernel
theorem dX7_scanNumber_66 : decode cX7_scanNumber 66 = .ok (.getfield 24, 3) := by decide +kernel
theorem dX7_scanNumber_69 : decode cX7_scanNumber 69 = .ok (.iconst 1, 1) := by decide +kernel
theorem dX7_scanNumber_70 : decode cX7_scanNumber 70 = .ok (.iadd, 1) := by decide +kernel
theorem dX7_scanNumber_71 : decode cX7_scanNumber 71 = .ok (.putfield 24, 3) := by decide +kernel
theorem dX7_scanNumber_74 : decode cX7_scanNumber 74 = .ok (.goto (-69), 3) := by decide +kernel
theorem dX7_scanNumber_77 : decode cX7_scanNumber 77 = .ok (.aload_n 0, 1) := by decide +kernel
theorem dX7_scanNumber_78 : decode cX7_scanNumber 78 = .ok (.getfield 24, 3) := by decide +kernel
theorem dX7_scanNumber_81 : decode cX7_scanNumber 81 = .ok (.aload_n 0, 1) := by decide +kernel
theorem dX7_scanNumber_82 : decode cX7_scanNumber 82 = .ok (.getfield 37, 3) := by decide +kernel
theorem dX7_scanNumber_85 : decode cX7_scanNumber 85 = .ok (.isub, 1) := by decide +kernel
theorem dX7_scanNumber_86 : decode cX7_scanNumber 86 = .ok (.iconst 1, 1) := by decide +kernel
theorem dX7_scanNumber_87 : decode cX7_scanNumber 87 = .ok (.if_icmp .le 21, 3) := by decide +kernel
theorem dX7_scanNumber_90 : decode cX7_scanNumber 90 = .ok (.aload_n 0, 1) := by decide +kernel
theorem dX7_scanNumber_91 : decode cX7_scanNumber 91 = .ok (.getfield 9, 3) := by decide +kernel
theorem dX7_scanNumber_94 : decode cX7_scanNumber 94 = .ok (.aload_n 0, 1) := by decide +kernel
theorem dX7_scanNumber_95 : decode cX7_scanNumber 95 = .ok (.getfield 37, 3) := by decide +kernel
theorem dX7_scanNumber_98 : decode cX7_scanNumber 98 = .ok (.iaload, 1) := by decide +kernel
theorem dX7_scanNumber_99 : decode cX7_scanNumber 99 = .ok (.bipush 48, 2) := by decide +kernel
theorem dX7_scanNumber_101 : decode cX7_scanNumber 101 = .ok (.if_icmp .ne 7, 3) := by decide +kernel
theorem dX7_scanNumber_104 : decode cX7_scanNumber 104 = .ok (.iconst 1, 1) := by decide +kernel
theorem dX7_scanNumber_105 : decode cX7_scanNumber 105 = .ok (.goto 4, 3) := by decide +kernel
theorem dX7_scanNumber_108 : decode cX7_scanNumber 108 = .ok (.iconst 0, 1) := by decide +kernel
theorem dX7_scanNumber_109 : decode cX7_scanNumber 109 = .ok (.istore_n 1, 1) := by decide +kernel
theorem dX7_scanNumber_110 : decode cX7_scanNumber 110 = .ok (.iload_n 1, 1) := by decide +kernel
theorem dX7_scanNumber_111 : decode cX7_scanNumber 111 = .ok (.ifCond .ne 12, 3) := by decide +kernel
theorem dX7_scanNumber_114 : decode cX7_scanNumber 114 = .ok (.aload_n 0, 1) := by decide +kernel
theorem dX7_scanNumber_115 : decode cX7_scanNumber 115 = .ok (.getfield 57, 3) := by decide +kernel
theorem dX7_scanNumber_118 : decode cX7_scanNumber 118 = .ok (.bipush 127, 2) := by decide +kernel
theorem dX7_scanNumber_120 : decode cX7_scanNumber 120 = .ok (.if_icmp .le 7, 3) := by decide +kernel
theorem dX7_scanNumber_123 : decode cX7_scanNumber 123 = .ok (.iconst 2, 1) := by decide +kernel
theorem dX7_scanNumber_124 : decode cX7_scanNumber 124 = .ok (.goto 4, 3) := by decide +kernel
theorem dX7_scanNumber_127 : decode cX7_scanNumber 127 = .ok (.iconst 1, 1) := by decide +kernel
theorem dX7_scanNumber_128 : decode cX7_scanNumber 128 = .ok (.ireturn, 1) := by decide +kernel
theorem dX7_tokenOf_0 : decode cX7_tokenOf 0 = .ok (.iload_n 0, 1) := by decide +kernel
theorem dX7_tokenOf_1 : decode cX7_tokenOf 1 = .ok (.bipush 113, 2) := by decide +kernel
theorem dX7_tokenOf_3 : decode cX7_tokenOf 3 = .ok (.if_icmp .eq 21, 3) := by decide +kernel
theorem dX7_tokenOf_6 : decode cX7_tokenOf 6 = .ok (.iload_n 0, 1) := by decide +kernel
theorem dX7_tokenOf_7 : decode cX7_tokenOf 7 = .ok (.bipush 112, 2) := by decide +kernel
theorem dX7_tokenOf_9 : decode cX7_tokenOf 9 = .ok (.if_icmp .eq 15, 3) := by decide +kernel
theorem dX7_tokenOf_12 : decode cX7_tokenOf 12 = .ok (.iload_n 0, 1) := by decide +kernel
theorem dX7_tokenOf_13 : decode cX7_tokenOf 13 = .ok (.bipush 120, 2) := by decide +kernel
theorem dX7_tokenOf_15 : decode cX7_tokenOf 15 = .ok (.if_icmp .eq 9, 3) := by decide +kernel
theorem dX7_tokenOf_18 : decode cX7_tokenOf 18 = .ok (.iload_n 0, 1) := by decide +kernel
theorem dX7_tokenOf_19 : decode cX7_tokenOf 19 = .ok (.bipush 59, 2) := by decide +kernel
theorem dX7_tokenOf_21 : decode cX7_tokenOf 21 = .ok (.if_icmp .ne 7, 3) := by decide +kernel
theorem dX7_tokenOf_24 : decode cX7_tokenOf 24 = .ok (.iload_n 0, 1) := by decide +kernel
theorem dX7_tokenOf_25 : decode cX7_tokenOf 25 = .ok (.goto 4, 3) := by decide +kernel
theorem dX7_tokenOf_28 : decode cX7_tokenOf 28 = .ok (.iconst 2, 1) := by decide +kernel
theorem dX7_tokenOf_29 : decode cX7_tokenOf 29 = .ok (.ireturn, 1) := by decide +kernel
theorem dX8_init_0 : decode cX8_init 0 = .ok (.aload_n 0, 1) := by decide +kernel
theorem dX8_init_1 : decode cX8_init 1 = .ok (.invokespecial 5, 3) := by decide +kernel
theorem dX8_init_4 : decode cX8_init 4 = .ok (.aload_n 0, 1) := by decide +kernel
theorem dX8_init_5 : decode cX8_init 5 = .ok (.bipush 50, 2) := by decide +kernel
theorem dX8_init_7 : decode cX8_init 7 = .ok (.newarray .int, 2) := by decide +kernel
theorem dX8_init_9 : decode cX8_init 9 = .ok (.putfield 11, 3) := by decide +kernel
theorem dX8_init_12 : decode cX8_init 12 = .ok (.return_, 1) := by decide +kernel
set_option maxRecDepth 20000 in
theorem ggX8_begin_J7_fill_53178 : GoodIn wsX8_begin wsJ7_fill_53178 := goodIn_r _ [5] (by decide +kernel) (by decide +kernel)
set_option maxRecDepth 20000 in
theorem gX8_begin_J7_fill_53178 : GoodIn wsX8_begin (va_wsS RX8 15 yJ7_fill_53178 wsJ7_fill_53178) := goodIn_app (goodIn_of _ (by decide +kernel)) ggX8_begin_J7_fill_53178
set_option maxRecDepth 20000 in
theorem ggX8_begin_X10_hasPerson : GoodIn wsX8_begin wsX10_hasPerson := goodIn_r _ [10, 11, 23, 24, 25, 26, 27] (by decide +kernel) (by decide +kernel)
set_option maxRecDepth 20000 in
theorem gX8_begin_X10_hasPerson : GoodIn wsX8_begin (wsV RX8 21 RX10 yX10_hasPerson wsX10_hasPerson) := goodIn_app (goodIn_of _ (by decide +kernel)) ggX8_begin_X10_hasPerson
set_option maxRecDepth 20000 in
theorem ggX8_begin_X10_hasPillow : GoodIn wsX8_begin wsX10_hasPillow := goodIn_r _ [15, 16, 23, 24, 25, 26, 27] (by decide +kernel) (by decide +kernel)
set_option maxRecDepth 20000 in
theorem gX8_begin_X10_hasPillow : GoodIn wsX8_begin (wsV RX8 27 RX10 yX10_hasPillow wsX10_hasPillow) := goodIn_app (goodIn_of _ (by decide +kernel)) ggX8_begin_X10_hasPillow
set_option maxRecDepth 20000 in
theorem ggX8_begin_X8_lay : GoodIn wsX8_begin wsX8_lay := goodIn_r _ [21, 1, 22] (by decide +kernel) (by decide +kernel)
set_option maxRecDepth 20000 in
theorem gX8_begin_X8_lay : GoodIn wsX8_begin (wsV RX8 30 RX8 yX8_lay wsX8_lay) := goodIn_app (goodIn_of _ (by decide +kernel)) ggX8_begin_X8_lay
theorem dX8_begin_0 : decode cX8_begin 0 = .ok (.aload_n 0, 1) := by decide +kernel
theorem dX8_begin_1 : decode cX8_begin 1 = .ok (.getfield 11, 3) := by decide +kernel
theorem dX8_begin_4 : decode cX8_begin 4 = .ok (.iconst 0, 1) := by decide +kernel
theorem dX8_begin_5 : decode cX8_begin 5 = .ok (.invokestatic 15, 3) := by decide +kernel
theorem dX8_begin_8 : decode cX8_begin 8 = .ok (.iconst 0, 1) := by decide +kernel
theorem dX8_begin_9 : decode cX8_begin 9 = .ok (.istore_n 2, 1) := by decide +kernel
theorem dX8_begin_10 : decode cX8_begin 10 = .ok (.iload_n 2, 1) := by decide +kernel
theorem dX8_begin_11 : decode cX8_begin 11 = .ok (.bipush 6, 2) := by decide +kernel
theorem dX8_begin_13 : decode cX8_begin 13 = .ok (.if_icmp .ge 36, 3) := by decide +kernel
theorem dX8_begin_16 : decode cX8_begin 16 = .ok (.aload_n 0, 1) := by decide +kernel
theorem dX8_begin_17 : decode cX8_begin 17 = .ok (.iload_n 2, 1) := by decide +kernel
theorem dX8_begin_18 : decode cX8_begin 18 = .ok (.aload_n 1, 1) := by decide +kernel
theorem dX8_begin_19 : decode cX8_begin 19 = .ok (.iload_n 2, 1) := by decide +kernel
theorem dX8_begin_20 : decode cX8_begin 20 = .ok (.invokevirtual 21, 3) := by decide +kernel
theorem dX8_begin_23 : decode cX8_begin 23 = .ok (.ifCond .eq 15, 3) := by decide +kernel
theorem dX8_begin_26 : decode cX8_begin 26 = .ok (.aload_n 1, 1) := by decide +kernel
theorem dX8_begin_27 : decode cX8_begin 27 = .ok (.iload_n 2, 1) := by decide +kernel
theorem dX8_begin_28 : decode cX8_begin 28 = .ok (.invokevirtual 27, 3) := by decide +kernel
theorem dX8_begin_31 : decode cX8_begin 31 = .ok (.ifCond .eq 7, 3) := by decide +kernel
theorem dX8_begin_34 : decode cX8_begin 34 = .ok (.iload_n 2, 1) := by decide +kernel
theorem dX8_begin_35 : decode cX8_begin 35 = .ok (.goto 5, 3) := by decide +kernel
theorem dX8_begin_38 : decode cX8_begin 38 = .ok (.bipush (-9), 2) := by decide +kernel
theorem dX8_begin_40 : decode cX8_begin 40 = .ok (.invokevirtual 30, 3) := by decide +kernel
theorem dX8_begin_43 : decode cX8_begin 43 = .ok (.iinc 2 1, 3) := by decide +kernel
theorem dX8_begin_46 : decode cX8_begin 46 = .ok (.goto (-36), 3) := by decide +kernel
theorem dX8_begin_49 : decode cX8_begin 49 = .ok (.return_, 1) := by decide +kernel
theorem dX8_times_0 : decode cX8_times 0 = .ok (.aload_n 0, 1) := by decide +kernel
theorem dX8_times_1 : decode cX8_times 1 = .ok (.getfield 11, 3) := by decide +kernel
theorem dX8_times_4 : decode cX8_times 4 = .ok (.iload_n 1, 1) := by decide +kernel
theorem dX8_times_5 : decode cX8_times 5 = .ok (.bipush 7, 2) := by decide +kernel
theorem dX8_times_7 : decode cX8_times 7 = .ok (.imul, 1) := by decide +kernel
theorem dX8_times_8 : decode cX8_times 8 = .ok (.iload_n 2, 1) := by decide +kernel
theorem dX8_times_9 : decode cX8_times 9 = .ok (.iadd, 1) := by decide +kernel
theorem dX8_times_10 : decode cX8_times 10 = .ok (.iaload, 1) := by decide +kernel
theorem dX8_times_11 : decode cX8_times 11 = .ok (.ireturn, 1) := by decide +kernel
theorem dX8_setTimes_0 : decode cX8_setTimes 0 = .ok (.aload_n 0, 1) := by decide +kernel
theorem dX8_setTimes_1 : decode cX8_setTimes 1 = .ok (.getfield 11, 3) := by decide +kernel
theorem dX8_setTimes_4 : decode cX8_setTimes 4 = .ok (.iload_n 1, 1) := by decide +kernel
theorem dX8_setTimes_5 : decode cX8_setTimes 5 = .ok (.bipush 7, 2) := by decide +kernel
theorem dX8_setTimes_7 : decode cX8_setTimes 7 = .ok (.imul, 1) := by decide +kernel
theorem dX8_setTimes_8 : decode cX8_setTimes 8 = .ok (.iload_n 2, 1) := by decide +kernel
theorem dX8_setTimes_9 : decode cX8_setTimes 9 = .ok (.iadd, 1) := by decide +kernel
theorem dX8_setTimes_10 : decode cX8_setTimes 10 = .ok (.iload_n 3, 1) := by decide +kernel
theorem dX8_setTimes_11 : decode cX8_setTimes 11 = .ok (.bipush 99, 2) := by decide +kernel
theorem dX8_setTimes_13 : decode cX8_setTimes 13 = .ok (.invokestatic 34, 3) := by decide +kernel
theorem dX8_setTimes_16 : decode cX8_setTimes 16 = .ok (.iastore, 1) := by decide +kernel
theorem dX8_setTimes_17 : decode cX8_setTimes 17 = .ok (.return_, 1) := by decide +kernel
theorem dX8_bedOf_0 : decode cX8_bedOf 0 = .ok (.aload_n 0, 1) := by decide +kernel
theorem dX8_bedOf_1 : decode cX8_bedOf 1 = .ok (.getfield 11, 3) := by decide +kernel
theorem dX8_bedOf_4 : decode cX8_bedOf 4 = .ok (.bipush 42, 2) := by decide +kernel
theorem dX8_bedOf_6 : decode cX8_bedOf 6 = .ok (.iload_n 1, 1) := by decide +kernel
theorem dX8_bedOf_7 : decode cX8_bedOf 7 = .ok (.iadd, 1) := by decide +kernel
theorem dX8_bedOf_8 : decode cX8_bedOf 8 = .ok (.iaload, 1) := by decide +kernel
theorem dX8_bedOf_9 : decode cX8_bedOf 9 = .ok (.ireturn, 1) := by decide +kernel
theorem dX8_lay_0 : decode cX8_lay 0 = .ok (.aload_n 0, 1) := by decide +kernel
theorem dX8_lay_1 : decode cX8_lay 1 = .ok (.getfield 11, 3) := by decide +kernel
theorem dX8_lay_4 : decode cX8_lay 4 = .ok (.bipush 42, 2) := by decide +kernel
theorem dX8_lay_6 : decode cX8_lay 6 = .ok (.iload_n 1, 1) := by decide +kernel
theorem dX8_lay_7 : decode cX8_lay 7 = .ok (.iadd, 1) := by decide +kernel
theorem dX8_lay_8 : decode cX8_lay 8 = .ok (.iload_n 2, 1) := by decide +kernel
theorem dX8_lay_9 : decode cX8_lay 9 = .ok (.iastore, 1) := by decide +kernel
theorem dX8_lay_10 : decode cX8_lay 10 = .ok (.return_, 1) := by decide +kernel
theorem dX8_nightNumber_0 : decode cX8_nightNumber 0 = .ok (.aload_n 0, 1) := by decide +kernel
theorem dX8_nightNumber_1 : decode cX8_nightNumber 1 = .ok (.getfield 11, 3) := by decide +kernel
theorem dX8_nightNumber_4 : decode cX8_nightNumber 4 = .ok (.bipush 49, 2) := by decide +kernel
theorem dX8_nightNumber_6 : decode cX8_nightNumber 6 = .ok (.iaload, 1) := by decide +kernel
theorem dX8_nightNumber_7 : decode cX8_nightNumber 7 = .ok (.ireturn, 1) := by decide +kernel
theorem dX8_isExamined_0 : decode cX8_isExamined 0 = .ok (.aload_n 0, 1) := by decide +kernel
theorem dX8_isExamined_1 : decode cX8_isExamined 1 = .ok (.getfield 11, 3) := by decide +kernel
theorem dX8_isExamined_4 : decode cX8_isExamined 4 = .ok (.bipush 48, 2) := by decide +kernel
theorem dX8_isExamined_6 : decode cX8_isExamined 6 = .ok (.iaload, 1) := by decide +kernel
theorem dX8_isExamined_7 : decode cX8_isExamined 7 = .ok (.iload_n 1, 1) := by decide +kernel
theorem dX8_isExamined_8 : decode cX8_isExamined 8 = .ok (.ishr, 1) := by decide +kernel
theorem dX8_isExamined_9 : decode cX8_isExamined 9 = .ok (.iconst 1, 1) := by decide +kernel
theorem dX8_isExamined_10 : decode cX8_isExamined 10 = .ok (.iand, 1) := by decide +kernel
theorem dX8_isExamined_11 : decode cX8_isExamined 11 = .ok (.ifCond .eq 7, 3) := by decide +kernel
theorem dX8_isExamined_14 : decode cX8_isExamined 14 = .ok (.iconst 1, 1) := by decide +kernel
theorem dX8_isExamined_15 : decode cX8_isExamined 15 = .ok (.goto 4, 3) := by decide +kernel
theorem dX8_isExamined_18 : decode cX8_isExamined 18 = .ok (.iconst 0, 1) := by decide +kernel
theorem dX8_isExamined_19 : decode cX8_isExamined 19 = .ok (.ireturn, 1) := by decide +kernel
theorem dX8_examine_0 : decode cX8_examine 0 = .ok (.aload_n 0, 1) := by decide +kernel
theorem dX8_examine_1 : decode cX8_examine 1 = .ok (.getfield 11, 3) := by decide +kernel
theorem dX8_examine_4 : decode cX8_examine 4 = .ok (.bipush 48, 2) := by decide +kernel
theorem dX8_examine_6 : decode cX8_examine 6 = .ok (.dup2, 1) := by decide +kernel
theorem dX8_examine_7 : decode cX8_examine 7 = .ok (.iaload, 1) := by decide +kernel
theorem dX8_examine_8 : decode cX8_examine 8 = .ok (.iconst 1, 1) := by decide +kernel
theorem dX8_examine_9 : decode cX8_examine 9 = .ok (.iload_n 1, 1) := by decide +kernel
theorem dX8_examine_10 : decode cX8_examine 10 = .ok (.ishl, 1) := by decide +kernel
theorem dX8_examine_11 : decode cX8_examine 11 = .ok (.ior, 1) := by decide +kernel
theorem dX8_examine_12 : decode cX8_examine 12 = .ok (.iastore, 1) := by decide +kernel
theorem dX8_examine_13 : decode cX8_examine 13 = .ok (.return_, 1) := by decide +kernel
set_option maxRecDepth 20000 in
theorem ggX8_thingsOn_X8_times : GoodIn wsX8_thingsOn wsX8_times := goodIn_r _ [5, 6, 7] (by decide +kernel) (by decide +kernel)
set_option maxRecDepth 20000 in
theorem gX8_thingsOn_X8_times : GoodIn wsX8_thingsOn (wsV RX8 40 RX8 yX8_times wsX8_times) := goodIn_app (goodIn_of _ (by decide +kernel)) ggX8_thingsOn_X8_times
theorem dX8_thingsOn_0 : decode cX8_thingsOn 0 = .ok (.iconst 0, 1) := by decide +kernel
theorem dX8_thingsOn_1 : decode cX8_thingsOn 1 = .ok (.istore_n 2, 1) := by decide +kernel
theorem dX8_thingsOn_2 : decode cX8_thingsOn 2 = .ok (.iconst 0, 1) := by decide +kernel
theorem dX8_thingsOn_3 : decode cX8_thingsOn 3 = .ok (.istore_n 3, 1) := by decide +kernel
theorem dX8_thingsOn_4 : decode cX8_thingsOn 4 = .ok (.iload_n 3, 1) := by decide +kernel
theorem dX8_thingsOn_5 : decode cX8_thingsOn 5 = .ok (.bipush 7, 2) := by decide +kernel
theorem dX8_thingsOn_7 : decode cX8_thingsOn 7 = .ok (.if_icmp .ge 24, 3) := by decide +kernel
theorem dX8_thingsOn_10 : decode cX8_thingsOn 10 = .ok (.aload_n 0, 1) := by decide +kernel
theorem dX8_thingsOn_11 : decode cX8_thingsOn 11 = .ok (.iload_n 1, 1) := by decide +kernel
theorem dX8_thingsOn_12 : decode cX8_thingsOn 12 = .ok (.iload_n 3, 1) := by decide +kernel
theorem dX8_thingsOn_13 : decode cX8_thingsOn 13 = .ok (.invokevirtual 40, 3) := by decide +kernel
theorem dX8_thingsOn_16 : decode cX8_thingsOn 16 = .ok (.ifCond .le 9, 3) := by decide +kernel
theorem dX8_thingsOn_19 : decode cX8_thingsOn 19 = .ok (.iload_n 2, 1) := by decide +kernel
theorem dX8_thingsOn_20 : decode cX8_thingsOn 20 = .ok (.iconst 1, 1) := by decide +kernel
theorem dX8_thingsOn_21 : decode cX8_thingsOn 21 = .ok (.iload_n 3, 1) := by decide +kernel
theorem dX8_thingsOn_22 : decode cX8_thingsOn 22 = .ok (.ishl, 1) := by decide +kernel
theorem dX8_thingsOn_23 : decode cX8_thingsOn 23 = .ok (.ior, 1) := by decide +kernel
theorem dX8_thingsOn_24 : decode cX8_thingsOn 24 = .ok (.istore_n 2, 1) := by decide +kernel
theorem dX8_thingsOn_25 : decode cX8_thingsOn 25 = .ok (.iinc 3 1, 3) := by decide +kernel
theorem dX8_thingsOn_28 : decode cX8_thingsOn 28 = .ok (.goto (-24), 3) := by decide +kernel
theorem dX8_thingsOn_31 : decode cX8_thingsOn 31 = .ok (.iload_n 2, 1) := by decide +kernel
theorem dX8_thingsOn_32 : decode cX8_thingsOn 32 = .ok (.ireturn, 1) := by decide +kernel
set_option maxRecDepth 20000 in
theorem ggX8_thingsOnSet_X8_thingsOn : GoodIn wsX8_thingsOnSet wsX8_thingsOn := goodIn_r _ [5, 6, 7, 8, 4, 9, 10, 11] (by decide +kernel) (by decide +kernel)
set_option maxRecDepth 20000 in
theorem gX8_thingsOnSet_X8_thingsOn : GoodIn wsX8_thingsOnSet (wsV RX8 43 RX8 yX8_thingsOn wsX8_thingsOn) := goodIn_app (goodIn_of _ (by decide +kernel)) ggX8_thingsOnSet_X8_thingsOn
theorem dX8_thingsOnSet_0 : decode cX8_thingsOnSet 0 = .ok (.iconst 0, 1) := by decide +kernel
theorem dX8_thingsOnSet_1 : decode cX8_thingsOnSet 1 = .ok (.istore_n 2, 1) := by decide +kernel
theorem dX8_thingsOnSet_2 : decode cX8_thingsOnSet 2 = .ok (.iconst 0, 1) := by decide +kernel
theorem dX8_thingsOnSet_3 : decode cX8_thingsOnSet 3 = .ok (.istore_n 3, 1) := by decide +kernel
theorem dX8_thingsOnSet_4 : decode cX8_thingsOnSet 4 = .ok (.iload_n 3, 1) := by decide +kernel
theorem dX8_thingsOnSet_5 : decode cX8_thingsOnSet 5 = .ok (.bipush 6, 2) := by decide +kernel
theorem dX8_thingsOnSet_7 : decode cX8_thingsOnSet 7 = .ok (.if_icmp .ge 25, 3) := by decide +kernel
theorem dX8_thingsOnSet_10 : decode cX8_thingsOnSet 10 = .ok (.iload_n 1, 1) := by decide +kernel
theorem dX8_thingsOnSet_11 : decode cX8_thingsOnSet 11 = .ok (.iload_n 3, 1) := by decide +kernel
theorem dX8_thingsOnSet_12 : decode cX8_thingsOnSet 12 = .ok (.ishr, 1) := by decide +kernel
theorem dX8_thingsOnSet_13 : decode cX8_thingsOnSet 13 = .ok (.iconst 1, 1) := by decide +kernel
theorem dX8_thingsOnSet_14 : decode cX8_thingsOnSet 14 = .ok (.iand, 1) := by decide +kernel
theorem dX8_thingsOnSet_15 : decode cX8_thingsOnSet 15 = .ok (.ifCond .eq 11, 3) := by decide +kernel
theorem dX8_thingsOnSet_18 : decode cX8_thingsOnSet 18 = .ok (.iload_n 2, 1) := by decide +kernel
theorem dX8_thingsOnSet_19 : decode cX8_thingsOnSet 19 = .ok (.aload_n 0, 1) := by decide +kernel
theorem dX8_thingsOnSet_20 : decode cX8_thingsOnSet 20 = .ok (.iload_n 3, 1) := by decide +kernel
theorem dX8_thingsOnSet_21 : decode cX8_thingsOnSet 21 = .ok (.invokevirtual 43, 3) := by decide +kernel
theorem dX8_thingsOnSet_24 : decode cX8_thingsOnSet 24 = .ok (.ior, 1) := by decide +kernel
theorem dX8_thingsOnSet_25 : decode cX8_thingsOnSet 25 = .ok (.istore_n 2, 1) := by decide +kernel
theorem dX8_thingsOnSet_26 : decode cX8_thingsOnSet 26 = .ok (.iinc 3 1, 3) := by decide +kernel
theorem dX8_thingsOnSet_29 : decode cX8_thingsOnSet 29 = .ok (.goto (-25), 3) := by decide +kernel
theorem dX8_thingsOnSet_32 : decode cX8_thingsOnSet 32 = .ok (.iload_n 2, 1) := by decide +kernel
theorem dX8_thingsOnSet_33 : decode cX8_thingsOnSet 33 = .ok (.ireturn, 1) := by decide +kernel
set_option maxRecDepth 20000 in
theorem ggX8_allThings_X8_thingsOnSet : GoodIn wsX8_allThings wsX8_thingsOnSet := goodIn_r _ [5, 6, 7, 8, 4, 9, 10, 11, 12, 13, 14, 15] (by decide +kernel) (by decide +kernel)
set_option maxRecDepth 20000 in
theorem gX8_allThings_X8_thingsOnSet : GoodIn wsX8_allThings (wsV RX8 47 RX8 yX8_thingsOnSet wsX8_thingsOnSet) := goodIn_app (goodIn_of _ (by decide +kernel)) ggX8_allThings_X8_thingsOnSet
theorem dX8_allThings_0 : decode cX8_allThings 0 = .ok (.aload_n 0, 1) := by decide +kernel
theorem dX8_allThings_1 : decode cX8_allThings 1 = .ok (.bipush 63, 2) := by decide +kernel
theorem dX8_allThings_3 : decode cX8_allThings 3 = .ok (.invokevirtual 47, 3) := by decide +kernel
theorem dX8_allThings_6 : decode cX8_allThings 6 = .ok (.ireturn, 1) := by decide +kernel
set_option maxRecDepth 20000 in
theorem ggX8_knownThings_X8_thingsOnSet : GoodIn wsX8_knownThings wsX8_thingsOnSet := goodIn_r _ [6, 7, 8, 9, 5, 10, 11, 12, 13, 14, 1, 15] (by decide +kernel) (by decide +kernel)
set_option maxRecDepth 20000 in
theorem gX8_knownThings_X8_thingsOnSet : GoodIn wsX8_knownThings (wsV RX8 47 RX8 yX8_thingsOnSet wsX8_thingsOnSet) := goodIn_app (goodIn_of _ (by decide +kernel)) ggX8_knownThings_X8_thingsOnSet
theorem dX8_knownThings_0 : decode cX8_knownThings 0 = .ok (.aload_n 0, 1) := by decide +kernel
theorem dX8_knownThings_1 : decode cX8_knownThings 1 = .ok (.aload_n 0, 1) := by decide +kernel
theorem dX8_knownThings_2 : decode cX8_knownThings 2 = .ok (.getfield 11, 3) := by decide +kernel
theorem dX8_knownThings_5 : decode cX8_knownThings 5 = .ok (.bipush 48, 2) := by decide +kernel
theorem dX8_knownThings_7 : decode cX8_knownThings 7 = .ok (.iaload, 1) := by decide +kernel
theorem dX8_knownThings_8 : decode cX8_knownThings 8 = .ok (.invokevirtual 47, 3) := by decide +kernel
theorem dX8_knownThings_11 : decode cX8_knownThings 11 = .ok (.ireturn, 1) := by decide +kernel
set_option maxRecDepth 20000 in
theorem ggX8_timesOn_X8_times : GoodIn wsX8_timesOn wsX8_times := goodIn_r _ [5, 6, 7] (by decide +kernel) (by decide +kernel)
set_option maxRecDepth 20000 in
theorem gX8_timesOn_X8_times : GoodIn wsX8_timesOn (wsV RX8 40 RX8 yX8_times wsX8_times) := goodIn_app (goodIn_of _ (by decide +kernel)) ggX8_timesOn_X8_times
theorem dX8_timesOn_0 : decode cX8_timesOn 0 = .ok (.iconst 0, 1) := by decide +kernel
theorem dX8_timesOn_1 : decode cX8_timesOn 1 = .ok (.istore_n 3, 1) := by decide +kernel
theorem dX8_timesOn_2 : decode cX8_timesOn 2 = .ok (.iconst 0, 1) := by decide +kernel
theorem dX8_timesOn_3 : decode cX8_timesOn 3 = .ok (.istore 4, 2) := by decide +kernel
theorem dX8_timesOn_5 : decode cX8_timesOn 5 = .ok (.iload 4, 2) := by decide +kernel
theorem dX8_timesOn_7 : decode cX8_timesOn 7 = .ok (.bipush 7, 2) := by decide +kernel
theorem dX8_timesOn_9 : decode cX8_timesOn 9 = .ok (.if_icmp .ge 28, 3) := by decide +kernel
theorem dX8_timesOn_12 : decode cX8_timesOn 12 = .ok (.iload_n 2, 1) := by decide +kernel
theorem dX8_timesOn_13 : decode cX8_timesOn 13 = .ok (.iload 4, 2) := by decide +kernel
theorem dX8_timesOn_15 : decode cX8_timesOn 15 = .ok (.ishr, 1) := by decide +kernel
theorem dX8_timesOn_16 : decode cX8_timesOn 16 = .ok (.iconst 1, 1) := by decide +kernel
theorem dX8_timesOn_17 : decode cX8_timesOn 17 = .ok (.iand, 1) := by decide +kernel
theorem dX8_timesOn_18 : decode cX8_timesOn 18 = .ok (.ifCond .eq 13, 3) := by decide +kernel
theorem dX8_timesOn_21 : decode cX8_timesOn 21 = .ok (.iload_n 3, 1) := by decide +kernel
theorem dX8_timesOn_22 : decode cX8_timesOn 22 = .ok (.aload_n 0, 1) := by decide +kernel
theorem dX8_timesOn_23 : decode cX8_timesOn 23 = .ok (.iload_n 1, 1) := by decide +kernel
theorem dX8_timesOn_24 : decode cX8_timesOn 24 = .ok (.iload 4, 2) := by decide +kernel
theorem dX8_timesOn_26 : decode cX8_timesOn 26 = .ok (.invokevirtual 40, 3) := by decide +kernel
theorem dX8_timesOn_29 : decode cX8_timesOn 29 = .ok (.iadd, 1) := by decide +kernel
theorem dX8_timesOn_30 : decode cX8_timesOn 30 = .ok (.istore_n 3, 1) := by decide +kernel
theorem dX8_timesOn_31 : decode cX8_timesOn 31 = .ok (.iinc 4 1, 3) := by decide +kernel
theorem dX8_timesOn_34 : decode cX8_timesOn 34 = .ok (.goto (-29), 3) := by decide +kernel
theorem dX8_timesOn_37 : decode cX8_timesOn 37 = .ok (.iload_n 3, 1) := by decide +kernel
theorem dX8_timesOn_38 : decode cX8_timesOn 38 = .ok (.ireturn, 1) := by decide +kernel
set_option maxRecDepth 20000 in
theorem ggX8_timesOfSet_X8_timesOn : GoodIn wsX8_timesOfSet wsX8_timesOn := goodIn_r _ [5, 6, 7, 8, 4, 9, 10, 11] (by decide +kernel) (by decide +kernel)
set_option maxRecDepth 20000 in
theorem gX8_timesOfSet_X8_timesOn : GoodIn wsX8_timesOfSet (wsV RX8 50 RX8 yX8_timesOn wsX8_timesOn) := goodIn_app (goodIn_of _ (by decide +kernel)) ggX8_timesOfSet_X8_timesOn
theorem dX8_timesOfSet_0 : decode cX8_timesOfSet 0 = .ok (.iconst 0, 1) := by decide +kernel
theorem dX8_timesOfSet_1 : decode cX8_timesOfSet 1 = .ok (.istore_n 2, 1) := by decide +kernel
theorem dX8_timesOfSet_2 : decode cX8_timesOfSet 2 = .ok (.iconst 0, 1) := by decide +kernel
theorem dX8_timesOfSet_3 : decode cX8_timesOfSet 3 = .ok (.istore_n 3, 1) := by decide +kernel
theorem dX8_timesOfSet_4 : decode cX8_timesOfSet 4 = .ok (.iload_n 3, 1) := by decide +kernel
theorem dX8_timesOfSet_5 : decode cX8_timesOfSet 5 = .ok (.bipush 6, 2) := by decide +kernel
theorem dX8_timesOfSet_7 : decode cX8_timesOfSet 7 = .ok (.if_icmp .ge 18, 3) := by decide +kernel
theorem dX8_timesOfSet_10 : decode cX8_timesOfSet 10 = .ok (.iload_n 2, 1) := by decide +kernel
theorem dX8_timesOfSet_11 : decode cX8_timesOfSet 11 = .ok (.aload_n 0, 1) := by decide +kernel
theorem dX8_timesOfSet_12 : decode cX8_timesOfSet 12 = .ok (.iload_n 3, 1) := by decide +kernel
theorem dX8_timesOfSet_13 : decode cX8_timesOfSet 13 = .ok (.iload_n 1, 1) := by decide +kernel
theorem dX8_timesOfSet_14 : decode cX8_timesOfSet 14 = .ok (.invokevirtual 50, 3) := by decide +kernel
theorem dX8_timesOfSet_17 : decode cX8_timesOfSet 17 = .ok (.iadd, 1) := by decide +kernel
theorem dX8_timesOfSet_18 : decode cX8_timesOfSet 18 = .ok (.istore_n 2, 1) := by decide +kernel
theorem dX8_timesOfSet_19 : decode cX8_timesOfSet 19 = .ok (.iinc 3 1, 3) := by decide +kernel
theorem dX8_timesOfSet_22 : decode cX8_timesOfSet 22 = .ok (.goto (-18), 3) := by decide +kernel
theorem dX8_timesOfSet_25 : decode cX8_timesOfSet 25 = .ok (.iload_n 2, 1) := by decide +kernel
theorem dX8_timesOfSet_26 : decode cX8_timesOfSet 26 = .ok (.ireturn, 1) := by decide +kernel
set_option maxRecDepth 20000 in
theorem ggX8_sleepersOn_X8_bedOf : GoodIn wsX8_sleepersOn wsX8_bedOf := goodIn_r _ [5, 6, 7] (by decide +kernel) (by decide +kernel)
set_option maxRecDepth 20000 in
theorem gX8_sleepersOn_X8_bedOf : GoodIn wsX8_sleepersOn (wsV RX8 53 RX8 yX8_bedOf wsX8_bedOf) := goodIn_app (goodIn_of _ (by decide +kernel)) ggX8_sleepersOn_X8_bedOf
theorem dX8_sleepersOn_0 : decode cX8_sleepersOn 0 = .ok (.iconst 0, 1) := by decide +kernel
theorem dX8_sleepersOn_1 : decode cX8_sleepersOn 1 = .ok (.istore_n 2, 1) := by decide +kernel
theorem dX8_sleepersOn_2 : decode cX8_sleepersOn 2 = .ok (.iconst 0, 1) := by decide +kernel
theorem dX8_sleepersOn_3 : decode cX8_sleepersOn 3 = .ok (.istore_n 3, 1) := by decide +kernel
theorem dX8_sleepersOn_4 : decode cX8_sleepersOn 4 = .ok (.iload_n 3, 1) := by decide +kernel
theorem dX8_sleepersOn_5 : decode cX8_sleepersOn 5 = .ok (.bipush 6, 2) := by decide +kernel
theorem dX8_sleepersOn_7 : decode cX8_sleepersOn 7 = .ok (.if_icmp .ge 24, 3) := by decide +kernel
theorem dX8_sleepersOn_10 : decode cX8_sleepersOn 10 = .ok (.aload_n 0, 1) := by decide +kernel
theorem dX8_sleepersOn_11 : decode cX8_sleepersOn 11 = .ok (.iload_n 3, 1) := by decide +kernel
theorem dX8_sleepersOn_12 : decode cX8_sleepersOn 12 = .ok (.invokevirtual 53, 3) := by decide +kernel
theorem dX8_sleepersOn_15 : decode cX8_sleepersOn 15 = .ok (.iload_n 1, 1) := by decide +kernel
theorem dX8_sleepersOn_16 : decode cX8_sleepersOn 16 = .ok (.if_icmp .ne 9, 3) := by decide +kernel
theorem dX8_sleepersOn_19 : decode cX8_sleepersOn 19 = .ok (.iload_n 2, 1) := by decide +kernel
theorem dX8_sleepersOn_20 : decode cX8_sleepersOn 20 = .ok (.iconst 1, 1) := by decide +kernel
theorem dX8_sleepersOn_21 : decode cX8_sleepersOn 21 = .ok (.iload_n 3, 1) := by decide +kernel
theorem dX8_sleepersOn_22 : decode cX8_sleepersOn 22 = .ok (.ishl, 1) := by decide +kernel
theorem dX8_sleepersOn_23 : decode cX8_sleepersOn 23 = .ok (.ior, 1) := by decide +kernel
theorem dX8_sleepersOn_24 : decode cX8_sleepersOn 24 = .ok (.istore_n 2, 1) := by decide +kernel
theorem dX8_sleepersOn_25 : decode cX8_sleepersOn 25 = .ok (.iinc 3 1, 3) := by decide +kernel
theorem dX8_sleepersOn_28 : decode cX8_sleepersOn 28 = .ok (.goto (-24), 3) := by decide +kernel
theorem dX8_sleepersOn_31 : decode cX8_sleepersOn 31 = .ok (.iload_n 2, 1) := by decide +kernel
theorem dX8_sleepersOn_32 : decode cX8_sleepersOn 32 = .ok (.ireturn, 1) := by decide +kernel
set_option maxRecDepth 20000 in
theorem ggX8_sleep_X8_nightNumber : GoodIn wsX8_sleep wsX8_nightNumber := goodIn_r _ [7, 2, 55] (by decide +kernel) (by decide +kernel)
set_option maxRecDepth 20000 in
theorem gX8_sleep_X8_nightNumber : GoodIn wsX8_sleep (wsV RX8 60 RX8 yX8_nightNumber wsX8_nightNumber) := goodIn_app (goodIn_of _ (by decide +kernel)) ggX8_sleep_X8_nightNumber
set_option maxRecDepth 20000 in
theorem ggX8_sleep_X10_thingSaid : GoodIn wsX8_sleep wsX10_thingSaid := goodIn_r _ [12, 13, 14, 15, 16, 17, 18, 19, 20, 21, 22, 23, 24, 25, 26, 27, 28, 11, 29, 50, 51, 52, 53, 54] (by decide +kernel) (by decide +kernel)
set_option maxRecDepth 20000 in
theorem gX8_sleep_X10_thingSaid : GoodIn wsX8_sleep (wsV RX8 64 RX10 yX10_thingSaid wsX10_thingSaid) := goodIn_app (goodIn_of _ (by decide +kernel)) ggX8_sleep_X10_thingSaid
set_option maxRecDepth 20000 in
theorem ggX8_sleep_X8_bedOf : GoodIn wsX8_sleep wsX8_bedOf := goodIn_r _ [33, 2, 55] (by decide +kernel) (by decide +kernel)
set_option maxRecDepth 20000 in
theorem gX8_sleep_X8_bedOf : GoodIn wsX8_sleep (wsV RX8 53 RX8 yX8_bedOf wsX8_bedOf) := goodIn_app (goodIn_of _ (by decide +kernel)) ggX8_sleep_X8_bedOf
set_option maxRecDepth 20000 in
theorem ggX8_sleep_X8_hear : GoodIn wsX8_sleep wsX8_hear := goodIn_r _ [37, 38, 39, 40, 6, 41, 2, 42, 43, 44, 45, 46, 47, 48, 49, 55] (by decide +kernel) (by decide +kernel)
set_option maxRecDepth 20000 in
theorem gX8_sleep_X8_hear : GoodIn wsX8_sleep (wsV RX8 68 RX8 yX8_hear wsX8_hear) := goodIn_app (goodIn_of _ (by decide +kernel)) ggX8_sleep_X8_hear
theorem dX8_sleep_0 : decode cX8_sleep 0 = .ok (.iconst 0, 1) := by decide +kernel
theorem dX8_sleep_1 : decode cX8_sleep 1 = .ok (.istore_n 3, 1) := by decide +kernel
theorem dX8_sleep_2 : decode cX8_sleep 2 = .ok (.iconst 0, 1) := by decide +kernel
theorem dX8_sleep_3 : decode cX8_sleep 3 = .ok (.istore 4, 2) := by decide +kernel
theorem dX8_sleep_5 : decode cX8_sleep 5 = .ok (.iload 4, 2) := by decide +kernel
theorem dX8_sleep_7 : decode cX8_sleep 7 = .ok (.aload_n 1, 1) := by decide +kernel
theorem dX8_sleep_8 : decode cX8_sleep 8 = .ok (.getfield 56, 3) := by decide +kernel
theorem dX8_sleep_11 : decode cX8_sleep 11 = .ok (.if_icmp .ge 42, 3) := by decide +kernel
theorem dX8_sleep_14 : decode cX8_sleep 14 = .ok (.aload_n 1, 1) := by decide +kernel
theorem dX8_sleep_15 : decode cX8_sleep 15 = .ok (.iload 4, 2) := by decide +kernel
theorem dX8_sleep_17 : decode cX8_sleep 17 = .ok (.iload_n 2, 1) := by decide +kernel
theorem dX8_sleep_18 : decode cX8_sleep 18 = .ok (.aload_n 0, 1) := by decide +kernel
theorem dX8_sleep_19 : decode cX8_sleep 19 = .ok (.invokevirtual 60, 3) := by decide +kernel
theorem dX8_sleep_22 : decode cX8_sleep 22 = .ok (.invokevirtual 64, 3) := by decide +kernel
theorem dX8_sleep_25 : decode cX8_sleep 25 = .ok (.istore 5, 2) := by decide +kernel
theorem dX8_sleep_27 : decode cX8_sleep 27 = .ok (.iload 5, 2) := by decide +kernel
theorem dX8_sleep_29 : decode cX8_sleep 29 = .ok (.ifCond .lt 18, 3) := by decide +kernel
theorem dX8_sleep_32 : decode cX8_sleep 32 = .ok (.iinc 3 1, 3) := by decide +kernel
theorem dX8_sleep_35 : decode cX8_sleep 35 = .ok (.aload_n 0, 1) := by decide +kernel
theorem dX8_sleep_36 : decode cX8_sleep 36 = .ok (.aload_n 0, 1) := by decide +kernel
theorem dX8_sleep_37 : decode cX8_sleep 37 = .ok (.iload 4, 2) := by decide +kernel
theorem dX8_sleep_39 : decode cX8_sleep 39 = .ok (.invokevirtual 53, 3) := by decide +kernel
theorem dX8_sleep_42 : decode cX8_sleep 42 = .ok (.iload 5, 2) := by decide +kernel
theorem dX8_sleep_44 : decode cX8_sleep 44 = .ok (.invokevirtual 68, 3) := by decide +kernel
theorem dX8_sleep_47 : decode cX8_sleep 47 = .ok (.iinc 4 1, 3) := by decide +kernel
theorem dX8_sleep_50 : decode cX8_sleep 50 = .ok (.goto (-45), 3) := by decide +kernel
theorem dX8_sleep_53 : decode cX8_sleep 53 = .ok (.aload_n 0, 1) := by decide +kernel
theorem dX8_sleep_54 : decode cX8_sleep 54 = .ok (.getfield 11, 3) := by decide +kernel
theorem dX8_sleep_57 : decode cX8_sleep 57 = .ok (.bipush 49, 2) := by decide +kernel
theorem dX8_sleep_59 : decode cX8_sleep 59 = .ok (.dup2, 1) := by decide +kernel
theorem dX8_sleep_60 : decode cX8_sleep 60 = .ok (.iaload, 1) := by decide +kernel
theorem dX8_sleep_61 : decode cX8_sleep 61 = .ok (.iconst 1, 1) := by decide +kernel
theorem dX8_sleep_62 : decode cX8_sleep 62 = .ok (.iadd, 1) := by decide +kernel
theorem dX8_sleep_63 : decode cX8_sleep 63 = .ok (.iastore, 1) := by decide +kernel
theorem dX8_sleep_64 : decode cX8_sleep 64 = .ok (.iload_n 3, 1) := by decide +kernel
theorem dX8_sleep_65 : decode cX8_sleep 65 = .ok (.ireturn, 1) := by decide +kernel
set_option maxRecDepth 20000 in
theorem ggX8_hear_X8_times : GoodIn wsX8_hear wsX8_times := goodIn_r _ [5, 6, 15] (by decide +kernel) (by decide +kernel)
set_option maxRecDepth 20000 in
theorem gX8_hear_X8_times : GoodIn wsX8_hear (wsV RX8 40 RX8 yX8_times wsX8_times) := goodIn_app (goodIn_of _ (by decide +kernel)) ggX8_hear_X8_times
set_option maxRecDepth 20000 in
theorem ggX8_hear_X8_setTimes : GoodIn wsX8_hear wsX8_setTimes := goodIn_r _ [10, 6, 11, 12, 13, 14, 15] (by decide +kernel) (by decide +kernel)
set_option maxRecDepth 20000 in
theorem gX8_hear_X8_setTimes : GoodIn wsX8_hear (wsV RX8 71 RX8 yX8_setTimes wsX8_setTimes) := goodIn_app (goodIn_of _ (by decide +kernel)) ggX8_hear_X8_setTimes
theorem dX8_hear_0 : decode cX8_hear 0 = .ok (.iload_n 1, 1) := by decide +kernel
theorem dX8_hear_1 : decode cX8_hear 1 = .ok (.ifCond .lt 23, 3) := by decide +kernel
theorem dX8_hear_4 : decode cX8_hear 4 = .ok (.iload_n 1, 1) := by decide +kernel
theorem dX8_hear_5 : decode cX8_hear 5 = .ok (.bipush 6, 2) := by decide +kernel
theorem dX8_hear_7 : decode cX8_hear 7 = .ok (.if_icmp .ge 17, 3) := by decide +kernel
theorem dX8_hear_10 : decode cX8_hear 10 = .ok (.aload_n 0, 1) := by decide +kernel
theorem dX8_hear_11 : decode cX8_hear 11 = .ok (.iload_n 1, 1) := by decide +kernel
theorem dX8_hear_12 : decode cX8_hear 12 = .ok (.iload_n 2, 1) := by decide +kernel
theorem dX8_hear_13 : decode cX8_hear 13 = .ok (.aload_n 0, 1) := by decide +kernel
theorem dX8_hear_14 : decode cX8_hear 14 = .ok (.iload_n 1, 1) := by decide +kernel
theorem dX8_hear_15 : decode cX8_hear 15 = .ok (.iload_n 2, 1) := by decide +kernel
theorem dX8_hear_16 : decode cX8_hear 16 = .ok (.invokevirtual 40, 3) := by decide +kernel
theorem dX8_hear_19 : decode cX8_hear 19 = .ok (.iconst 1, 1) := by decide +kernel
theorem dX8_hear_20 : decode cX8_hear 20 = .ok (.iadd, 1) := by decide +kernel
theorem dX8_hear_21 : decode cX8_hear 21 = .ok (.invokevirtual 71, 3) := by decide +kernel
theorem dX8_hear_24 : decode cX8_hear 24 = .ok (.return_, 1) := by decide +kernel
set_option maxRecDepth 20000 in
theorem ggX8_slip_X8_setTimes : GoodIn wsX8_slip wsX8_setTimes := goodIn_r _ [6, 1, 7, 8, 9, 10, 11] (by decide +kernel) (by decide +kernel)
set_option maxRecDepth 20000 in
theorem gX8_slip_X8_setTimes : GoodIn wsX8_slip (wsV RX8 71 RX8 yX8_setTimes wsX8_setTimes) := goodIn_app (goodIn_of _ (by decide +kernel)) ggX8_slip_X8_setTimes
theorem dX8_slip_0 : decode cX8_slip 0 = .ok (.iconst 0, 1) := by decide +kernel
theorem dX8_slip_1 : decode cX8_slip 1 = .ok (.istore_n 2, 1) := by decide +kernel
theorem dX8_slip_2 : decode cX8_slip 2 = .ok (.iload_n 2, 1) := by decide +kernel
theorem dX8_slip_3 : decode cX8_slip 3 = .ok (.bipush 7, 2) := by decide +kernel
theorem dX8_slip_5 : decode cX8_slip 5 = .ok (.if_icmp .ge 16, 3) := by decide +kernel
theorem dX8_slip_8 : decode cX8_slip 8 = .ok (.aload_n 0, 1) := by decide +kernel
theorem dX8_slip_9 : decode cX8_slip 9 = .ok (.iload_n 1, 1) := by decide +kernel
theorem dX8_slip_10 : decode cX8_slip 10 = .ok (.iload_n 2, 1) := by decide +kernel
theorem dX8_slip_11 : decode cX8_slip 11 = .ok (.iconst 0, 1) := by decide +kernel
theorem dX8_slip_12 : decode cX8_slip 12 = .ok (.invokevirtual 71, 3) := by decide +kernel
theorem dX8_slip_15 : decode cX8_slip 15 = .ok (.iinc 2 1, 3) := by decide +kernel
theorem dX8_slip_18 : decode cX8_slip 18 = .ok (.goto (-16), 3) := by decide +kernel
theorem dX8_slip_21 : decode cX8_slip 21 = .ok (.aload_n 0, 1) := by decide +kernel
theorem dX8_slip_22 : decode cX8_slip 22 = .ok (.getfield 11, 3) := by decide +kernel
theorem dX8_slip_25 : decode cX8_slip 25 = .ok (.bipush 48, 2) := by decide +kernel
theorem dX8_slip_27 : decode cX8_slip 27 = .ok (.dup2, 1) := by decide +kernel
theorem dX8_slip_28 : decode cX8_slip 28 = .ok (.iaload, 1) := by decide +kernel
theorem dX8_slip_29 : decode cX8_slip 29 = .ok (.iconst 1, 1) := by decide +kernel
theorem dX8_slip_30 : decode cX8_slip 30 = .ok (.iload_n 1, 1) := by decide +kernel
theorem dX8_slip_31 : decode cX8_slip 31 = .ok (.ishl, 1) := by decide +kernel
theorem dX8_slip_32 : decode cX8_slip 32 = .ok (.iconst (-1), 1) := by decide +kernel
theorem dX8_slip_33 : decode cX8_slip 33 = .ok (.ixor, 1) := by decide +kernel
theorem dX8_slip_34 : decode cX8_slip 34 = .ok (.iand, 1) := by decide +kernel
theorem dX8_slip_35 : decode cX8_slip 35 = .ok (.iastore, 1) := by decide +kernel
theorem dX8_slip_36 : decode cX8_slip 36 = .ok (.return_, 1) := by decide +kernel
set_option maxRecDepth 20000 in
theorem ggX8_mix_X8_times : GoodIn wsX8_mix wsX8_times := goodIn_r _ [5, 6, 15] (by decide +kernel) (by decide +kernel)
set_option maxRecDepth 20000 in
theorem gX8_mix_X8_times : GoodIn wsX8_mix (wsV RX8 40 RX8 yX8_times wsX8_times) := goodIn_app (goodIn_of _ (by decide +kernel)) ggX8_mix_X8_times
set_option maxRecDepth 20000 in
theorem ggX8_mix_X8_setTimes : GoodIn wsX8_mix wsX8_setTimes := goodIn_r _ [10, 6, 11, 12, 13, 14, 15] (by decide +kernel) (by decide +kernel)
set_option maxRecDepth 20000 in
theorem gX8_mix_X8_setTimes : GoodIn wsX8_mix (wsV RX8 71 RX8 yX8_setTimes wsX8_setTimes) := goodIn_app (goodIn_of _ (by decide +kernel)) ggX8_mix_X8_setTimes
theorem dX8_mix_0 : decode cX8_mix 0 = .ok (.iconst 0, 1) := by decide +kernel
theorem dX8_mix_1 : decode cX8_mix 1 = .ok (.istore_n 3, 1) := by decide +kernel
theorem dX8_mix_2 : decode cX8_mix 2 = .ok (.iload_n 3, 1) := by decide +kernel
theorem dX8_mix_3 : decode cX8_mix 3 = .ok (.bipush 7, 2) := by decide +kernel
theorem dX8_mix_5 : decode cX8_mix 5 = .ok (.if_icmp .ge 40, 3) := by decide +kernel
theorem dX8_mix_8 : decode cX8_mix 8 = .ok (.aload_n 0, 1) := by decide +kernel
theorem dX8_mix_9 : decode cX8_mix 9 = .ok (.iload_n 1, 1) := by decide +kernel
theorem dX8_mix_10 : decode cX8_mix 10 = .ok (.iload_n 3, 1) := by decide +kernel
theorem dX8_mix_11 : decode cX8_mix 11 = .ok (.invokevirtual 40, 3) := by decide +kernel
theorem dX8_mix_14 : decode cX8_mix 14 = .ok (.aload_n 0, 1) := by decide +kernel
theorem dX8_mix_15 : decode cX8_mix 15 = .ok (.iload_n 2, 1) := by decide +kernel
theorem dX8_mix_16 : decode cX8_mix 16 = .ok (.iload_n 3, 1) := by decide +kernel
theorem dX8_mix_17 : decode cX8_mix 17 = .ok (.invokevirtual 40, 3) := by decide +kernel
theorem dX8_mix_20 : decode cX8_mix 20 = .ok (.iadd, 1) := by decide +kernel
theorem dX8_mix_21 : decode cX8_mix 21 = .ok (.istore 4, 2) := by decide +kernel
theorem dX8_mix_23 : decode cX8_mix 23 = .ok (.aload_n 0, 1) := by decide +kernel
theorem dX8_mix_24 : decode cX8_mix 24 = .ok (.iload_n 1, 1) := by decide +kernel
theorem dX8_mix_25 : decode cX8_mix 25 = .ok (.iload_n 3, 1) := by decide +kernel
theorem dX8_mix_26 : decode cX8_mix 26 = .ok (.iload 4, 2) := by decide +kernel
theorem dX8_mix_28 : decode cX8_mix 28 = .ok (.invokevirtual 71, 3) := by decide +kernel
theorem dX8_mix_31 : decode cX8_mix 31 = .ok (.aload_n 0, 1) := by decide +kernel
theorem dX8_mix_32 : decode cX8_mix 32 = .ok (.iload_n 2, 1) := by decide +kernel
theorem dX8_mix_33 : decode cX8_mix 33 = .ok (.iload_n 3, 1) := by decide +kernel
theorem dX8_mix_34 : decode cX8_mix 34 = .ok (.iload 4, 2) := by decide +kernel
theorem dX8_mix_36 : decode cX8_mix 36 = .ok (.invokevirtual 71, 3) := by decide +kernel
theorem dX8_mix_39 : decode cX8_mix 39 = .ok (.iinc 3 1, 3) := by decide +kernel
theorem dX8_mix_42 : decode cX8_mix 42 = .ok (.goto (-40), 3) := by decide +kernel
theorem dX8_mix_45 : decode cX8_mix 45 = .ok (.return_, 1) := by decide +kernel
theorem dX9_init_0 : decode cX9_init 0 = .ok (.aload_n 0, 1) := by decide +kernel
theorem dX9_init_1 : decode cX9_init 1 = .ok (.invokespecial 3, 3) := by decide +kernel
theorem dX9_init_4 : decode cX9_init 4 = .ok (.aload_n 0, 1) := by decide +kernel
theorem dX9_init_5 : decode cX9_init 5 = .ok (.sipush 500, 3) := by decide +kernel
theorem dX9_init_8 : decode cX9_init 8 = .ok (.newarray .int, 2) := by decide +kernel
theorem dX9_init_10 : decode cX9_init 10 = .ok (.putfield 11, 3) := by decide +kernel
theorem dX9_init_13 : decode cX9_init 13 = .ok (.aload_n 0, 1) := by decide +kernel
theorem dX9_init_14 : decode cX9_init 14 = .ok (.bipush 100, 2) := by decide +kernel
theorem dX9_init_16 : decode cX9_init 16 = .ok (.newarray .int, 2) := by decide +kernel
theorem dX9_init_18 : decode cX9_init 18 = .ok (.putfield 17, 3) := by decide +kernel
theorem dX9_init_21 : decode cX9_init 21 = .ok (.aload_n 0, 1) := by decide +kernel
theorem dX9_init_22 : decode cX9_init 22 = .ok (.iconst 2, 1) := by decide +kernel
theorem dX9_init_23 : decode cX9_init 23 = .ok (.newarray .boolean, 2) := by decide +kernel
theorem dX9_init_25 : decode cX9_init 25 = .ok (.putfield 20, 3) := by decide +kernel
theorem dX9_init_28 : decode cX9_init 28 = .ok (.return_, 1) := by decide +kernel
theorem dX9_empty_0 : decode cX9_empty 0 = .ok (.aload_n 0, 1) := by decide +kernel
theorem dX9_empty_1 : decode cX9_empty 1 = .ok (.iconst 0, 1) := by decide +kernel
theorem dX9_empty_2 : decode cX9_empty 2 = .ok (.putfield 24, 3) := by decide +kernel
theorem dX9_empty_5 : decode cX9_empty 5 = .ok (.iconst 0, 1) := by decide +kernel
theorem dX9_empty_6 : decode cX9_empty 6 = .ok (.istore_n 1, 1) := by decide +kernel
theorem dX9_empty_7 : decode cX9_empty 7 = .ok (.iload_n 1, 1) := by decide +kernel
theorem dX9_empty_8 : decode cX9_empty 8 = .ok (.iconst 2, 1) := by decide +kernel
theorem dX9_empty_9 : decode cX9_empty 9 = .ok (.if_icmp .ge 16, 3) := by decide +kernel
theorem dX9_empty_12 : decode cX9_empty 12 = .ok (.aload_n 0, 1) := by decide +kernel
theorem dX9_empty_13 : decode cX9_empty 13 = .ok (.getfield 20, 3) := by decide +kernel
theorem dX9_empty_16 : decode cX9_empty 16 = .ok (.iload_n 1, 1) := by decide +kernel
theorem dX9_empty_17 : decode cX9_empty 17 = .ok (.iconst 0, 1) := by decide +kernel
theorem dX9_empty_18 : decode cX9_empty 18 = .ok (.bastore, 1) := by decide +kernel
theorem dX9_empty_19 : decode cX9_empty 19 = .ok (.iinc 1 1, 3) := by decide +kernel
theorem dX9_empty_22 : decode cX9_empty 22 = .ok (.goto (-15), 3) := by decide +kernel
theorem dX9_empty_25 : decode cX9_empty 25 = .ok (.return_, 1) := by decide +kernel
theorem dX9_remember_0 : decode cX9_remember 0 = .ok (.aload_n 1, 1) := by decide +kernel
theorem dX9_remember_1 : decode cX9_remember 1 = .ok (.getfield 28, 3) := by decide +kernel
theorem dX9_remember_4 : decode cX9_remember 4 = .ok (.iconst 0, 1) := by decide +kernel
theorem dX9_remember_5 : decode cX9_remember 5 = .ok (.aload_n 0, 1) := by decide +kernel
theorem dX9_remember_6 : decode cX9_remember 6 = .ok (.getfield 11, 3) := by decide +kernel
theorem dX9_remember_9 : decode cX9_remember 9 = .ok (.aload_n 0, 1) := by decide +kernel
theorem dX9_remember_10 : decode cX9_remember 10 = .ok (.getfield 31, 3) := by decide +kernel
theorem dX9_remember_13 : decode cX9_remember 13 = .ok (.bipush 50, 2) := by decide +kernel
theorem dX9_remember_15 : decode cX9_remember 15 = .ok (.imul, 1) := by decide +kernel
theorem dX9_remember_16 : decode cX9_remember 16 = .ok (.bipush 50, 2) := by decide +kernel
theorem dX9_remember_18 : decode cX9_remember 18 = .ok (.invokestatic 34, 3) := by decide +kernel
theorem dX9_remember_21 : decode cX9_remember 21 = .ok (.aload_n 0, 1) := by decide +kernel
theorem dX9_remember_22 : decode cX9_remember 22 = .ok (.aload_n 0, 1) := by decide +kernel
theorem dX9_remember_23 : decode cX9_remember 23 = .ok (.getfield 31, 3) := by decide +kernel
theorem dX9_remember_26 : decode cX9_remember 26 = .ok (.iconst 1, 1) := by decide +kernel
theorem dX9_remember_27 : decode cX9_remember 27 = .ok (.iadd, 1) := by decide +kernel
theorem dX9_remember_28 : decode cX9_remember 28 = .ok (.bipush 10, 2) := by decide +kernel
theorem dX9_remember_30 : decode cX9_remember 30 = .ok (.irem, 1) := by decide +kernel
theorem dX9_remember_31 : decode cX9_remember 31 = .ok (.putfield 31, 3) := by decide +kernel
theorem dX9_remember_34 : decode cX9_remember 34 = .ok (.aload_n 0, 1) := by decide +kernel
theorem dX9_remember_35 : decode cX9_remember 35 = .ok (.aload_n 0, 1) := by decide +kernel
theorem dX9_remember_36 : decode cX9_remember 36 = .ok (.getfield 24, 3) := by decide +kernel
theorem dX9_remember_39 : decode cX9_remember 39 = .ok (.iconst 1, 1) := by decide +kernel
theorem dX9_remember_40 : decode cX9_remember 40 = .ok (.iadd, 1) := by decide +kernel
theorem dX9_remember_41 : decode cX9_remember 41 = .ok (.bipush 10, 2) := by decide +kernel
theorem dX9_remember_43 : decode cX9_remember 43 = .ok (.invokestatic 40, 3) := by decide +kernel
theorem dX9_remember_46 : decode cX9_remember 46 = .ok (.putfield 24, 3) := by decide +kernel
theorem dX9_remember_49 : decode cX9_remember 49 = .ok (.return_, 1) := by decide +kernel
theorem dX9_restoreLatest_0 : decode cX9_restoreLatest 0 = .ok (.aload_n 0, 1) := by decide +kernel
theorem dX9_restoreLatest_1 : decode cX9_restoreLatest 1 = .ok (.getfield 24, 3) := by decide +kernel
theorem dX9_restoreLatest_4 : decode cX9_restoreLatest 4 = .ok (.ifCond .ne 5, 3) := by decide +kernel
theorem dX9_restoreLatest_7 : decode cX9_restoreLatest 7 = .ok (.iconst 0, 1) := by decide +kernel
theorem dX9_restoreLatest_8 : decode cX9_restoreLatest 8 = .ok (.ireturn, 1) := by decide +kernel
theorem dX9_restoreLatest_9 : decode cX9_restoreLatest 9 = .ok (.aload_n 0, 1) := by decide +kernel
theorem dX9_restoreLatest_10 : decode cX9_restoreLatest 10 = .ok (.dup, 1) := by decide +kernel
theorem dX9_restoreLatest_11 : decode cX9_restoreLatest 11 = .ok (.getfield 24, 3) := by decide +kernel
theorem dX9_restoreLatest_14 : decode cX9_restoreLatest 14 = .ok (.iconst 1, 1) := by decide +kernel
theorem dX9_restoreLatest_15 : decode cX9_restoreLatest 15 = .ok (.isub, 1) := by decide +kernel
theorem dX9_restoreLatest_16 : decode cX9_restoreLatest 16 = .ok (.putfield 24, 3) := by decide +kernel
theorem dX9_restoreLatest_19 : decode cX9_restoreLatest 19 = .ok (.aload_n 0, 1) := by decide +kernel
theorem dX9_restoreLatest_20 : decode cX9_restoreLatest 20 = .ok (.aload_n 0, 1) := by decide +kernel
theorem dX9_restoreLatest_21 : decode cX9_restoreLatest 21 = .ok (.getfield 31, 3) := by decide +kernel
theorem dX9_restoreLatest_24 : decode cX9_restoreLatest 24 = .ok (.bipush 10, 2) := by decide +kernel
theorem dX9_restoreLatest_26 : decode cX9_restoreLatest 26 = .ok (.iadd, 1) := by decide +kernel
theorem dX9_restoreLatest_27 : decode cX9_restoreLatest 27 = .ok (.iconst 1, 1) := by decide +kernel
theorem dX9_restoreLatest_28 : decode cX9_restoreLatest 28 = .ok (.isub, 1) := by decide +kernel
theorem dX9_restoreLatest_29 : decode cX9_restoreLatest 29 = .ok (.bipush 10, 2) := by decide +kernel
theorem dX9_restoreLatest_31 : decode cX9_restoreLatest 31 = .ok (.irem, 1) := by decide +kernel
theorem dX9_restoreLatest_32 : decode cX9_restoreLatest 32 = .ok (.putfield 31, 3) := by decide +kernel
theorem dX9_restoreLatest_35 : decode cX9_restoreLatest 35 = .ok (.aload_n 0, 1) := by decide +kernel
theorem dX9_restoreLatest_36 : decode cX9_restoreLatest 36 = .ok (.getfield 11, 3) := by decide +kernel
theorem dX9_restoreLatest_39 : decode cX9_restoreLatest 39 = .ok (.aload_n 0, 1) := by decide +kernel
theorem dX9_restoreLatest_40 : decode cX9_restoreLatest 40 = .ok (.getfield 31, 3) := by decide +kernel
theorem dX9_restoreLatest_43 : decode cX9_restoreLatest 43 = .ok (.bipush 50, 2) := by decide +kernel
theorem dX9_restoreLatest_45 : decode cX9_restoreLatest 45 = .ok (.imul, 1) := by decide +kernel
theorem dX9_restoreLatest_46 : decode cX9_restoreLatest 46 = .ok (.aload_n 1, 1) := by decide +kernel
theorem dX9_restoreLatest_47 : decode cX9_restoreLatest 47 = .ok (.getfield 28, 3) := by decide +kernel
theorem dX9_restoreLatest_50 : decode cX9_restoreLatest 50 = .ok (.iconst 0, 1) := by decide +kernel
theorem dX9_restoreLatest_51 : decode cX9_restoreLatest 51 = .ok (.bipush 50, 2) := by decide +kernel
theorem dX9_restoreLatest_53 : decode cX9_restoreLatest 53 = .ok (.invokestatic 34, 3) := by decide +kernel
theorem dX9_restoreLatest_56 : decode cX9_restoreLatest 56 = .ok (.iconst 1, 1) := by decide +kernel
theorem dX9_restoreLatest_57 : decode cX9_restoreLatest 57 = .ok (.ireturn, 1) := by decide +kernel
theorem dX9_keepImage_0 : decode cX9_keepImage 0 = .ok (.aload_n 2, 1) := by decide +kernel
theorem dX9_keepImage_1 : decode cX9_keepImage 1 = .ok (.getfield 28, 3) := by decide +kernel
theorem dX9_keepImage_4 : decode cX9_keepImage 4 = .ok (.iconst 0, 1) := by decide +kernel
theorem dX9_keepImage_5 : decode cX9_keepImage 5 = .ok (.aload_n 0, 1) := by decide +kernel
theorem dX9_keepImage_6 : decode cX9_keepImage 6 = .ok (.getfield 17, 3) := by decide +kernel
theorem dX9_keepImage_9 : decode cX9_keepImage 9 = .ok (.iload_n 1, 1) := by decide +kernel
theorem dX9_keepImage_10 : decode cX9_keepImage 10 = .ok (.bipush 50, 2) := by decide +kernel
theorem dX9_keepImage_12 : decode cX9_keepImage 12 = .ok (.imul, 1) := by decide +kernel
theorem dX9_keepImage_13 : decode cX9_keepImage 13 = .ok (.bipush 50, 2) := by decide +kernel
theorem dX9_keepImage_15 : decode cX9_keepImage 15 = .ok (.invokestatic 34, 3) := by decide +kernel
theorem dX9_keepImage_18 : decode cX9_keepImage 18 = .ok (.aload_n 0, 1) := by decide +kernel
theorem dX9_keepImage_19 : decode cX9_keepImage 19 = .ok (.getfield 20, 3) := by decide +kernel
theorem dX9_keepImage_22 : decode cX9_keepImage 22 = .ok (.iload_n 1, 1) := by decide +kernel
theorem dX9_keepImage_23 : decode cX9_keepImage 23 = .ok (.iconst 1, 1) := by decide +kernel
theorem dX9_keepImage_24 : decode cX9_keepImage 24 = .ok (.bastore, 1) := by decide +kernel
theorem dX9_keepImage_25 : decode cX9_keepImage 25 = .ok (.return_, 1) := by decide +kernel
theorem dX9_restoreImage_0 : decode cX9_restoreImage 0 = .ok (.aload_n 0, 1) := by decide +kernel
theorem dX9_restoreImage_1 : decode cX9_restoreImage 1 = .ok (.getfield 20, 3) := by decide +kernel
theorem dX9_restoreImage_4 : decode cX9_restoreImage 4 = .ok (.iload_n 1, 1) := by decide +kernel
theorem dX9_restoreImage_5 : decode cX9_restoreImage 5 = .ok (.baload, 1) := by decide +kernel
theorem dX9_restoreImage_6 : decode cX9_restoreImage 6 = .ok (.ifCond .ne 5, 3) := by decide +kernel
theorem dX9_restoreImage_9 : decode cX9_restoreImage 9 = .ok (.iconst 0, 1) := by decide +kernel
theorem dX9_restoreImage_10 : decode cX9_restoreImage 10 = .ok (.ireturn, 1) := by decide +kernel
theorem dX9_restoreImage_11 : decode cX9_restoreImage 11 = .ok (.aload_n 0, 1) := by decide +kernel
theorem dX9_restoreImage_12 : decode cX9_restoreImage 12 = .ok (.getfield 17, 3) := by decide +kernel
theorem dX9_restoreImage_15 : decode cX9_restoreImage 15 = .ok (.iload_n 1, 1) := by decide +kernel
theorem dX9_restoreImage_16 : decode cX9_restoreImage 16 = .ok (.bipush 50, 2) := by decide +kernel
theorem dX9_restoreImage_18 : decode cX9_restoreImage 18 = .ok (.imul, 1) := by decide +kernel
theorem dX9_restoreImage_19 : decode cX9_restoreImage 19 = .ok (.aload_n 2, 1) := by decide +kernel
theorem dX9_restoreImage_20 : decode cX9_restoreImage 20 = .ok (.getfield 28, 3) := by decide +kernel
theorem dX9_restoreImage_23 : decode cX9_restoreImage 23 = .ok (.iconst 0, 1) := by decide +kernel
theorem dX9_restoreImage_24 : decode cX9_restoreImage 24 = .ok (.bipush 50, 2) := by decide +kernel
theorem dX9_restoreImage_26 : decode cX9_restoreImage 26 = .ok (.invokestatic 34, 3) := by decide +kernel
theorem dX9_restoreImage_29 : decode cX9_restoreImage 29 = .ok (.aload_n 0, 1) := by decide +kernel
theorem dX9_restoreImage_30 : decode cX9_restoreImage 30 = .ok (.iconst 0, 1) := by decide +kernel
theorem dX9_restoreImage_31 : decode cX9_restoreImage 31 = .ok (.putfield 24, 3) := by decide +kernel
theorem dX9_restoreImage_34 : decode cX9_restoreImage 34 = .ok (.iconst 1, 1) := by decide +kernel
theorem dX9_restoreImage_35 : decode cX9_restoreImage 35 = .ok (.ireturn, 1) := by decide +kernel
theorem dX10_init_0 : decode cX10_init 0 = .ok (.aload_n 0, 1) := by decide +kernel
theorem dX10_init_1 : decode cX10_init 1 = .ok (.invokespecial 3, 3) := by decide +kernel
theorem dX10_init_4 : decode cX10_init 4 = .ok (.aload_n 0, 1) := by decide +kernel
theorem dX10_init_5 : decode cX10_init 5 = .ok (.bipush 6, 2) := by decide +kernel
theorem dX10_init_7 : decode cX10_init 7 = .ok (.newarray .int, 2) := by decide +kernel
theorem dX10_init_9 : decode cX10_init 9 = .ok (.putfield 9, 3) := by decide +kernel
theorem dX10_init_12 : decode cX10_init 12 = .ok (.aload_n 0, 1) := by decide +kernel
theorem dX10_init_13 : decode cX10_init 13 = .ok (.bipush 6, 2) := by decide +kernel
theorem dX10_init_15 : decode cX10_init 15 = .ok (.newarray .int, 2) := by decide +kernel
theorem dX10_init_17 : decode cX10_init 17 = .ok (.putfield 15, 3) := by decide +kernel
theorem dX10_init_20 : decode cX10_init 20 = .ok (.aload_n 0, 1) := by decide +kernel
theorem dX10_init_21 : decode cX10_init 21 = .ok (.bipush 7, 2) := by decide +kernel
theorem dX10_init_23 : decode cX10_init 23 = .ok (.newarray .int, 2) := by decide +kernel
theorem dX10_init_25 : decode cX10_init 25 = .ok (.putfield 18, 3) := by decide +kernel
theorem dX10_init_28 : decode cX10_init 28 = .ok (.aload_n 0, 1) := by decide +kernel
theorem dX10_init_29 : decode cX10_init 29 = .ok (.iconst 3, 1) := by decide +kernel
theorem dX10_init_30 : decode cX10_init 30 = .ok (.putfield 21, 3) := by decide +kernel
theorem dX10_init_33 : decode cX10_init 33 = .ok (.return_, 1) := by decide +kernel
set_option maxRecDepth 20000 in
theorem ggX10_begin_J7_fill_53178 : GoodIn wsX10_begin wsJ7_fill_53178 := goodIn_r _ [7] (by decide +kernel) (by decide +kernel)
set_option maxRecDepth 20000 in
theorem gX10_begin_J7_fill_53178 : GoodIn wsX10_begin (va_wsS RX10 25 yJ7_fill_53178 wsJ7_fill_53178) := goodIn_app (goodIn_of _ (by decide +kernel)) ggX10_begin_J7_fill_53178
theorem dX10_begin_0 : decode cX10_begin 0 = .ok (.aload_n 0, 1) := by decide +kernel
theorem dX10_begin_1 : decode cX10_begin 1 = .ok (.getfield 18, 3) := by decide +kernel
theorem dX10_begin_4 : decode cX10_begin 4 = .ok (.iconst 0, 1) := by decide +kernel
theorem dX10_begin_5 : decode cX10_begin 5 = .ok (.invokestatic 25, 3) := by decide +kernel
theorem dX10_begin_8 : decode cX10_begin 8 = .ok (.aload_n 0, 1) := by decide +kernel
theorem dX10_begin_9 : decode cX10_begin 9 = .ok (.iconst 0, 1) := by decide +kernel
theorem dX10_begin_10 : decode cX10_begin 10 = .ok (.putfield 31, 3) := by decide +kernel
theorem dX10_begin_13 : decode cX10_begin 13 = .ok (.aload_n 0, 1) := by decide +kernel
theorem dX10_begin_14 : decode cX10_begin 14 = .ok (.iconst 3, 1) := by decide +kernel
theorem dX10_begin_15 : decode cX10_begin 15 = .ok (.putfield 21, 3) := by decide +kernel
theorem dX10_begin_18 : decode cX10_begin 18 = .ok (.return_, 1) := by decide +kernel
theorem dX10_hasPerson_0 : decode cX10_hasPerson 0 = .ok (.iload_n 1, 1) := by decide +kernel
theorem dX10_hasPerson_1 : decode cX10_hasPerson 1 = .ok (.ifCond .lt 15, 3) := by decide +kernel
theorem dX10_hasPerson_4 : decode cX10_hasPerson 4 = .ok (.iload_n 1, 1) := by decide +kernel
theorem dX10_hasPerson_5 : decode cX10_hasPerson 5 = .ok (.aload_n 0, 1) := by decide +kernel
theorem dX10_hasPerson_6 : decode cX10_hasPerson 6 = .ok (.getfield 31, 3) := by decide +kernel
theorem dX10_hasPerson_9 : decode cX10_hasPerson 9 = .ok (.if_icmp .ge 7, 3) := by decide +kernel
theorem dX10_hasPerson_12 : decode cX10_hasPerson 12 = .ok (.iconst 1, 1) := by decide +kernel
theorem dX10_hasPerson_13 : decode cX10_hasPerson 13 = .ok (.goto 4, 3) := by decide +kernel
theorem dX10_hasPerson_16 : decode cX10_hasPerson 16 = .ok (.iconst 0, 1) := by decide +kernel
theorem dX10_hasPerson_17 : decode cX10_hasPerson 17 = .ok (.ireturn, 1) := by decide +kernel
theorem dX10_hasPillow_0 : decode cX10_hasPillow 0 = .ok (.iload_n 1, 1) := by decide +kernel
theorem dX10_hasPillow_1 : decode cX10_hasPillow 1 = .ok (.ifCond .lt 15, 3) := by decide +kernel
theorem dX10_hasPillow_4 : decode cX10_hasPillow 4 = .ok (.iload_n 1, 1) := by decide +kernel
theorem dX10_hasPillow_5 : decode cX10_hasPillow 5 = .ok (.aload_n 0, 1) := by decide +kernel
theorem dX10_hasPillow_6 : decode cX10_hasPillow 6 = .ok (.getfield 21, 3) := by decide +kernel
theorem dX10_hasPillow_9 : decode cX10_hasPillow 9 = .ok (.if_icmp .ge 7, 3) := by decide +kernel
theorem dX10_hasPillow_12 : decode cX10_hasPillow 12 = .ok (.iconst 1, 1) := by decide +kernel
theorem dX10_hasPillow_13 : decode cX10_hasPillow 13 = .ok (.goto 4, 3) := by decide +kernel
theorem dX10_hasPillow_16 : decode cX10_hasPillow 16 = .ok (.iconst 0, 1) := by decide +kernel
theorem dX10_hasPillow_17 : decode cX10_hasPillow 17 = .ok (.ireturn, 1) := by decide +kernel
theorem dX10_addPerson_0 : decode cX10_addPerson 0 = .ok (.aload_n 0, 1) := by decide +kernel
theorem dX10_addPerson_1 : decode cX10_addPerson 1 = .ok (.getfield 31, 3) := by decide +kernel
theorem dX10_addPerson_4 : decode cX10_addPerson 4 = .ok (.bipush 6, 2) := by decide +kernel
theorem dX10_addPerson_6 : decode cX10_addPerson 6 = .ok (.if_icmp .ge 33, 3) := by decide +kernel
theorem dX10_addPerson_9 : decode cX10_addPerson 9 = .ok (.aload_n 0, 1) := by decide +kernel
theorem dX10_addPerson_10 : decode cX10_addPerson 10 = .ok (.getfield 9, 3) := by decide +kernel
theorem dX10_addPerson_13 : decode cX10_addPerson 13 = .ok (.aload_n 0, 1) := by decide +kernel
theorem dX10_addPerson_14 : decode cX10_addPerson 14 = .ok (.getfield 31, 3) := by decide +kernel
theorem dX10_addPerson_17 : decode cX10_addPerson 17 = .ok (.iload_n 1, 1) := by decide +kernel
theorem dX10_addPerson_18 : decode cX10_addPerson 18 = .ok (.iastore, 1) := by decide +kernel
theorem dX10_addPerson_19 : decode cX10_addPerson 19 = .ok (.aload_n 0, 1) := by decide +kernel
theorem dX10_addPerson_20 : decode cX10_addPerson 20 = .ok (.getfield 15, 3) := by decide +kernel
theorem dX10_addPerson_23 : decode cX10_addPerson 23 = .ok (.aload_n 0, 1) := by decide +kernel
theorem dX10_addPerson_24 : decode cX10_addPerson 24 = .ok (.getfield 31, 3) := by decide +kernel
theorem dX10_addPerson_27 : decode cX10_addPerson 27 = .ok (.iload_n 2, 1) := by decide +kernel
theorem dX10_addPerson_28 : decode cX10_addPerson 28 = .ok (.iastore, 1) := by decide +kernel
theorem dX10_addPerson_29 : decode cX10_addPerson 29 = .ok (.aload_n 0, 1) := by decide +kernel
theorem dX10_addPerson_30 : decode cX10_addPerson 30 = .ok (.dup, 1) := by decide +kernel
theorem dX10_addPerson_31 : decode cX10_addPerson 31 = .ok (.getfield 31, 3) := by decide +kernel
theorem dX10_addPerson_34 : decode cX10_addPerson 34 = .ok (.iconst 1, 1) := by decide +kernel
theorem dX10_addPerson_35 : decode cX10_addPerson 35 = .ok (.iadd, 1) := by decide +kernel
theorem dX10_addPerson_36 : decode cX10_addPerson 36 = .ok (.putfield 31, 3) := by decide +kernel
theorem dX10_addPerson_39 : decode cX10_addPerson 39 = .ok (.return_, 1) := by decide +kernel
