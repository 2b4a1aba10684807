theorem dX8_arrive_102 : decode cX8_arrive 102 = .ok (.goto (-37), 3) := by decide +kernel
theorem dX8_arrive_105 : decode cX8_arrive 105 = .ok (.aload_n 0, 1) := by decide +kernel
theorem dX8_arrive_106 : decode cX8_arrive 106 = .ok (.getfield 7, 3) := by decide +kernel
theorem dX8_arrive_109 : decode cX8_arrive 109 = .ok (.bipush 7, 2) := by decide +kernel
theorem dX8_arrive_111 : decode cX8_arrive 111 = .ok (.dup2, 1) := by decide +kernel
theorem dX8_arrive_112 : decode cX8_arrive 112 = .ok (.iaload, 1) := by decide +kernel
theorem dX8_arrive_113 : decode cX8_arrive 113 = .ok (.iconst 1, 1) := by decide +kernel
theorem dX8_arrive_114 : decode cX8_arrive 114 = .ok (.iadd, 1) := by decide +kernel
theorem dX8_arrive_115 : decode cX8_arrive 115 = .ok (.iastore, 1) := by decide +kernel
theorem dX8_arrive_116 : decode cX8_arrive 116 = .ok (.iload 4, 2) := by decide +kernel
theorem dX8_arrive_118 : decode cX8_arrive 118 = .ok (.ifCond .ne 13, 3) := by decide +kernel
theorem dX8_arrive_121 : decode cX8_arrive 121 = .ok (.aload_n 0, 1) := by decide +kernel
theorem dX8_arrive_122 : decode cX8_arrive 122 = .ok (.iload_n 3, 1) := by decide +kernel
theorem dX8_arrive_123 : decode cX8_arrive 123 = .ok (.iload 5, 2) := by decide +kernel
theorem dX8_arrive_125 : decode cX8_arrive 125 = .ok (.invokevirtual 82, 3) := by decide +kernel
theorem dX8_arrive_128 : decode cX8_arrive 128 = .ok (.goto 27, 3) := by decide +kernel
theorem dX8_arrive_131 : decode cX8_arrive 131 = .ok (.iload 4, 2) := by decide +kernel
theorem dX8_arrive_133 : decode cX8_arrive 133 = .ok (.iconst 1, 1) := by decide +kernel
theorem dX8_arrive_134 : decode cX8_arrive 134 = .ok (.if_icmp .ne 13, 3) := by decide +kernel
theorem dX8_arrive_137 : decode cX8_arrive 137 = .ok (.aload_n 0, 1) := by decide +kernel
theorem dX8_arrive_138 : decode cX8_arrive 138 = .ok (.iload_n 3, 1) := by decide +kernel
theorem dX8_arrive_139 : decode cX8_arrive 139 = .ok (.iload 5, 2) := by decide +kernel
theorem dX8_arrive_141 : decode cX8_arrive 141 = .ok (.invokevirtual 85, 3) := by decide +kernel
theorem dX8_arrive_144 : decode cX8_arrive 144 = .ok (.goto 11, 3) := by decide +kernel
theorem dX8_arrive_147 : decode cX8_arrive 147 = .ok (.aload_n 0, 1) := by decide +kernel
theorem dX8_arrive_148 : decode cX8_arrive 148 = .ok (.iload_n 3, 1) := by decide +kernel
theorem dX8_arrive_149 : decode cX8_arrive 149 = .ok (.iconst 5, 1) := by decide +kernel
theorem dX8_arrive_150 : decode cX8_arrive 150 = .ok (.iload 5, 2) := by decide +kernel
theorem dX8_arrive_152 : decode cX8_arrive 152 = .ok (.invokevirtual 50, 3) := by decide +kernel
theorem dX8_arrive_155 : decode cX8_arrive 155 = .ok (.return_, 1) := by decide +kernel
set_option maxRecDepth 20000 in
theorem ggX8_goTo_X8_nextChange : GoodIn wsX8_goTo wsX8_nextChange := goodIn_r _ [6, 1, 7, 8, 9, 5, 10, 55, 56, 57, 58, 59, 60, 61, 62, 63, 64, 65, 66] (by decide +kernel) (by decide +kernel)
set_option maxRecDepth 20000 in
theorem gX8_goTo_X8_nextChange : GoodIn wsX8_goTo (wsV RX8 88 RX8 yX8_nextChange wsX8_nextChange) := goodIn_app (goodIn_of _ (by decide +kernel)) ggX8_goTo_X8_nextChange
set_option maxRecDepth 20000 in
theorem ggX8_goTo_X8_whenOf : GoodIn wsX8_goTo wsX8_whenOf := goodIn_r _ [10, 1, 55, 56, 57, 58, 59, 60, 61, 62, 63, 64, 65, 66] (by decide +kernel) (by decide +kernel)
set_option maxRecDepth 20000 in
theorem gX8_goTo_X8_whenOf : GoodIn wsX8_goTo (wsV RX8 78 RX8 yX8_whenOf wsX8_whenOf) := goodIn_app (goodIn_of _ (by decide +kernel)) ggX8_goTo_X8_whenOf
set_option maxRecDepth 20000 in
theorem ggX8_goTo_X8_arrive : GoodIn wsX8_goTo wsX8_arrive := goodIn_r _ [14, 1, 15, 16, 17, 5, 18, 19, 20, 21, 22, 23, 24, 25, 26, 27, 28, 29, 30, 31, 32, 33, 34, 35, 36, 37, 38, 39, 40, 41, 42, 43, 44, 45, 46, 47, 48, 49, 50, 51, 52, 53, 54, 55, 56, 57, 58, 59, 60, 61, 62, 63, 64, 65, 66] (by decide +kernel) (by decide +kernel)
set_option maxRecDepth 20000 in
theorem gX8_goTo_X8_arrive : GoodIn wsX8_goTo (wsV RX8 92 RX8 yX8_arrive wsX8_arrive) := goodIn_app (goodIn_of _ (by decide +kernel)) ggX8_goTo_X8_arrive
theorem dX8_goTo_0 : decode cX8_goTo 0 = .ok (.aload_n 0, 1) := by decide +kernel
theorem dX8_goTo_1 : decode cX8_goTo 1 = .ok (.invokevirtual 88, 3) := by decide +kernel
theorem dX8_goTo_4 : decode cX8_goTo 4 = .ok (.istore_n 2, 1) := by decide +kernel
theorem dX8_goTo_5 : decode cX8_goTo 5 = .ok (.iload_n 2, 1) := by decide +kernel
theorem dX8_goTo_6 : decode cX8_goTo 6 = .ok (.bipush (-5), 2) := by decide +kernel
theorem dX8_goTo_8 : decode cX8_goTo 8 = .ok (.if_icmp .eq 25, 3) := by decide +kernel
theorem dX8_goTo_11 : decode cX8_goTo 11 = .ok (.aload_n 0, 1) := by decide +kernel
theorem dX8_goTo_12 : decode cX8_goTo 12 = .ok (.iload_n 2, 1) := by decide +kernel
theorem dX8_goTo_13 : decode cX8_goTo 13 = .ok (.invokevirtual 78, 3) := by decide +kernel
theorem dX8_goTo_16 : decode cX8_goTo 16 = .ok (.iload_n 1, 1) := by decide +kernel
theorem dX8_goTo_17 : decode cX8_goTo 17 = .ok (.if_icmp .gt 16, 3) := by decide +kernel
theorem dX8_goTo_20 : decode cX8_goTo 20 = .ok (.aload_n 0, 1) := by decide +kernel
theorem dX8_goTo_21 : decode cX8_goTo 21 = .ok (.iload_n 2, 1) := by decide +kernel
theorem dX8_goTo_22 : decode cX8_goTo 22 = .ok (.invokevirtual 92, 3) := by decide +kernel
theorem dX8_goTo_25 : decode cX8_goTo 25 = .ok (.aload_n 0, 1) := by decide +kernel
theorem dX8_goTo_26 : decode cX8_goTo 26 = .ok (.invokevirtual 88, 3) := by decide +kernel
theorem dX8_goTo_29 : decode cX8_goTo 29 = .ok (.istore_n 2, 1) := by decide +kernel
theorem dX8_goTo_30 : decode cX8_goTo 30 = .ok (.goto (-25), 3) := by decide +kernel
theorem dX8_goTo_33 : decode cX8_goTo 33 = .ok (.aload_n 0, 1) := by decide +kernel
theorem dX8_goTo_34 : decode cX8_goTo 34 = .ok (.getfield 7, 3) := by decide +kernel
theorem dX8_goTo_37 : decode cX8_goTo 37 = .ok (.iconst 4, 1) := by decide +kernel
theorem dX8_goTo_38 : decode cX8_goTo 38 = .ok (.iload_n 1, 1) := by decide +kernel
theorem dX8_goTo_39 : decode cX8_goTo 39 = .ok (.iastore, 1) := by decide +kernel
theorem dX8_goTo_40 : decode cX8_goTo 40 = .ok (.return_, 1) := by decide +kernel
set_option maxRecDepth 20000 in
theorem ggX8_settle_X8_nextChange : GoodIn wsX8_settle wsX8_nextChange := goodIn_r _ [6, 1, 7, 8, 9, 5, 10, 55, 56, 57, 58, 59, 60, 61, 62, 63, 64, 65, 66] (by decide +kernel) (by decide +kernel)
set_option maxRecDepth 20000 in
theorem gX8_settle_X8_nextChange : GoodIn wsX8_settle (wsV RX8 88 RX8 yX8_nextChange wsX8_nextChange) := goodIn_app (goodIn_of _ (by decide +kernel)) ggX8_settle_X8_nextChange
set_option maxRecDepth 20000 in
theorem ggX8_settle_X8_arrive : GoodIn wsX8_settle wsX8_arrive := goodIn_r _ [14, 1, 15, 16, 17, 5, 18, 19, 20, 21, 22, 23, 24, 25, 26, 27, 28, 29, 30, 31, 32, 33, 34, 35, 36, 37, 38, 39, 40, 41, 42, 43, 44, 45, 46, 47, 48, 49, 50, 51, 52, 53, 54, 55, 56, 57, 58, 59, 60, 61, 62, 63, 64, 65, 66] (by decide +kernel) (by decide +kernel)
set_option maxRecDepth 20000 in
theorem gX8_settle_X8_arrive : GoodIn wsX8_settle (wsV RX8 92 RX8 yX8_arrive wsX8_arrive) := goodIn_app (goodIn_of _ (by decide +kernel)) ggX8_settle_X8_arrive
theorem dX8_settle_0 : decode cX8_settle 0 = .ok (.aload_n 0, 1) := by decide +kernel
theorem dX8_settle_1 : decode cX8_settle 1 = .ok (.getfield 7, 3) := by decide +kernel
theorem dX8_settle_4 : decode cX8_settle 4 = .ok (.iconst 4, 1) := by decide +kernel
theorem dX8_settle_5 : decode cX8_settle 5 = .ok (.iaload, 1) := by decide +kernel
theorem dX8_settle_6 : decode cX8_settle 6 = .ok (.istore_n 1, 1) := by decide +kernel
theorem dX8_settle_7 : decode cX8_settle 7 = .ok (.aload_n 0, 1) := by decide +kernel
theorem dX8_settle_8 : decode cX8_settle 8 = .ok (.invokevirtual 88, 3) := by decide +kernel
theorem dX8_settle_11 : decode cX8_settle 11 = .ok (.istore_n 2, 1) := by decide +kernel
theorem dX8_settle_12 : decode cX8_settle 12 = .ok (.iload_n 2, 1) := by decide +kernel
theorem dX8_settle_13 : decode cX8_settle 13 = .ok (.bipush (-5), 2) := by decide +kernel
theorem dX8_settle_15 : decode cX8_settle 15 = .ok (.if_icmp .eq 16, 3) := by decide +kernel
theorem dX8_settle_18 : decode cX8_settle 18 = .ok (.aload_n 0, 1) := by decide +kernel
theorem dX8_settle_19 : decode cX8_settle 19 = .ok (.iload_n 2, 1) := by decide +kernel
theorem dX8_settle_20 : decode cX8_settle 20 = .ok (.invokevirtual 92, 3) := by decide +kernel
theorem dX8_settle_23 : decode cX8_settle 23 = .ok (.aload_n 0, 1) := by decide +kernel
theorem dX8_settle_24 : decode cX8_settle 24 = .ok (.invokevirtual 88, 3) := by decide +kernel
theorem dX8_settle_27 : decode cX8_settle 27 = .ok (.istore_n 2, 1) := by decide +kernel
theorem dX8_settle_28 : decode cX8_settle 28 = .ok (.goto (-16), 3) := by decide +kernel
theorem dX8_settle_31 : decode cX8_settle 31 = .ok (.aload_n 0, 1) := by decide +kernel
theorem dX8_settle_32 : decode cX8_settle 32 = .ok (.getfield 7, 3) := by decide +kernel
theorem dX8_settle_35 : decode cX8_settle 35 = .ok (.iconst 4, 1) := by decide +kernel
theorem dX8_settle_36 : decode cX8_settle 36 = .ok (.iaload, 1) := by decide +kernel
theorem dX8_settle_37 : decode cX8_settle 37 = .ok (.iload_n 1, 1) := by decide +kernel
theorem dX8_settle_38 : decode cX8_settle 38 = .ok (.isub, 1) := by decide +kernel
theorem dX8_settle_39 : decode cX8_settle 39 = .ok (.ireturn, 1) := by decide +kernel
set_option maxRecDepth 20000 in
theorem ggX8_adds_X8_isSender : GoodIn wsX8_adds wsX8_isSender := goodIn_r _ [5, 6, 7, 4, 8] (by decide +kernel) (by decide +kernel)
set_option maxRecDepth 20000 in
theorem gX8_adds_X8_isSender : GoodIn wsX8_adds (va_wsS RX8 95 yX8_isSender wsX8_isSender) := goodIn_app (goodIn_of _ (by decide +kernel)) ggX8_adds_X8_isSender
set_option maxRecDepth 20000 in
theorem ggX8_adds_X8_within : GoodIn wsX8_adds wsX8_within := goodIn_r _ [8] (by decide +kernel) (by decide +kernel)
set_option maxRecDepth 20000 in
theorem gX8_adds_X8_within : GoodIn wsX8_adds (va_wsS RX8 29 yX8_within wsX8_within) := goodIn_app (goodIn_of _ (by decide +kernel)) ggX8_adds_X8_within
set_option maxRecDepth 20000 in
theorem ggX8_adds_X8_letGo : GoodIn wsX8_adds wsX8_letGo := goodIn_r _ [12, 1, 13, 14, 15, 4, 16, 17, 18, 19, 20, 21, 22, 23, 24, 25, 26, 27, 28, 29, 30, 31, 32, 33, 34, 35, 36] (by decide +kernel) (by decide +kernel)
set_option maxRecDepth 20000 in
theorem gX8_adds_X8_letGo : GoodIn wsX8_adds (wsV RX8 75 RX8 yX8_letGo wsX8_letGo) := goodIn_app (goodIn_of _ (by decide +kernel)) ggX8_adds_X8_letGo
theorem dX8_adds_0 : decode cX8_adds 0 = .ok (.iload_n 1, 1) := by decide +kernel
theorem dX8_adds_1 : decode cX8_adds 1 = .ok (.invokestatic 95, 3) := by decide +kernel
theorem dX8_adds_4 : decode cX8_adds 4 = .ok (.ifCond .ne 5, 3) := by decide +kernel
theorem dX8_adds_7 : decode cX8_adds 7 = .ok (.iconst (-1), 1) := by decide +kernel
theorem dX8_adds_8 : decode cX8_adds 8 = .ok (.ireturn, 1) := by decide +kernel
theorem dX8_adds_9 : decode cX8_adds 9 = .ok (.iload_n 2, 1) := by decide +kernel
theorem dX8_adds_10 : decode cX8_adds 10 = .ok (.iconst 0, 1) := by decide +kernel
theorem dX8_adds_11 : decode cX8_adds 11 = .ok (.bipush 15, 2) := by decide +kernel
theorem dX8_adds_13 : decode cX8_adds 13 = .ok (.invokestatic 29, 3) := by decide +kernel
theorem dX8_adds_16 : decode cX8_adds 16 = .ok (.ifCond .ne 6, 3) := by decide +kernel
theorem dX8_adds_19 : decode cX8_adds 19 = .ok (.bipush (-2), 2) := by decide +kernel
theorem dX8_adds_21 : decode cX8_adds 21 = .ok (.ireturn, 1) := by decide +kernel
theorem dX8_adds_22 : decode cX8_adds 22 = .ok (.aload_n 0, 1) := by decide +kernel
theorem dX8_adds_23 : decode cX8_adds 23 = .ok (.getfield 7, 3) := by decide +kernel
theorem dX8_adds_26 : decode cX8_adds 26 = .ok (.bipush 11, 2) := by decide +kernel
theorem dX8_adds_28 : decode cX8_adds 28 = .ok (.iload_n 1, 1) := by decide +kernel
theorem dX8_adds_29 : decode cX8_adds 29 = .ok (.iadd, 1) := by decide +kernel
theorem dX8_adds_30 : decode cX8_adds 30 = .ok (.iaload, 1) := by decide +kernel
theorem dX8_adds_31 : decode cX8_adds 31 = .ok (.bipush 20, 2) := by decide +kernel
theorem dX8_adds_33 : decode cX8_adds 33 = .ok (.if_icmp .ne 6, 3) := by decide +kernel
theorem dX8_adds_36 : decode cX8_adds 36 = .ok (.bipush (-3), 2) := by decide +kernel
theorem dX8_adds_38 : decode cX8_adds 38 = .ok (.ireturn, 1) := by decide +kernel
theorem dX8_adds_39 : decode cX8_adds 39 = .ok (.aload_n 0, 1) := by decide +kernel
theorem dX8_adds_40 : decode cX8_adds 40 = .ok (.getfield 7, 3) := by decide +kernel
theorem dX8_adds_43 : decode cX8_adds 43 = .ok (.bipush 109, 2) := by decide +kernel
theorem dX8_adds_45 : decode cX8_adds 45 = .ok (.bipush 20, 2) := by decide +kernel
theorem dX8_adds_47 : decode cX8_adds 47 = .ok (.iload_n 1, 1) := by decide +kernel
theorem dX8_adds_48 : decode cX8_adds 48 = .ok (.imul, 1) := by decide +kernel
theorem dX8_adds_49 : decode cX8_adds 49 = .ok (.iadd, 1) := by decide +kernel
theorem dX8_adds_50 : decode cX8_adds 50 = .ok (.aload_n 0, 1) := by decide +kernel
theorem dX8_adds_51 : decode cX8_adds 51 = .ok (.getfield 7, 3) := by decide +kernel
theorem dX8_adds_54 : decode cX8_adds 54 = .ok (.bipush 11, 2) := by decide +kernel
theorem dX8_adds_56 : decode cX8_adds 56 = .ok (.iload_n 1, 1) := by decide +kernel
theorem dX8_adds_57 : decode cX8_adds 57 = .ok (.iadd, 1) := by decide +kernel
theorem dX8_adds_58 : decode cX8_adds 58 = .ok (.iaload, 1) := by decide +kernel
theorem dX8_adds_59 : decode cX8_adds 59 = .ok (.iadd, 1) := by decide +kernel
theorem dX8_adds_60 : decode cX8_adds 60 = .ok (.iload_n 2, 1) := by decide +kernel
theorem dX8_adds_61 : decode cX8_adds 61 = .ok (.iastore, 1) := by decide +kernel
theorem dX8_adds_62 : decode cX8_adds 62 = .ok (.aload_n 0, 1) := by decide +kernel
theorem dX8_adds_63 : decode cX8_adds 63 = .ok (.getfield 7, 3) := by decide +kernel
theorem dX8_adds_66 : decode cX8_adds 66 = .ok (.bipush 11, 2) := by decide +kernel
theorem dX8_adds_68 : decode cX8_adds 68 = .ok (.iload_n 1, 1) := by decide +kernel
theorem dX8_adds_69 : decode cX8_adds 69 = .ok (.iadd, 1) := by decide +kernel
theorem dX8_adds_70 : decode cX8_adds 70 = .ok (.dup2, 1) := by decide +kernel
theorem dX8_adds_71 : decode cX8_adds 71 = .ok (.iaload, 1) := by decide +kernel
theorem dX8_adds_72 : decode cX8_adds 72 = .ok (.iconst 1, 1) := by decide +kernel
theorem dX8_adds_73 : decode cX8_adds 73 = .ok (.iadd, 1) := by decide +kernel
theorem dX8_adds_74 : decode cX8_adds 74 = .ok (.iastore, 1) := by decide +kernel
theorem dX8_adds_75 : decode cX8_adds 75 = .ok (.aload_n 0, 1) := by decide +kernel
theorem dX8_adds_76 : decode cX8_adds 76 = .ok (.invokevirtual 75, 3) := by decide +kernel
theorem dX8_adds_79 : decode cX8_adds 79 = .ok (.aload_n 0, 1) := by decide +kernel
theorem dX8_adds_80 : decode cX8_adds 80 = .ok (.getfield 7, 3) := by decide +kernel
theorem dX8_adds_83 : decode cX8_adds 83 = .ok (.bipush 11, 2) := by decide +kernel
theorem dX8_adds_85 : decode cX8_adds 85 = .ok (.iload_n 1, 1) := by decide +kernel
theorem dX8_adds_86 : decode cX8_adds 86 = .ok (.iadd, 1) := by decide +kernel
theorem dX8_adds_87 : decode cX8_adds 87 = .ok (.iaload, 1) := by decide +kernel
theorem dX8_adds_88 : decode cX8_adds 88 = .ok (.ireturn, 1) := by decide +kernel
set_option maxRecDepth 20000 in
theorem ggX8_runs_X8_within : GoodIn wsX8_runs wsX8_within := goodIn_r _ [6] (by decide +kernel) (by decide +kernel)
set_option maxRecDepth 20000 in
theorem gX8_runs_X8_within : GoodIn wsX8_runs (va_wsS RX8 29 yX8_within wsX8_within) := goodIn_app (goodIn_of _ (by decide +kernel)) ggX8_runs_X8_within
set_option maxRecDepth 20000 in
theorem ggX8_runs_X8_goTo : GoodIn wsX8_runs wsX8_goTo := goodIn_r _ [10, 1, 11, 12, 13, 5, 14, 15, 16, 17, 18, 19, 20, 21, 22, 23, 24, 25, 26, 27, 28, 29, 30, 31, 32, 33, 34, 35, 36, 37, 38, 39, 40, 41, 42, 43, 44, 45, 46, 47, 48, 49, 50, 51, 52, 53, 54, 55, 56, 57, 58, 59, 60, 61, 62, 63, 64, 65, 66, 67, 68, 69, 70, 71, 72, 73, 74] (by decide +kernel) (by decide +kernel)
set_option maxRecDepth 20000 in
theorem gX8_runs_X8_goTo : GoodIn wsX8_runs (wsV RX8 100 RX8 yX8_goTo wsX8_goTo) := goodIn_app (goodIn_of _ (by decide +kernel)) ggX8_runs_X8_goTo
theorem dX8_runs_0 : decode cX8_runs 0 = .ok (.iload_n 1, 1) := by decide +kernel
theorem dX8_runs_1 : decode cX8_runs 1 = .ok (.iconst 1, 1) := by decide +kernel
theorem dX8_runs_2 : decode cX8_runs 2 = .ok (.sipush 1000, 3) := by decide +kernel
theorem dX8_runs_5 : decode cX8_runs 5 = .ok (.invokestatic 29, 3) := by decide +kernel
theorem dX8_runs_8 : decode cX8_runs 8 = .ok (.ifCond .ne 6, 3) := by decide +kernel
theorem dX8_runs_11 : decode cX8_runs 11 = .ok (.bipush (-2), 2) := by decide +kernel
theorem dX8_runs_13 : decode cX8_runs 13 = .ok (.ireturn, 1) := by decide +kernel
theorem dX8_runs_14 : decode cX8_runs 14 = .ok (.aload_n 0, 1) := by decide +kernel
theorem dX8_runs_15 : decode cX8_runs 15 = .ok (.getfield 7, 3) := by decide +kernel
theorem dX8_runs_18 : decode cX8_runs 18 = .ok (.iconst 4, 1) := by decide +kernel
theorem dX8_runs_19 : decode cX8_runs 19 = .ok (.iaload, 1) := by decide +kernel
theorem dX8_runs_20 : decode cX8_runs 20 = .ok (.iload_n 1, 1) := by decide +kernel
theorem dX8_runs_21 : decode cX8_runs 21 = .ok (.iadd, 1) := by decide +kernel
theorem dX8_runs_22 : decode cX8_runs 22 = .ok (.ldc 99, 2) := by decide +kernel
theorem dX8_runs_24 : decode cX8_runs 24 = .ok (.if_icmp .le 6, 3) := by decide +kernel
theorem dX8_runs_27 : decode cX8_runs 27 = .ok (.bipush (-3), 2) := by decide +kernel
theorem dX8_runs_29 : decode cX8_runs 29 = .ok (.ireturn, 1) := by decide +kernel
theorem dX8_runs_30 : decode cX8_runs 30 = .ok (.aload_n 0, 1) := by decide +kernel
theorem dX8_runs_31 : decode cX8_runs 31 = .ok (.getfield 7, 3) := by decide +kernel
theorem dX8_runs_34 : decode cX8_runs 34 = .ok (.iconst 5, 1) := by decide +kernel
theorem dX8_runs_35 : decode cX8_runs 35 = .ok (.iaload, 1) := by decide +kernel
theorem dX8_runs_36 : decode cX8_runs 36 = .ok (.istore_n 2, 1) := by decide +kernel
theorem dX8_runs_37 : decode cX8_runs 37 = .ok (.aload_n 0, 1) := by decide +kernel
theorem dX8_runs_38 : decode cX8_runs 38 = .ok (.aload_n 0, 1) := by decide +kernel
theorem dX8_runs_39 : decode cX8_runs 39 = .ok (.getfield 7, 3) := by decide +kernel
theorem dX8_runs_42 : decode cX8_runs 42 = .ok (.iconst 4, 1) := by decide +kernel
theorem dX8_runs_43 : decode cX8_runs 43 = .ok (.iaload, 1) := by decide +kernel
theorem dX8_runs_44 : decode cX8_runs 44 = .ok (.iload_n 1, 1) := by decide +kernel
theorem dX8_runs_45 : decode cX8_runs 45 = .ok (.iadd, 1) := by decide +kernel
theorem dX8_runs_46 : decode cX8_runs 46 = .ok (.invokevirtual 100, 3) := by decide +kernel
theorem dX8_runs_49 : decode cX8_runs 49 = .ok (.aload_n 0, 1) := by decide +kernel
theorem dX8_runs_50 : decode cX8_runs 50 = .ok (.getfield 7, 3) := by decide +kernel
theorem dX8_runs_53 : decode cX8_runs 53 = .ok (.iconst 5, 1) := by decide +kernel
theorem dX8_runs_54 : decode cX8_runs 54 = .ok (.iaload, 1) := by decide +kernel
theorem dX8_runs_55 : decode cX8_runs 55 = .ok (.iload_n 2, 1) := by decide +kernel
theorem dX8_runs_56 : decode cX8_runs 56 = .ok (.isub, 1) := by decide +kernel
theorem dX8_runs_57 : decode cX8_runs 57 = .ok (.ireturn, 1) := by decide +kernel
set_option maxRecDepth 20000 in
theorem ggX8_setsDelay_X8_isLink : GoodIn wsX8_setsDelay wsX8_isLink := goodIn_r _ [6, 1, 7, 8, 5, 9, 13, 14, 15, 16, 17, 18, 19, 20, 21, 22, 23, 24] (by decide +kernel) (by decide +kernel)
set_option maxRecDepth 20000 in
theorem gX8_setsDelay_X8_isLink : GoodIn wsX8_setsDelay (wsV RX8 103 RX8 yX8_isLink wsX8_isLink) := goodIn_app (goodIn_of _ (by decide +kernel)) ggX8_setsDelay_X8_isLink
set_option maxRecDepth 20000 in
theorem ggX8_setsDelay_X8_isWire : GoodIn wsX8_setsDelay wsX8_isWire := goodIn_r _ [12, 7, 8, 5, 9] (by decide +kernel) (by decide +kernel)
set_option maxRecDepth 20000 in
theorem gX8_setsDelay_X8_isWire : GoodIn wsX8_setsDelay (va_wsS RX8 106 yX8_isWire wsX8_isWire) := goodIn_app (goodIn_of _ (by decide +kernel)) ggX8_setsDelay_X8_isWire
set_option maxRecDepth 20000 in
theorem ggX8_setsDelay_X8_within : GoodIn wsX8_setsDelay wsX8_within := goodIn_r _ [9] (by decide +kernel) (by decide +kernel)
set_option maxRecDepth 20000 in
theorem gX8_setsDelay_X8_within : GoodIn wsX8_setsDelay (va_wsS RX8 29 yX8_within wsX8_within) := goodIn_app (goodIn_of _ (by decide +kernel)) ggX8_setsDelay_X8_within
theorem dX8_setsDelay_0 : decode cX8_setsDelay 0 = .ok (.aload_n 0, 1) := by decide +kernel
theorem dX8_setsDelay_1 : decode cX8_setsDelay 1 = .ok (.iload_n 1, 1) := by decide +kernel
theorem dX8_setsDelay_2 : decode cX8_setsDelay 2 = .ok (.invokevirtual 103, 3) := by decide +kernel
theorem dX8_setsDelay_5 : decode cX8_setsDelay 5 = .ok (.ifCond .eq 10, 3) := by decide +kernel
theorem dX8_setsDelay_8 : decode cX8_setsDelay 8 = .ok (.iload_n 2, 1) := by decide +kernel
theorem dX8_setsDelay_9 : decode cX8_setsDelay 9 = .ok (.invokestatic 106, 3) := by decide +kernel
theorem dX8_setsDelay_12 : decode cX8_setsDelay 12 = .ok (.ifCond .ne 5, 3) := by decide +kernel
theorem dX8_setsDelay_15 : decode cX8_setsDelay 15 = .ok (.iconst (-1), 1) := by decide +kernel
theorem dX8_setsDelay_16 : decode cX8_setsDelay 16 = .ok (.ireturn, 1) := by decide +kernel
theorem dX8_setsDelay_17 : decode cX8_setsDelay 17 = .ok (.iload_n 3, 1) := by decide +kernel
theorem dX8_setsDelay_18 : decode cX8_setsDelay 18 = .ok (.iconst 1, 1) := by decide +kernel
theorem dX8_setsDelay_19 : decode cX8_setsDelay 19 = .ok (.bipush 20, 2) := by decide +kernel
theorem dX8_setsDelay_21 : decode cX8_setsDelay 21 = .ok (.invokestatic 29, 3) := by decide +kernel
theorem dX8_setsDelay_24 : decode cX8_setsDelay 24 = .ok (.ifCond .ne 6, 3) := by decide +kernel
theorem dX8_setsDelay_27 : decode cX8_setsDelay 27 = .ok (.bipush (-2), 2) := by decide +kernel
theorem dX8_setsDelay_29 : decode cX8_setsDelay 29 = .ok (.ireturn, 1) := by decide +kernel
theorem dX8_setsDelay_30 : decode cX8_setsDelay 30 = .ok (.bipush 13, 2) := by decide +kernel
theorem dX8_setsDelay_32 : decode cX8_setsDelay 32 = .ok (.iconst 3, 1) := by decide +kernel
theorem dX8_setsDelay_33 : decode cX8_setsDelay 33 = .ok (.iload_n 1, 1) := by decide +kernel
theorem dX8_setsDelay_34 : decode cX8_setsDelay 34 = .ok (.imul, 1) := by decide +kernel
theorem dX8_setsDelay_35 : decode cX8_setsDelay 35 = .ok (.iadd, 1) := by decide +kernel
theorem dX8_setsDelay_36 : decode cX8_setsDelay 36 = .ok (.iload_n 2, 1) := by decide +kernel
theorem dX8_setsDelay_37 : decode cX8_setsDelay 37 = .ok (.iadd, 1) := by decide +kernel
theorem dX8_setsDelay_38 : decode cX8_setsDelay 38 = .ok (.istore 4, 2) := by decide +kernel
theorem dX8_setsDelay_40 : decode cX8_setsDelay 40 = .ok (.aload_n 0, 1) := by decide +kernel
theorem dX8_setsDelay_41 : decode cX8_setsDelay 41 = .ok (.getfield 7, 3) := by decide +kernel
theorem dX8_setsDelay_44 : decode cX8_setsDelay 44 = .ok (.iload 4, 2) := by decide +kernel
theorem dX8_setsDelay_46 : decode cX8_setsDelay 46 = .ok (.iaload, 1) := by decide +kernel
theorem dX8_setsDelay_47 : decode cX8_setsDelay 47 = .ok (.istore 5, 2) := by decide +kernel
theorem dX8_setsDelay_49 : decode cX8_setsDelay 49 = .ok (.aload_n 0, 1) := by decide +kernel
theorem dX8_setsDelay_50 : decode cX8_setsDelay 50 = .ok (.getfield 7, 3) := by decide +kernel
theorem dX8_setsDelay_53 : decode cX8_setsDelay 53 = .ok (.iload 4, 2) := by decide +kernel
theorem dX8_setsDelay_55 : decode cX8_setsDelay 55 = .ok (.iload_n 3, 1) := by decide +kernel
theorem dX8_setsDelay_56 : decode cX8_setsDelay 56 = .ok (.iastore, 1) := by decide +kernel
theorem dX8_setsDelay_57 : decode cX8_setsDelay 57 = .ok (.iload 5, 2) := by decide +kernel
theorem dX8_setsDelay_59 : decode cX8_setsDelay 59 = .ok (.iload_n 3, 1) := by decide +kernel
theorem dX8_setsDelay_60 : decode cX8_setsDelay 60 = .ok (.if_icmp .ne 8, 3) := by decide +kernel
theorem dX8_setsDelay_63 : decode cX8_setsDelay 63 = .ok (.bipush (-5), 2) := by decide +kernel
theorem dX8_setsDelay_65 : decode cX8_setsDelay 65 = .ok (.goto 5, 3) := by decide +kernel
theorem dX8_setsDelay_68 : decode cX8_setsDelay 68 = .ok (.iload 5, 2) := by decide +kernel
theorem dX8_setsDelay_70 : decode cX8_setsDelay 70 = .ok (.ireturn, 1) := by decide +kernel
set_option maxRecDepth 20000 in
theorem ggX8_build_X8_within : GoodIn wsX8_build wsX8_within := goodIn_r _ [5] (by decide +kernel) (by decide +kernel)
set_option maxRecDepth 20000 in
theorem gX8_build_X8_within : GoodIn wsX8_build (va_wsS RX8 29 yX8_within wsX8_within) := goodIn_app (goodIn_of _ (by decide +kernel)) ggX8_build_X8_within
set_option maxRecDepth 20000 in
theorem ggX8_build_X8_record : GoodIn wsX8_build wsX8_record := goodIn_r _ [9, 10, 11, 12, 4, 13, 14, 1, 15, 16, 17, 18, 19, 20, 29, 30, 31, 32, 33, 34, 35, 36, 37, 38, 39, 40] (by decide +kernel) (by decide +kernel)
set_option maxRecDepth 20000 in
theorem gX8_build_X8_record : GoodIn wsX8_build (wsV RX8 47 RX8 yX8_record wsX8_record) := goodIn_app (goodIn_of _ (by decide +kernel)) ggX8_build_X8_record
set_option maxRecDepth 20000 in
theorem ggX8_build_X8_fullStages : GoodIn wsX8_build wsX8_fullStages := goodIn_r _ [24, 1, 29, 30, 31, 32, 33, 34, 35, 36, 37, 38, 39, 40] (by decide +kernel) (by decide +kernel)
set_option maxRecDepth 20000 in
theorem gX8_build_X8_fullStages : GoodIn wsX8_build (wsV RX8 109 RX8 yX8_fullStages wsX8_fullStages) := goodIn_app (goodIn_of _ (by decide +kernel)) ggX8_build_X8_fullStages
set_option maxRecDepth 20000 in
theorem ggX8_build_X8_clean : GoodIn wsX8_build wsX8_clean := goodIn_r _ [28, 1, 29, 30, 31, 32, 33, 34, 35, 36, 37, 38, 39, 40] (by decide +kernel) (by decide +kernel)
set_option maxRecDepth 20000 in
theorem gX8_build_X8_clean : GoodIn wsX8_build (wsV RX8 25 RX8 yX8_clean wsX8_clean) := goodIn_app (goodIn_of _ (by decide +kernel)) ggX8_build_X8_clean
theorem dX8_build_0 : decode cX8_build 0 = .ok (.iload_n 1, 1) := by decide +kernel
theorem dX8_build_1 : decode cX8_build 1 = .ok (.iconst 1, 1) := by decide +kernel
theorem dX8_build_2 : decode cX8_build 2 = .ok (.bipush 6, 2) := by decide +kernel
theorem dX8_build_4 : decode cX8_build 4 = .ok (.invokestatic 29, 3) := by decide +kernel
theorem dX8_build_7 : decode cX8_build 7 = .ok (.ifCond .ne 6, 3) := by decide +kernel
theorem dX8_build_10 : decode cX8_build 10 = .ok (.bipush (-2), 2) := by decide +kernel
theorem dX8_build_12 : decode cX8_build 12 = .ok (.ireturn, 1) := by decide +kernel
theorem dX8_build_13 : decode cX8_build 13 = .ok (.aload_n 0, 1) := by decide +kernel
theorem dX8_build_14 : decode cX8_build 14 = .ok (.invokevirtual 47, 3) := by decide +kernel
theorem dX8_build_17 : decode cX8_build 17 = .ok (.aload_n 0, 1) := by decide +kernel
theorem dX8_build_18 : decode cX8_build 18 = .ok (.getfield 7, 3) := by decide +kernel
theorem dX8_build_21 : decode cX8_build 21 = .ok (.bipush 11, 2) := by decide +kernel
theorem dX8_build_23 : decode cX8_build 23 = .ok (.iaload, 1) := by decide +kernel
theorem dX8_build_24 : decode cX8_build 24 = .ok (.aload_n 0, 1) := by decide +kernel
theorem dX8_build_25 : decode cX8_build 25 = .ok (.getfield 7, 3) := by decide +kernel
theorem dX8_build_28 : decode cX8_build 28 = .ok (.bipush 12, 2) := by decide +kernel
theorem dX8_build_30 : decode cX8_build 30 = .ok (.iaload, 1) := by decide +kernel
theorem dX8_build_31 : decode cX8_build 31 = .ok (.iadd, 1) := by decide +kernel
theorem dX8_build_32 : decode cX8_build 32 = .ok (.aload_n 0, 1) := by decide +kernel
theorem dX8_build_33 : decode cX8_build 33 = .ok (.invokevirtual 109, 3) := by decide +kernel
theorem dX8_build_36 : decode cX8_build 36 = .ok (.iadd, 1) := by decide +kernel
theorem dX8_build_37 : decode cX8_build 37 = .ok (.istore_n 2, 1) := by decide +kernel
theorem dX8_build_38 : decode cX8_build 38 = .ok (.aload_n 0, 1) := by decide +kernel
theorem dX8_build_39 : decode cX8_build 39 = .ok (.iload_n 1, 1) := by decide +kernel
theorem dX8_build_40 : decode cX8_build 40 = .ok (.invokevirtual 25, 3) := by decide +kernel
theorem dX8_build_43 : decode cX8_build 43 = .ok (.iload_n 2, 1) := by decide +kernel
theorem dX8_build_44 : decode cX8_build 44 = .ok (.ireturn, 1) := by decide +kernel
set_option maxRecDepth 20000 in
theorem ggX8_recorded_X8_push : GoodIn wsX8_recorded wsX8_push := goodIn_r _ [5, 6, 7, 8, 9, 10, 11, 12, 13, 14, 15, 16, 17, 18, 19, 20] (by decide +kernel) (by decide +kernel)
set_option maxRecDepth 20000 in
theorem gX8_recorded_X8_push : GoodIn wsX8_recorded (wsV RX8 40 RX8 yX8_push wsX8_push) := goodIn_app (goodIn_of _ (by decide +kernel)) ggX8_recorded_X8_push
theorem dX8_recorded_0 : decode cX8_recorded 0 = .ok (.iload_n 1, 1) := by decide +kernel
theorem dX8_recorded_1 : decode cX8_recorded 1 = .ok (.ifCond .lt 7, 3) := by decide +kernel
theorem dX8_recorded_4 : decode cX8_recorded 4 = .ok (.aload_n 0, 1) := by decide +kernel
theorem dX8_recorded_5 : decode cX8_recorded 5 = .ok (.invokevirtual 40, 3) := by decide +kernel
theorem dX8_recorded_8 : decode cX8_recorded 8 = .ok (.iload_n 1, 1) := by decide +kernel
theorem dX8_recorded_9 : decode cX8_recorded 9 = .ok (.ireturn, 1) := by decide +kernel
set_option maxRecDepth 20000 in
theorem ggX8_add_X8_putAside : GoodIn wsX8_add wsX8_putAside := goodIn_r _ [5, 6, 7, 44, 45, 46, 47, 48, 49, 50, 51, 52, 53, 54, 55] (by decide +kernel) (by decide +kernel)
set_option maxRecDepth 20000 in
theorem gX8_add_X8_putAside : GoodIn wsX8_add (wsV RX8 37 RX8 yX8_putAside wsX8_putAside) := goodIn_app (goodIn_of _ (by decide +kernel)) ggX8_add_X8_putAside
set_option maxRecDepth 20000 in
theorem ggX8_add_X8_adds : GoodIn wsX8_add wsX8_adds := goodIn_r _ [11, 7, 12, 13, 4, 14, 15, 16, 17, 18, 19, 20, 21, 22, 23, 24, 25, 26, 27, 28, 29, 30, 31, 32, 33, 44, 45, 46, 47, 48, 49, 50, 51, 52, 53, 54, 55] (by decide +kernel) (by decide +kernel)
set_option maxRecDepth 20000 in
theorem gX8_add_X8_adds : GoodIn wsX8_add (wsV RX8 112 RX8 yX8_adds wsX8_adds) := goodIn_app (goodIn_of _ (by decide +kernel)) ggX8_add_X8_adds
set_option maxRecDepth 20000 in
theorem ggX8_add_X8_recorded : GoodIn wsX8_add wsX8_recorded := goodIn_r _ [37, 38, 39, 40, 4, 41, 42, 43, 6, 44, 45, 46, 47, 48, 49, 50, 51, 52, 53, 54, 55] (by decide +kernel) (by decide +kernel)
set_option maxRecDepth 20000 in
theorem gX8_add_X8_recorded : GoodIn wsX8_add (wsV RX8 115 RX8 yX8_recorded wsX8_recorded) := goodIn_app (goodIn_of _ (by decide +kernel)) ggX8_add_X8_recorded
theorem dX8_add_0 : decode cX8_add 0 = .ok (.aload_n 0, 1) := by decide +kernel
theorem dX8_add_1 : decode cX8_add 1 = .ok (.invokevirtual 37, 3) := by decide +kernel
theorem dX8_add_4 : decode cX8_add 4 = .ok (.aload_n 0, 1) := by decide +kernel
theorem dX8_add_5 : decode cX8_add 5 = .ok (.aload_n 0, 1) := by decide +kernel
theorem dX8_add_6 : decode cX8_add 6 = .ok (.iload_n 1, 1) := by decide +kernel
theorem dX8_add_7 : decode cX8_add 7 = .ok (.iload_n 2, 1) := by decide +kernel
theorem dX8_add_8 : decode cX8_add 8 = .ok (.invokevirtual 112, 3) := by decide +kernel
theorem dX8_add_11 : decode cX8_add 11 = .ok (.invokevirtual 115, 3) := by decide +kernel
theorem dX8_add_14 : decode cX8_add 14 = .ok (.ireturn, 1) := by decide +kernel
set_option maxRecDepth 20000 in
theorem ggX8_run_X8_putAside : GoodIn wsX8_run wsX8_putAside := goodIn_r _ [5, 6, 7, 82, 83, 84, 85, 86, 87, 88, 89, 90, 91, 92, 93] (by decide +kernel) (by decide +kernel)
set_option maxRecDepth 20000 in
theorem gX8_run_X8_putAside : GoodIn wsX8_run (wsV RX8 37 RX8 yX8_putAside wsX8_putAside) := goodIn_app (goodIn_of _ (by decide +kernel)) ggX8_run_X8_putAside
set_option maxRecDepth 20000 in
theorem ggX8_run_X8_runs : GoodIn wsX8_run wsX8_runs := goodIn_r _ [11, 7, 12, 13, 14, 4, 15, 16, 17, 18, 19, 20, 21, 22, 23, 24, 25, 26, 27, 28, 29, 30, 31, 32, 33, 34, 35, 36, 37, 38, 39, 40, 41, 42, 43, 44, 45, 46, 47, 48, 49, 50, 51, 52, 53, 54, 55, 56, 57, 58, 59, 60, 61, 62, 63, 64, 65, 66, 67, 68, 69, 70, 71, 82, 83, 84, 85, 86, 87, 88, 89, 90, 91, 92, 93] (by decide +kernel) (by decide +kernel)
set_option maxRecDepth 20000 in
theorem gX8_run_X8_runs : GoodIn wsX8_run (wsV RX8 118 RX8 yX8_runs wsX8_runs) := goodIn_app (goodIn_of _ (by decide +kernel)) ggX8_run_X8_runs
set_option maxRecDepth 20000 in
theorem ggX8_run_X8_recorded : GoodIn wsX8_run wsX8_recorded := goodIn_r _ [75, 76, 77, 78, 4, 79, 80, 81, 6, 82, 83, 84, 85, 86, 87, 88, 89, 90, 91, 92, 93] (by decide +kernel) (by decide +kernel)
set_option maxRecDepth 20000 in
theorem gX8_run_X8_recorded : GoodIn wsX8_run (wsV RX8 115 RX8 yX8_recorded wsX8_recorded) := goodIn_app (goodIn_of _ (by decide +kernel)) ggX8_run_X8_recorded
theorem dX8_run_0 : decode cX8_run 0 = .ok (.aload_n 0, 1) := by decide +kernel
theorem dX8_run_1 : decode cX8_run 1 = .ok (.invokevirtual 37, 3) := by decide +kernel
theorem dX8_run_4 : decode cX8_run 4 = .ok (.aload_n 0, 1) := by decide +kernel
theorem dX8_run_5 : decode cX8_run 5 = .ok (.aload_n 0, 1) := by decide +kernel
theorem dX8_run_6 : decode cX8_run 6 = .ok (.iload_n 1, 1) := by decide +kernel
theorem dX8_run_7 : decode cX8_run 7 = .ok (.invokevirtual 118, 3) := by decide +kernel
theorem dX8_run_10 : decode cX8_run 10 = .ok (.invokevirtual 115, 3) := by decide +kernel
theorem dX8_run_13 : decode cX8_run 13 = .ok (.ireturn, 1) := by decide +kernel
set_option maxRecDepth 20000 in
theorem ggX8_finish_X8_putAside : GoodIn wsX8_finish wsX8_putAside := goodIn_r _ [7, 8, 1, 75, 76, 77, 78, 79, 80, 81, 82, 83, 84, 85, 86] (by decide +kernel) (by decide +kernel)
set_option maxRecDepth 20000 in
theorem gX8_finish_X8_putAside : GoodIn wsX8_finish (wsV RX8 37 RX8 yX8_putAside wsX8_putAside) := goodIn_app (goodIn_of _ (by decide +kernel)) ggX8_finish_X8_putAside
set_option maxRecDepth 20000 in
theorem ggX8_finish_X8_settle : GoodIn wsX8_finish wsX8_settle := goodIn_r _ [12, 1, 13, 14, 15, 6, 16, 17, 18, 19, 20, 21, 22, 23, 24, 25, 26, 27, 28, 29, 30, 31, 32, 33, 34, 35, 36, 37, 38, 39, 40, 41, 42, 43, 44, 45, 46, 47, 48, 49, 50, 51, 52, 53, 54, 55, 56, 57, 58, 59, 60, 61, 62, 63, 64, 75, 76, 77, 78, 79, 80, 81, 82, 83, 84, 85, 86] (by decide +kernel) (by decide +kernel)
set_option maxRecDepth 20000 in
theorem gX8_finish_X8_settle : GoodIn wsX8_finish (wsV RX8 121 RX8 yX8_settle wsX8_settle) := goodIn_app (goodIn_of _ (by decide +kernel)) ggX8_finish_X8_settle
set_option maxRecDepth 20000 in
theorem ggX8_finish_X8_takeBack : GoodIn wsX8_finish wsX8_takeBack := goodIn_r _ [68, 1, 8, 75, 76, 77, 78, 79, 80, 81, 82, 83, 84, 85, 86] (by decide +kernel) (by decide +kernel)
set_option maxRecDepth 20000 in
theorem gX8_finish_X8_takeBack : GoodIn wsX8_finish (wsV RX8 124 RX8 yX8_takeBack wsX8_takeBack) := goodIn_app (goodIn_of _ (by decide +kernel)) ggX8_finish_X8_takeBack
set_option maxRecDepth 20000 in
theorem ggX8_finish_X8_push : GoodIn wsX8_finish wsX8_push := goodIn_r _ [72, 73, 74, 8, 75, 76, 77, 78, 79, 80, 81, 82, 83, 84, 85, 86] (by decide +kernel) (by decide +kernel)
set_option maxRecDepth 20000 in
theorem gX8_finish_X8_push : GoodIn wsX8_finish (wsV RX8 40 RX8 yX8_push wsX8_push) := goodIn_app (goodIn_of _ (by decide +kernel)) ggX8_finish_X8_push
theorem dX8_finish_0 : decode cX8_finish 0 = .ok (.aload_n 0, 1) := by decide +kernel
theorem dX8_finish_1 : decode cX8_finish 1 = .ok (.getfield 7, 3) := by decide +kernel
theorem dX8_finish_4 : decode cX8_finish 4 = .ok (.bipush 10, 2) := by decide +kernel
theorem dX8_finish_6 : decode cX8_finish 6 = .ok (.iaload, 1) := by decide +kernel
theorem dX8_finish_7 : decode cX8_finish 7 = .ok (.ifCond .ne 6, 3) := by decide +kernel
theorem dX8_finish_10 : decode cX8_finish 10 = .ok (.bipush (-5), 2) := by decide +kernel
theorem dX8_finish_12 : decode cX8_finish 12 = .ok (.ireturn, 1) := by decide +kernel
theorem dX8_finish_13 : decode cX8_finish 13 = .ok (.aload_n 0, 1) := by decide +kernel
theorem dX8_finish_14 : decode cX8_finish 14 = .ok (.invokevirtual 37, 3) := by decide +kernel
theorem dX8_finish_17 : decode cX8_finish 17 = .ok (.aload_n 0, 1) := by decide +kernel
theorem dX8_finish_18 : decode cX8_finish 18 = .ok (.invokevirtual 121, 3) := by decide +kernel
theorem dX8_finish_21 : decode cX8_finish 21 = .ok (.istore_n 1, 1) := by decide +kernel
theorem dX8_finish_22 : decode cX8_finish 22 = .ok (.aload_n 0, 1) := by decide +kernel
theorem dX8_finish_23 : decode cX8_finish 23 = .ok (.getfield 7, 3) := by decide +kernel
theorem dX8_finish_26 : decode cX8_finish 26 = .ok (.iconst 4, 1) := by decide +kernel
theorem dX8_finish_27 : decode cX8_finish 27 = .ok (.iaload, 1) := by decide +kernel
theorem dX8_finish_28 : decode cX8_finish 28 = .ok (.ldc 99, 2) := by decide +kernel
theorem dX8_finish_30 : decode cX8_finish 30 = .ok (.if_icmp .le 10, 3) := by decide +kernel
theorem dX8_finish_33 : decode cX8_finish 33 = .ok (.aload_n 0, 1) := by decide +kernel
theorem dX8_finish_34 : decode cX8_finish 34 = .ok (.invokevirtual 124, 3) := by decide +kernel
theorem dX8_finish_37 : decode cX8_finish 37 = .ok (.bipush (-3), 2) := by decide +kernel
theorem dX8_finish_39 : decode cX8_finish 39 = .ok (.ireturn, 1) := by decide +kernel
theorem dX8_finish_40 : decode cX8_finish 40 = .ok (.aload_n 0, 1) := by decide +kernel
theorem dX8_finish_41 : decode cX8_finish 41 = .ok (.invokevirtual 40, 3) := by decide +kernel
theorem dX8_finish_44 : decode cX8_finish 44 = .ok (.iload_n 1, 1) := by decide +kernel
theorem dX8_finish_45 : decode cX8_finish 45 = .ok (.ireturn, 1) := by decide +kernel
set_option maxRecDepth 20000 in
theorem ggX8_setDelay_X8_putAside : GoodIn wsX8_setDelay wsX8_putAside := goodIn_r _ [5, 6, 7, 32, 33, 34, 35, 36, 37, 38, 39, 40, 41, 42, 43] (by decide +kernel) (by decide +kernel)
set_option maxRecDepth 20000 in
theorem gX8_setDelay_X8_putAside : GoodIn wsX8_setDelay (wsV RX8 37 RX8 yX8_putAside wsX8_putAside) := goodIn_app (goodIn_of _ (by decide +kernel)) ggX8_setDelay_X8_putAside
set_option maxRecDepth 20000 in
theorem ggX8_setDelay_X8_setsDelay : GoodIn wsX8_setDelay wsX8_setsDelay := goodIn_r _ [11, 7, 12, 13, 14, 4, 15, 16, 17, 18, 19, 20, 21, 32, 33, 34, 35, 36, 37, 38, 39, 40, 41, 42, 43] (by decide +kernel) (by decide +kernel)
set_option maxRecDepth 20000 in
theorem gX8_setDelay_X8_setsDelay : GoodIn wsX8_setDelay (wsV RX8 127 RX8 yX8_setsDelay wsX8_setsDelay) := goodIn_app (goodIn_of _ (by decide +kernel)) ggX8_setDelay_X8_setsDelay
set_option maxRecDepth 20000 in
theorem ggX8_setDelay_X8_recorded : GoodIn wsX8_setDelay wsX8_recorded := goodIn_r _ [25, 26, 27, 28, 4, 29, 30, 31, 6, 32, 33, 34, 35, 36, 37, 38, 39, 40, 41, 42, 43] (by decide +kernel) (by decide +kernel)
set_option maxRecDepth 20000 in
theorem gX8_setDelay_X8_recorded : GoodIn wsX8_setDelay (wsV RX8 115 RX8 yX8_recorded wsX8_recorded) := goodIn_app (goodIn_of _ (by decide +kernel)) ggX8_setDelay_X8_recorded
theorem dX8_setDelay_0 : decode cX8_setDelay 0 = .ok (.aload_n 0, 1) := by decide +kernel
theorem dX8_setDelay_1 : decode cX8_setDelay 1 = .ok (.invokevirtual 37, 3) := by decide +kernel
theorem dX8_setDelay_4 : decode cX8_setDelay 4 = .ok (.aload_n 0, 1) := by decide +kernel
theorem dX8_setDelay_5 : decode cX8_setDelay 5 = .ok (.aload_n 0, 1) := by decide +kernel
theorem dX8_setDelay_6 : decode cX8_setDelay 6 = .ok (.iload_n 1, 1) := by decide +kernel
theorem dX8_setDelay_7 : decode cX8_setDelay 7 = .ok (.iload_n 2, 1) := by decide +kernel
theorem dX8_setDelay_8 : decode cX8_setDelay 8 = .ok (.iload_n 3, 1) := by decide +kernel
theorem dX8_setDelay_9 : decode cX8_setDelay 9 = .ok (.invokevirtual 127, 3) := by decide +kernel
theorem dX8_setDelay_12 : decode cX8_setDelay 12 = .ok (.invokevirtual 115, 3) := by decide +kernel
theorem dX8_setDelay_15 : decode cX8_setDelay 15 = .ok (.ireturn, 1) := by decide +kernel
set_option maxRecDepth 20000 in
theorem ggX8_set_X8_within : GoodIn wsX8_set wsX8_within := goodIn_r _ [5] (by decide +kernel) (by decide +kernel)
set_option maxRecDepth 20000 in
theorem gX8_set_X8_within : GoodIn wsX8_set (va_wsS RX8 29 yX8_within wsX8_within) := goodIn_app (goodIn_of _ (by decide +kernel)) ggX8_set_X8_within
set_option maxRecDepth 20000 in
theorem ggX8_set_X8_record : GoodIn wsX8_set wsX8_record := goodIn_r _ [9, 10, 11, 12, 4, 13, 14, 1, 15, 16, 17, 18, 19, 20, 21, 22, 23, 24, 25, 26, 27, 28, 29, 30, 31, 32] (by decide +kernel) (by decide +kernel)
set_option maxRecDepth 20000 in
theorem gX8_set_X8_record : GoodIn wsX8_set (wsV RX8 47 RX8 yX8_record wsX8_record) := goodIn_app (goodIn_of _ (by decide +kernel)) ggX8_set_X8_record
theorem dX8_set_0 : decode cX8_set 0 = .ok (.iload_n 1, 1) := by decide +kernel
theorem dX8_set_1 : decode cX8_set 1 = .ok (.iconst 0, 1) := by decide +kernel
theorem dX8_set_2 : decode cX8_set 2 = .ok (.iconst 2, 1) := by decide +kernel
theorem dX8_set_3 : decode cX8_set 3 = .ok (.invokestatic 29, 3) := by decide +kernel
theorem dX8_set_6 : decode cX8_set 6 = .ok (.ifCond .ne 5, 3) := by decide +kernel
theorem dX8_set_9 : decode cX8_set 9 = .ok (.iconst (-1), 1) := by decide +kernel
theorem dX8_set_10 : decode cX8_set 10 = .ok (.ireturn, 1) := by decide +kernel
theorem dX8_set_11 : decode cX8_set 11 = .ok (.iload_n 2, 1) := by decide +kernel
theorem dX8_set_12 : decode cX8_set 12 = .ok (.iconst 0, 1) := by decide +kernel
theorem dX8_set_13 : decode cX8_set 13 = .ok (.iload_n 1, 1) := by decide +kernel
theorem dX8_set_14 : decode cX8_set 14 = .ok (.iconst 2, 1) := by decide +kernel
theorem dX8_set_15 : decode cX8_set 15 = .ok (.if_icmp .ne 7, 3) := by decide +kernel
theorem dX8_set_18 : decode cX8_set 18 = .ok (.iconst 1, 1) := by decide +kernel
theorem dX8_set_19 : decode cX8_set 19 = .ok (.goto 5, 3) := by decide +kernel
theorem dX8_set_22 : decode cX8_set 22 = .ok (.bipush 20, 2) := by decide +kernel
theorem dX8_set_24 : decode cX8_set 24 = .ok (.invokestatic 29, 3) := by decide +kernel
theorem dX8_set_27 : decode cX8_set 27 = .ok (.ifCond .ne 6, 3) := by decide +kernel
theorem dX8_set_30 : decode cX8_set 30 = .ok (.bipush (-2), 2) := by decide +kernel
theorem dX8_set_32 : decode cX8_set 32 = .ok (.ireturn, 1) := by decide +kernel
theorem dX8_set_33 : decode cX8_set 33 = .ok (.aload_n 0, 1) := by decide +kernel
theorem dX8_set_34 : decode cX8_set 34 = .ok (.getfield 7, 3) := by decide +kernel
theorem dX8_set_37 : decode cX8_set 37 = .ok (.iload_n 1, 1) := by decide +kernel
theorem dX8_set_38 : decode cX8_set 38 = .ok (.iaload, 1) := by decide +kernel
theorem dX8_set_39 : decode cX8_set 39 = .ok (.istore_n 3, 1) := by decide +kernel
theorem dX8_set_40 : decode cX8_set 40 = .ok (.iload_n 3, 1) := by decide +kernel
theorem dX8_set_41 : decode cX8_set 41 = .ok (.iload_n 2, 1) := by decide +kernel
theorem dX8_set_42 : decode cX8_set 42 = .ok (.if_icmp .ne 6, 3) := by decide +kernel
theorem dX8_set_45 : decode cX8_set 45 = .ok (.bipush (-5), 2) := by decide +kernel
theorem dX8_set_47 : decode cX8_set 47 = .ok (.ireturn, 1) := by decide +kernel
theorem dX8_set_48 : decode cX8_set 48 = .ok (.aload_n 0, 1) := by decide +kernel
theorem dX8_set_49 : decode cX8_set 49 = .ok (.invokevirtual 47, 3) := by decide +kernel
theorem dX8_set_52 : decode cX8_set 52 = .ok (.aload_n 0, 1) := by decide +kernel
theorem dX8_set_53 : decode cX8_set 53 = .ok (.getfield 7, 3) := by decide +kernel
theorem dX8_set_56 : decode cX8_set 56 = .ok (.iload_n 1, 1) := by decide +kernel
theorem dX8_set_57 : decode cX8_set 57 = .ok (.iload_n 2, 1) := by decide +kernel
theorem dX8_set_58 : decode cX8_set 58 = .ok (.iastore, 1) := by decide +kernel
theorem dX8_set_59 : decode cX8_set 59 = .ok (.iload_n 3, 1) := by decide +kernel
theorem dX8_set_60 : decode cX8_set 60 = .ok (.ireturn, 1) := by decide +kernel
theorem dX8_type_0 : decode cX8_type 0 = .ok (.aload_n 0, 1) := by decide +kernel
theorem dX8_type_1 : decode cX8_type 1 = .ok (.getfield 131, 3) := by decide +kernel
theorem dX8_type_4 : decode cX8_type 4 = .ok (.bipush 60, 2) := by decide +kernel
theorem dX8_type_6 : decode cX8_type 6 = .ok (.if_icmp .ne 6, 3) := by decide +kernel
theorem dX8_type_9 : decode cX8_type 9 = .ok (.bipush (-3), 2) := by decide +kernel
theorem dX8_type_11 : decode cX8_type 11 = .ok (.ireturn, 1) := by decide +kernel
theorem dX8_type_12 : decode cX8_type 12 = .ok (.aload_n 0, 1) := by decide +kernel
theorem dX8_type_13 : decode cX8_type 13 = .ok (.getfield 22, 3) := by decide +kernel
theorem dX8_type_16 : decode cX8_type 16 = .ok (.aload_n 0, 1) := by decide +kernel
theorem dX8_type_17 : decode cX8_type 17 = .ok (.getfield 131, 3) := by decide +kernel
theorem dX8_type_20 : decode cX8_type 20 = .ok (.iload_n 1, 1) := by decide +kernel
theorem dX8_type_21 : decode cX8_type 21 = .ok (.iastore, 1) := by decide +kernel
theorem dX8_type_22 : decode cX8_type 22 = .ok (.aload_n 0, 1) := by decide +kernel
theorem dX8_type_23 : decode cX8_type 23 = .ok (.dup, 1) := by decide +kernel
theorem dX8_type_24 : decode cX8_type 24 = .ok (.getfield 131, 3) := by decide +kernel
theorem dX8_type_27 : decode cX8_type 27 = .ok (.iconst 1, 1) := by decide +kernel
theorem dX8_type_28 : decode cX8_type 28 = .ok (.iadd, 1) := by decide +kernel
theorem dX8_type_29 : decode cX8_type 29 = .ok (.putfield 131, 3) := by decide +kernel
theorem dX8_type_32 : decode cX8_type 32 = .ok (.aload_n 0, 1) := by decide +kernel
theorem dX8_type_33 : decode cX8_type 33 = .ok (.getfield 131, 3) := by decide +kernel
theorem dX8_type_36 : decode cX8_type 36 = .ok (.ireturn, 1) := by decide +kernel
theorem dX8_clearText_0 : decode cX8_clearText 0 = .ok (.aload_n 0, 1) := by decide +kernel
theorem dX8_clearText_1 : decode cX8_clearText 1 = .ok (.getfield 131, 3) := by decide +kernel
theorem dX8_clearText_4 : decode cX8_clearText 4 = .ok (.istore_n 1, 1) := by decide +kernel
theorem dX8_clearText_5 : decode cX8_clearText 5 = .ok (.aload_n 0, 1) := by decide +kernel
theorem dX8_clearText_6 : decode cX8_clearText 6 = .ok (.iconst 0, 1) := by decide +kernel
theorem dX8_clearText_7 : decode cX8_clearText 7 = .ok (.putfield 131, 3) := by decide +kernel
theorem dX8_clearText_10 : decode cX8_clearText 10 = .ok (.iload_n 1, 1) := by decide +kernel
theorem dX8_clearText_11 : decode cX8_clearText 11 = .ok (.ireturn, 1) := by decide +kernel
theorem dX8_code_0 : decode cX8_code 0 = .ok (.aload_n 0, 1) := by decide +kernel
theorem dX8_code_1 : decode cX8_code 1 = .ok (.getfield 134, 3) := by decide +kernel
theorem dX8_code_4 : decode cX8_code 4 = .ok (.aload_n 0, 1) := by decide +kernel
theorem dX8_code_5 : decode cX8_code 5 = .ok (.getfield 131, 3) := by decide +kernel
theorem dX8_code_8 : decode cX8_code 8 = .ok (.if_icmp .ge 15, 3) := by decide +kernel
theorem dX8_code_11 : decode cX8_code 11 = .ok (.aload_n 0, 1) := by decide +kernel
theorem dX8_code_12 : decode cX8_code 12 = .ok (.getfield 22, 3) := by decide +kernel
theorem dX8_code_15 : decode cX8_code 15 = .ok (.aload_n 0, 1) := by decide +kernel
theorem dX8_code_16 : decode cX8_code 16 = .ok (.getfield 134, 3) := by decide +kernel
theorem dX8_code_19 : decode cX8_code 19 = .ok (.iaload, 1) := by decide +kernel
theorem dX8_code_20 : decode cX8_code 20 = .ok (.goto 4, 3) := by decide +kernel
theorem dX8_code_23 : decode cX8_code 23 = .ok (.iconst 0, 1) := by decide +kernel
theorem dX8_code_24 : decode cX8_code 24 = .ok (.ireturn, 1) := by decide +kernel
set_option maxRecDepth 20000 in
theorem ggX8_hex_X8_within : GoodIn wsX8_hex wsX8_within := goodIn_r _ [4] (by decide +kernel) (by decide +kernel)
set_option maxRecDepth 20000 in
theorem gX8_hex_X8_within : GoodIn wsX8_hex (va_wsS RX8 29 yX8_within wsX8_within) := goodIn_app (goodIn_of _ (by decide +kernel)) ggX8_hex_X8_within
theorem dX8_hex_0 : decode cX8_hex 0 = .ok (.iload_n 0, 1) := by decide +kernel
theorem dX8_hex_1 : decode cX8_hex 1 = .ok (.bipush 48, 2) := by decide +kernel
theorem dX8_hex_3 : decode cX8_hex 3 = .ok (.bipush 57, 2) := by decide +kernel
theorem dX8_hex_5 : decode cX8_hex 5 = .ok (.invokestatic 29, 3) := by decide +kernel
theorem dX8_hex_8 : decode cX8_hex 8 = .ok (.ifCond .eq 10, 3) := by decide +kernel
theorem dX8_hex_11 : decode cX8_hex 11 = .ok (.iload_n 0, 1) := by decide +kernel
theorem dX8_hex_12 : decode cX8_hex 12 = .ok (.bipush 48, 2) := by decide +kernel
theorem dX8_hex_14 : decode cX8_hex 14 = .ok (.isub, 1) := by decide +kernel
theorem dX8_hex_15 : decode cX8_hex 15 = .ok (.goto 26, 3) := by decide +kernel
theorem dX8_hex_18 : decode cX8_hex 18 = .ok (.iload_n 0, 1) := by decide +kernel
theorem dX8_hex_19 : decode cX8_hex 19 = .ok (.bipush 97, 2) := by decide +kernel
theorem dX8_hex_21 : decode cX8_hex 21 = .ok (.bipush 102, 2) := by decide +kernel
theorem dX8_hex_23 : decode cX8_hex 23 = .ok (.invokestatic 29, 3) := by decide +kernel
theorem dX8_hex_26 : decode cX8_hex 26 = .ok (.ifCond .eq 13, 3) := by decide +kernel
theorem dX8_hex_29 : decode cX8_hex 29 = .ok (.iload_n 0, 1) := by decide +kernel
theorem dX8_hex_30 : decode cX8_hex 30 = .ok (.bipush 97, 2) := by decide +kernel
theorem dX8_hex_32 : decode cX8_hex 32 = .ok (.isub, 1) := by decide +kernel
theorem dX8_hex_33 : decode cX8_hex 33 = .ok (.bipush 10, 2) := by decide +kernel
theorem dX8_hex_35 : decode cX8_hex 35 = .ok (.iadd, 1) := by decide +kernel
theorem dX8_hex_36 : decode cX8_hex 36 = .ok (.goto 5, 3) := by decide +kernel
theorem dX8_hex_39 : decode cX8_hex 39 = .ok (.bipush (-5), 2) := by decide +kernel
theorem dX8_hex_41 : decode cX8_hex 41 = .ok (.ireturn, 1) := by decide +kernel
set_option maxRecDepth 20000 in
theorem ggX8_readsNumber_X8_code : GoodIn wsX8_readsNumber wsX8_code := goodIn_r _ [7, 2, 8, 9, 13, 14, 15, 16, 17, 18, 19, 20, 21, 22, 23, 24] (by decide +kernel) (by decide +kernel)
set_option maxRecDepth 20000 in
theorem gX8_readsNumber_X8_code : GoodIn wsX8_readsNumber (wsV RX8 137 RX8 yX8_code wsX8_code) := goodIn_app (goodIn_of _ (by decide +kernel)) ggX8_readsNumber_X8_code
set_option maxRecDepth 20000 in
theorem ggX8_readsNumber_X8_within : GoodIn wsX8_readsNumber wsX8_within := goodIn_r _ [12] (by decide +kernel) (by decide +kernel)
set_option maxRecDepth 20000 in
theorem gX8_readsNumber_X8_within : GoodIn wsX8_readsNumber (va_wsS RX8 29 yX8_within wsX8_within) := goodIn_app (goodIn_of _ (by decide +kernel)) ggX8_readsNumber_X8_within
theorem dX8_readsNumber_0 : decode cX8_readsNumber 0 = .ok (.aload_n 0, 1) := by decide +kernel
theorem dX8_readsNumber_1 : decode cX8_readsNumber 1 = .ok (.aload_n 0, 1) := by decide +kernel
theorem dX8_readsNumber_2 : decode cX8_readsNumber 2 = .ok (.invokevirtual 137, 3) := by decide +kernel
theorem dX8_readsNumber_5 : decode cX8_readsNumber 5 = .ok (.bipush 48, 2) := by decide +kernel
theorem dX8_readsNumber_7 : decode cX8_readsNumber 7 = .ok (.isub, 1) := by decide +kernel
theorem dX8_readsNumber_8 : decode cX8_readsNumber 8 = .ok (.putfield 140, 3) := by decide +kernel
theorem dX8_readsNumber_11 : decode cX8_readsNumber 11 = .ok (.aload_n 0, 1) := by decide +kernel
theorem dX8_readsNumber_12 : decode cX8_readsNumber 12 = .ok (.getfield 140, 3) := by decide +kernel
theorem dX8_readsNumber_15 : decode cX8_readsNumber 15 = .ok (.iconst 1, 1) := by decide +kernel
theorem dX8_readsNumber_16 : decode cX8_readsNumber 16 = .ok (.bipush 9, 2) := by decide +kernel
theorem dX8_readsNumber_18 : decode cX8_readsNumber 18 = .ok (.invokestatic 29, 3) := by decide +kernel
theorem dX8_readsNumber_21 : decode cX8_readsNumber 21 = .ok (.ifCond .ne 5, 3) := by decide +kernel
theorem dX8_readsNumber_24 : decode cX8_readsNumber 24 = .ok (.iconst 0, 1) := by decide +kernel
theorem dX8_readsNumber_25 : decode cX8_readsNumber 25 = .ok (.ireturn, 1) := by decide +kernel
theorem dX8_readsNumber_26 : decode cX8_readsNumber 26 = .ok (.aload_n 0, 1) := by decide +kernel
theorem dX8_readsNumber_27 : decode cX8_readsNumber 27 = .ok (.dup, 1) := by decide +kernel
theorem dX8_readsNumber_28 : decode cX8_readsNumber 28 = .ok (.getfield 134, 3) := by decide +kernel
theorem dX8_readsNumber_31 : decode cX8_readsNumber 31 = .ok (.iconst 1, 1) := by decide +kernel
theorem dX8_readsNumber_32 : decode cX8_readsNumber 32 = .ok (.iadd, 1) := by decide +kernel
theorem dX8_readsNumber_33 : decode cX8_readsNumber 33 = .ok (.putfield 134, 3) := by decide +kernel
theorem dX8_readsNumber_36 : decode cX8_readsNumber 36 = .ok (.aload_n 0, 1) := by decide +kernel
theorem dX8_readsNumber_37 : decode cX8_readsNumber 37 = .ok (.invokevirtual 137, 3) := by decide +kernel
theorem dX8_readsNumber_40 : decode cX8_readsNumber 40 = .ok (.bipush 48, 2) := by decide +kernel
theorem dX8_readsNumber_42 : decode cX8_readsNumber 42 = .ok (.isub, 1) := by decide +kernel
theorem dX8_readsNumber_43 : decode cX8_readsNumber 43 = .ok (.istore_n 2, 1) := by decide +kernel
theorem dX8_readsNumber_44 : decode cX8_readsNumber 44 = .ok (.iload_n 2, 1) := by decide +kernel
theorem dX8_readsNumber_45 : decode cX8_readsNumber 45 = .ok (.iconst 0, 1) := by decide +kernel
theorem dX8_readsNumber_46 : decode cX8_readsNumber 46 = .ok (.bipush 9, 2) := by decide +kernel
theorem dX8_readsNumber_48 : decode cX8_readsNumber 48 = .ok (.invokestatic 29, 3) := by decide +kernel
theorem dX8_readsNumber_51 : decode cX8_readsNumber 51 = .ok (.ifCond .eq 39, 3) := by decide +kernel
theorem dX8_readsNumber_54 : decode cX8_readsNumber 54 = .ok (.bipush 10, 2) := by decide +kernel
theorem dX8_readsNumber_56 : decode cX8_readsNumber 56 = .ok (.aload_n 0, 1) := by decide +kernel
theorem dX8_readsNumber_57 : decode cX8_readsNumber 57 = .ok (.getfield 140, 3) := by decide +kernel
theorem dX8_readsNumber_60 : decode cX8_readsNumber 60 = .ok (.imul, 1) := by decide +kernel
theorem dX8_readsNumber_61 : decode cX8_readsNumber 61 = .ok (.iload_n 2, 1) := by decide +kernel
theorem dX8_readsNumber_62 : decode cX8_readsNumber 62 = .ok (.iadd, 1) := by decide +kernel
theorem dX8_readsNumber_63 : decode cX8_readsNumber 63 = .ok (.iload_n 1, 1) := by decide +kernel
theorem dX8_readsNumber_64 : decode cX8_readsNumber 64 = .ok (.if_icmp .gt 26, 3) := by decide +kernel
theorem dX8_readsNumber_67 : decode cX8_readsNumber 67 = .ok (.aload_n 0, 1) := by decide +kernel
theorem dX8_readsNumber_68 : decode cX8_readsNumber 68 = .ok (.bipush 10, 2) := by decide +kernel
theorem dX8_readsNumber_70 : decode cX8_readsNumber 70 = .ok (.aload_n 0, 1) := by decide +kernel
theorem dX8_readsNumber_71 : decode cX8_readsNumber 71 = .ok (.getfield 140, 3) := by decide +kernel
theorem dX8_readsNumber_74 : decode cX8_readsNumber 74 = .ok (.imul, 1) := by decide +kernel
theorem dX8_readsNumber_75 : decode cX8_readsNumber 75 = .ok (.iload_n 2, 1) := by decide +kernel
theorem dX8_readsNumber_76 : decode cX8_readsNumber 76 = .ok (.iadd, 1) := by decide +kernel
theorem dX8_readsNumber_77 : decode cX8_readsNumber 77 = .ok (.putfield 140, 3) := by decide +kernel
theorem dX8_readsNumber_80 : decode cX8_readsNumber 80 = .ok (.aload_n 0, 1) := by decide +kernel
theorem dX8_readsNumber_81 : decode cX8_readsNumber 81 = .ok (.dup, 1) := by decide +kernel
theorem dX8_readsNumber_82 : decode cX8_readsNumber 82 = .ok (.getfield 134, 3) := by decide +kernel
theorem dX8_readsNumber_85 : decode cX8_readsNumber 85 = .ok (.iconst 1, 1) := by decide +kernel
theorem dX8_readsNumber_86 : decode cX8_readsNumber 86 = .ok (.iadd, 1) := by decide +kernel
theorem dX8_readsNumber_87 : decode cX8_readsNumber 87 = .ok (.putfield 134, 3) := by decide +kernel
theorem dX8_readsNumber_90 : decode cX8_readsNumber 90 = .ok (.iconst 1, 1) := by decide +kernel
theorem dX8_readsNumber_91 : decode cX8_readsNumber 91 = .ok (.ireturn, 1) := by decide +kernel
set_option maxRecDepth 20000 in
theorem ggX8_readsDelay_X8_code : GoodIn wsX8_readsDelay wsX8_code := goodIn_r _ [7, 2, 8, 9, 18, 19, 20, 21, 22, 23, 24, 25, 26, 27, 28, 29] (by decide +kernel) (by decide +kernel)
set_option maxRecDepth 20000 in
theorem gX8_readsDelay_X8_code : GoodIn wsX8_readsDelay (wsV RX8 137 RX8 yX8_code wsX8_code) := goodIn_app (goodIn_of _ (by decide +kernel)) ggX8_readsDelay_X8_code
set_option maxRecDepth 20000 in
theorem ggX8_readsDelay_X8_within : GoodIn wsX8_readsDelay wsX8_within := goodIn_r _ [12] (by decide +kernel) (by decide +kernel)
set_option maxRecDepth 20000 in
theorem gX8_readsDelay_X8_within : GoodIn wsX8_readsDelay (va_wsS RX8 29 yX8_within wsX8_within) := goodIn_app (goodIn_of _ (by decide +kernel)) ggX8_readsDelay_X8_within
set_option maxRecDepth 20000 in
theorem ggX8_readsDelay_X8_readsNumber : GoodIn wsX8_readsDelay wsX8_readsNumber := goodIn_r _ [16, 17, 2, 3, 4, 5, 6, 7, 8, 9, 10, 11, 12, 18, 19, 20, 21, 22, 23, 24, 25, 26, 27, 28, 29] (by decide +kernel) (by decide +kernel)
set_option maxRecDepth 20000 in
theorem gX8_readsDelay_X8_readsNumber : GoodIn wsX8_readsDelay (wsV RX8 146 RX8 yX8_readsNumber wsX8_readsNumber) := goodIn_app (goodIn_of _ (by decide +kernel)) ggX8_readsDelay_X8_readsNumber
theorem dX8_readsDelay_0 : decode cX8_readsDelay 0 = .ok (.aload_n 0, 1) := by decide +kernel
theorem dX8_readsDelay_1 : decode cX8_readsDelay 1 = .ok (.aload_n 0, 1) := by decide +kernel
theorem dX8_readsDelay_2 : decode cX8_readsDelay 2 = .ok (.invokevirtual 137, 3) := by decide +kernel
theorem dX8_readsDelay_5 : decode cX8_readsDelay 5 = .ok (.bipush 48, 2) := by decide +kernel
theorem dX8_readsDelay_7 : decode cX8_readsDelay 7 = .ok (.isub, 1) := by decide +kernel
theorem dX8_readsDelay_8 : decode cX8_readsDelay 8 = .ok (.putfield 143, 3) := by decide +kernel
theorem dX8_readsDelay_11 : decode cX8_readsDelay 11 = .ok (.aload_n 0, 1) := by decide +kernel
theorem dX8_readsDelay_12 : decode cX8_readsDelay 12 = .ok (.getfield 143, 3) := by decide +kernel
theorem dX8_readsDelay_15 : decode cX8_readsDelay 15 = .ok (.iconst 0, 1) := by decide +kernel
theorem dX8_readsDelay_16 : decode cX8_readsDelay 16 = .ok (.bipush 6, 2) := by decide +kernel
theorem dX8_readsDelay_18 : decode cX8_readsDelay 18 = .ok (.invokestatic 29, 3) := by decide +kernel
theorem dX8_readsDelay_21 : decode cX8_readsDelay 21 = .ok (.ifCond .ne 5, 3) := by decide +kernel
theorem dX8_readsDelay_24 : decode cX8_readsDelay 24 = .ok (.iconst 0, 1) := by decide +kernel
theorem dX8_readsDelay_25 : decode cX8_readsDelay 25 = .ok (.ireturn, 1) := by decide +kernel
theorem dX8_readsDelay_26 : decode cX8_readsDelay 26 = .ok (.aload_n 0, 1) := by decide +kernel
theorem dX8_readsDelay_27 : decode cX8_readsDelay 27 = .ok (.dup, 1) := by decide +kernel
theorem dX8_readsDelay_28 : decode cX8_readsDelay 28 = .ok (.getfield 134, 3) := by decide +kernel
theorem dX8_readsDelay_31 : decode cX8_readsDelay 31 = .ok (.iconst 1, 1) := by decide +kernel
theorem dX8_readsDelay_32 : decode cX8_readsDelay 32 = .ok (.iadd, 1) := by decide +kernel
theorem dX8_readsDelay_33 : decode cX8_readsDelay 33 = .ok (.putfield 134, 3) := by decide +kernel
theorem dX8_readsDelay_36 : decode cX8_readsDelay 36 = .ok (.aload_n 0, 1) := by decide +kernel
theorem dX8_readsDelay_37 : decode cX8_readsDelay 37 = .ok (.invokevirtual 137, 3) := by decide +kernel
theorem dX8_readsDelay_40 : decode cX8_readsDelay 40 = .ok (.bipush 61, 2) := by decide +kernel
theorem dX8_readsDelay_42 : decode cX8_readsDelay 42 = .ok (.if_icmp .eq 5, 3) := by decide +kernel
theorem dX8_readsDelay_45 : decode cX8_readsDelay 45 = .ok (.iconst 0, 1) := by decide +kernel
theorem dX8_readsDelay_46 : decode cX8_readsDelay 46 = .ok (.ireturn, 1) := by decide +kernel
theorem dX8_readsDelay_47 : decode cX8_readsDelay 47 = .ok (.aload_n 0, 1) := by decide +kernel
theorem dX8_readsDelay_48 : decode cX8_readsDelay 48 = .ok (.dup, 1) := by decide +kernel
theorem dX8_readsDelay_49 : decode cX8_readsDelay 49 = .ok (.getfield 134, 3) := by decide +kernel
theorem dX8_readsDelay_52 : decode cX8_readsDelay 52 = .ok (.iconst 1, 1) := by decide +kernel
theorem dX8_readsDelay_53 : decode cX8_readsDelay 53 = .ok (.iadd, 1) := by decide +kernel
theorem dX8_readsDelay_54 : decode cX8_readsDelay 54 = .ok (.putfield 134, 3) := by decide +kernel
theorem dX8_readsDelay_57 : decode cX8_readsDelay 57 = .ok (.aload_n 0, 1) := by decide +kernel
theorem dX8_readsDelay_58 : decode cX8_readsDelay 58 = .ok (.bipush 20, 2) := by decide +kernel
theorem dX8_readsDelay_60 : decode cX8_readsDelay 60 = .ok (.invokevirtual 146, 3) := by decide +kernel
theorem dX8_readsDelay_63 : decode cX8_readsDelay 63 = .ok (.ireturn, 1) := by decide +kernel
set_option maxRecDepth 20000 in
theorem ggX8_readsOrder_X8_code : GoodIn wsX8_readsOrder wsX8_code := goodIn_r _ [8, 2, 9, 10, 26, 27, 28, 29, 30, 31, 32, 33, 34, 35, 36, 37] (by decide +kernel) (by decide +kernel)
set_option maxRecDepth 20000 in
theorem gX8_readsOrder_X8_code : GoodIn wsX8_readsOrder (wsV RX8 137 RX8 yX8_code wsX8_code) := goodIn_app (goodIn_of _ (by decide +kernel)) ggX8_readsOrder_X8_code
set_option maxRecDepth 20000 in
theorem ggX8_readsOrder_X8_hex : GoodIn wsX8_readsOrder wsX8_hex := goodIn_r _ [13, 14, 15, 7, 16] (by decide +kernel) (by decide +kernel)
set_option maxRecDepth 20000 in
theorem gX8_readsOrder_X8_hex : GoodIn wsX8_readsOrder (va_wsS RX8 152 yX8_hex wsX8_hex) := goodIn_app (goodIn_of _ (by decide +kernel)) ggX8_readsOrder_X8_hex
set_option maxRecDepth 20000 in
theorem ggX8_readsOrder_X8_readsNumber : GoodIn wsX8_readsOrder wsX8_readsNumber := goodIn_r _ [20, 3, 2, 4, 5, 6, 7, 8, 9, 10, 14, 15, 16, 26, 27, 28, 29, 30, 31, 32, 33, 34, 35, 36, 37] (by decide +kernel) (by decide +kernel)
set_option maxRecDepth 20000 in
theorem gX8_readsOrder_X8_readsNumber : GoodIn wsX8_readsOrder (wsV RX8 146 RX8 yX8_readsNumber wsX8_readsNumber) := goodIn_app (goodIn_of _ (by decide +kernel)) ggX8_readsOrder_X8_readsNumber
set_option maxRecDepth 20000 in
theorem ggX8_readsOrder_X8_readsDelay : GoodIn wsX8_readsOrder wsX8_readsDelay := goodIn_r _ [24, 25, 2, 4, 5, 6, 7, 8, 9, 10, 14, 15, 16, 17, 18, 19, 20, 3, 26, 27, 28, 29, 30, 31, 32, 33, 34, 35, 36, 37] (by decide +kernel) (by decide +kernel)
set_option maxRecDepth 20000 in
theorem gX8_readsOrder_X8_readsDelay : GoodIn wsX8_readsOrder (wsV RX8 155 RX8 yX8_readsDelay wsX8_readsDelay) := goodIn_app (goodIn_of _ (by decide +kernel)) ggX8_readsOrder_X8_readsDelay
theorem dX8_readsOrder_0 : decode cX8_readsOrder 0 = .ok (.aload_n 0, 1) := by decide +kernel
theorem dX8_readsOrder_1 : decode cX8_readsOrder 1 = .ok (.aload_n 0, 1) := by decide +kernel
theorem dX8_readsOrder_2 : decode cX8_readsOrder 2 = .ok (.invokevirtual 137, 3) := by decide +kernel
theorem dX8_readsOrder_5 : decode cX8_readsOrder 5 = .ok (.putfield 149, 3) := by decide +kernel
theorem dX8_readsOrder_8 : decode cX8_readsOrder 8 = .ok (.aload_n 0, 1) := by decide +kernel
theorem dX8_readsOrder_9 : decode cX8_readsOrder 9 = .ok (.getfield 149, 3) := by decide +kernel
theorem dX8_readsOrder_12 : decode cX8_readsOrder 12 = .ok (.lookupswitch 151 #[(46, 119), (97, 60), (98, 60), (100, 136), (107, 136), (114, 136)], 60) := by decide +kernel
theorem dX8_readsOrder_72 : decode cX8_readsOrder 72 = .ok (.aload_n 0, 1) := by decide +kernel
theorem dX8_readsOrder_73 : decode cX8_readsOrder 73 = .ok (.dup, 1) := by decide +kernel
theorem dX8_readsOrder_74 : decode cX8_readsOrder 74 = .ok (.getfield 134, 3) := by decide +kernel
theorem dX8_readsOrder_77 : decode cX8_readsOrder 77 = .ok (.iconst 1, 1) := by decide +kernel
theorem dX8_readsOrder_78 : decode cX8_readsOrder 78 = .ok (.iadd, 1) := by decide +kernel
theorem dX8_readsOrder_79 : decode cX8_readsOrder 79 = .ok (.putfield 134, 3) := by decide +kernel
theorem dX8_readsOrder_82 : decode cX8_readsOrder 82 = .ok (.aload_n 0, 1) := by decide +kernel
theorem dX8_readsOrder_83 : decode cX8_readsOrder 83 = .ok (.aload_n 0, 1) := by decide +kernel
theorem dX8_readsOrder_84 : decode cX8_readsOrder 84 = .ok (.invokevirtual 137, 3) := by decide +kernel
theorem dX8_readsOrder_87 : decode cX8_readsOrder 87 = .ok (.invokestatic 152, 3) := by decide +kernel
theorem dX8_readsOrder_90 : decode cX8_readsOrder 90 = .ok (.putfield 140, 3) := by decide +kernel
theorem dX8_readsOrder_93 : decode cX8_readsOrder 93 = .ok (.aload_n 0, 1) := by decide +kernel
theorem dX8_readsOrder_94 : decode cX8_readsOrder 94 = .ok (.dup, 1) := by decide +kernel
theorem dX8_readsOrder_95 : decode cX8_readsOrder 95 = .ok (.getfield 134, 3) := by decide +kernel
theorem dX8_readsOrder_98 : decode cX8_readsOrder 98 = .ok (.aload_n 0, 1) := by decide +kernel
theorem dX8_readsOrder_99 : decode cX8_readsOrder 99 = .ok (.getfield 140, 3) := by decide +kernel
theorem dX8_readsOrder_102 : decode cX8_readsOrder 102 = .ok (.bipush (-5), 2) := by decide +kernel
theorem dX8_readsOrder_104 : decode cX8_readsOrder 104 = .ok (.if_icmp .ne 7, 3) := by decide +kernel
theorem dX8_readsOrder_107 : decode cX8_readsOrder 107 = .ok (.iconst 0, 1) := by decide +kernel
theorem dX8_readsOrder_108 : decode cX8_readsOrder 108 = .ok (.goto 4, 3) := by decide +kernel
theorem dX8_readsOrder_111 : decode cX8_readsOrder 111 = .ok (.iconst 1, 1) := by decide +kernel
theorem dX8_readsOrder_112 : decode cX8_readsOrder 112 = .ok (.iadd, 1) := by decide +kernel
theorem dX8_readsOrder_113 : decode cX8_readsOrder 113 = .ok (.putfield 134, 3) := by decide +kernel
theorem dX8_readsOrder_116 : decode cX8_readsOrder 116 = .ok (.aload_n 0, 1) := by decide +kernel
theorem dX8_readsOrder_117 : decode cX8_readsOrder 117 = .ok (.getfield 140, 3) := by decide +kernel
theorem dX8_readsOrder_120 : decode cX8_readsOrder 120 = .ok (.bipush (-5), 2) := by decide +kernel
theorem dX8_readsOrder_122 : decode cX8_readsOrder 122 = .ok (.if_icmp .eq 7, 3) := by decide +kernel
theorem dX8_readsOrder_125 : decode cX8_readsOrder 125 = .ok (.iconst 1, 1) := by decide +kernel
theorem dX8_readsOrder_126 : decode cX8_readsOrder 126 = .ok (.goto 4, 3) := by decide +kernel
theorem dX8_readsOrder_129 : decode cX8_readsOrder 129 = .ok (.iconst 0, 1) := by decide +kernel
theorem dX8_readsOrder_130 : decode cX8_readsOrder 130 = .ok (.ireturn, 1) := by decide +kernel
theorem dX8_readsOrder_131 : decode cX8_readsOrder 131 = .ok (.aload_n 0, 1) := by decide +kernel
theorem dX8_readsOrder_132 : decode cX8_readsOrder 132 = .ok (.dup, 1) := by decide +kernel
theorem dX8_readsOrder_133 : decode cX8_readsOrder 133 = .ok (.getfield 134, 3) := by decide +kernel
theorem dX8_readsOrder_136 : decode cX8_readsOrder 136 = .ok (.iconst 1, 1) := by decide +kernel
theorem dX8_readsOrder_137 : decode cX8_readsOrder 137 = .ok (.iadd, 1) := by decide +kernel
theorem dX8_readsOrder_138 : decode cX8_readsOrder 138 = .ok (.putfield 134, 3) := by decide +kernel
theorem dX8_readsOrder_141 : decode cX8_readsOrder 141 = .ok (.aload_n 0, 1) := by decide +kernel
theorem dX8_readsOrder_142 : decode cX8_readsOrder 142 = .ok (.bipush 99, 2) := by decide +kernel
theorem dX8_readsOrder_144 : decode cX8_readsOrder 144 = .ok (.invokevirtual 146, 3) := by decide +kernel
theorem dX8_readsOrder_147 : decode cX8_readsOrder 147 = .ok (.ireturn, 1) := by decide +kernel
theorem dX8_readsOrder_148 : decode cX8_readsOrder 148 = .ok (.aload_n 0, 1) := by decide +kernel
theorem dX8_readsOrder_149 : decode cX8_readsOrder 149 = .ok (.dup, 1) := by decide +kernel
theorem dX8_readsOrder_150 : decode cX8_readsOrder 150 = .ok (.getfield 134, 3) := by decide +kernel
theorem dX8_readsOrder_153 : decode cX8_readsOrder 153 = .ok (.iconst 1, 1) := by decide +kernel
theorem dX8_readsOrder_154 : decode cX8_readsOrder 154 = .ok (.iadd, 1) := by decide +kernel
theorem dX8_readsOrder_155 : decode cX8_readsOrder 155 = .ok (.putfield 134, 3) := by decide +kernel
theorem dX8_readsOrder_158 : decode cX8_readsOrder 158 = .ok (.aload_n 0, 1) := by decide +kernel
theorem dX8_readsOrder_159 : decode cX8_readsOrder 159 = .ok (.invokevirtual 155, 3) := by decide +kernel
theorem dX8_readsOrder_162 : decode cX8_readsOrder 162 = .ok (.ireturn, 1) := by decide +kernel
theorem dX8_readsOrder_163 : decode cX8_readsOrder 163 = .ok (.iconst 0, 1) := by decide +kernel
theorem dX8_readsOrder_164 : decode cX8_readsOrder 164 = .ok (.ireturn, 1) := by decide +kernel
set_option maxRecDepth 20000 in
theorem ggX8_findFault_X8_readsOrder : GoodIn wsX8_findFault wsX8_readsOrder := goodIn_r _ [7, 8, 1, 9, 10, 11, 12, 6, 13, 2, 14, 15, 16, 17, 18, 19, 20, 21, 22, 23, 24, 25, 26, 27, 28, 29, 30, 31, 32, 33, 34, 35, 36, 37, 38, 39, 40, 41] (by decide +kernel) (by decide +kernel)
set_option maxRecDepth 20000 in
theorem gX8_findFault_X8_readsOrder : GoodIn wsX8_findFault (wsV RX8 159 RX8 yX8_readsOrder wsX8_readsOrder) := goodIn_app (goodIn_of _ (by decide +kernel)) ggX8_findFault_X8_readsOrder
set_option maxRecDepth 20000 in
theorem ggX8_findFault_X8_code : GoodIn wsX8_findFault wsX8_code := goodIn_r _ [13, 1, 2, 14, 30, 31, 32, 33, 34, 35, 36, 37, 38, 39, 40, 41] (by decide +kernel) (by decide +kernel)
set_option maxRecDepth 20000 in
theorem gX8_findFault_X8_code : GoodIn wsX8_findFault (wsV RX8 137 RX8 yX8_code wsX8_code) := goodIn_app (goodIn_of _ (by decide +kernel)) ggX8_findFault_X8_code
theorem dX8_findFault_0 : decode cX8_findFault 0 = .ok (.aload_n 0, 1) := by decide +kernel
theorem dX8_findFault_1 : decode cX8_findFault 1 = .ok (.iconst 0, 1) := by decide +kernel
theorem dX8_findFault_2 : decode cX8_findFault 2 = .ok (.putfield 134, 3) := by decide +kernel
theorem dX8_findFault_5 : decode cX8_findFault 5 = .ok (.aload_n 0, 1) := by decide +kernel
theorem dX8_findFault_6 : decode cX8_findFault 6 = .ok (.invokevirtual 159, 3) := by decide +kernel
theorem dX8_findFault_9 : decode cX8_findFault 9 = .ok (.ifCond .eq 44, 3) := by decide +kernel
theorem dX8_findFault_12 : decode cX8_findFault 12 = .ok (.aload_n 0, 1) := by decide +kernel
theorem dX8_findFault_13 : decode cX8_findFault 13 = .ok (.getfield 134, 3) := by decide +kernel
theorem dX8_findFault_16 : decode cX8_findFault 16 = .ok (.aload_n 0, 1) := by decide +kernel
theorem dX8_findFault_17 : decode cX8_findFault 17 = .ok (.getfield 131, 3) := by decide +kernel
theorem dX8_findFault_20 : decode cX8_findFault 20 = .ok (.if_icmp .ne 6, 3) := by decide +kernel
theorem dX8_findFault_23 : decode cX8_findFault 23 = .ok (.bipush (-5), 2) := by decide +kernel
theorem dX8_findFault_25 : decode cX8_findFault 25 = .ok (.ireturn, 1) := by decide +kernel
theorem dX8_findFault_26 : decode cX8_findFault 26 = .ok (.aload_n 0, 1) := by decide +kernel
theorem dX8_findFault_27 : decode cX8_findFault 27 = .ok (.invokevirtual 137, 3) := by decide +kernel
theorem dX8_findFault_30 : decode cX8_findFault 30 = .ok (.bipush 44, 2) := by decide +kernel
theorem dX8_findFault_32 : decode cX8_findFault 32 = .ok (.if_icmp .eq 8, 3) := by decide +kernel
theorem dX8_findFault_35 : decode cX8_findFault 35 = .ok (.aload_n 0, 1) := by decide +kernel
theorem dX8_findFault_36 : decode cX8_findFault 36 = .ok (.getfield 134, 3) := by decide +kernel
theorem dX8_findFault_39 : decode cX8_findFault 39 = .ok (.ireturn, 1) := by decide +kernel
theorem dX8_findFault_40 : decode cX8_findFault 40 = .ok (.aload_n 0, 1) := by decide +kernel
theorem dX8_findFault_41 : decode cX8_findFault 41 = .ok (.dup, 1) := by decide +kernel
theorem dX8_findFault_42 : decode cX8_findFault 42 = .ok (.getfield 134, 3) := by decide +kernel
theorem dX8_findFault_45 : decode cX8_findFault 45 = .ok (.iconst 1, 1) := by decide +kernel
theorem dX8_findFault_46 : decode cX8_findFault 46 = .ok (.iadd, 1) := by decide +kernel
theorem dX8_findFault_47 : decode cX8_findFault 47 = .ok (.putfield 134, 3) := by decide +kernel
theorem dX8_findFault_50 : decode cX8_findFault 50 = .ok (.goto (-45), 3) := by decide +kernel
theorem dX8_findFault_53 : decode cX8_findFault 53 = .ok (.aload_n 0, 1) := by decide +kernel
theorem dX8_findFault_54 : decode cX8_findFault 54 = .ok (.getfield 134, 3) := by decide +kernel
theorem dX8_findFault_57 : decode cX8_findFault 57 = .ok (.ireturn, 1) := by decide +kernel
set_option maxRecDepth 20000 in
theorem ggX8_doesOrder_X8_adds : GoodIn wsX8_doesOrder wsX8_adds := goodIn_r _ [8, 9, 10, 11, 7, 12, 13, 14, 15, 16, 17, 18, 19, 20, 21, 22, 23, 24, 25, 26, 27, 28, 29, 30, 31, 88, 89, 90, 91, 92, 93, 94, 95, 96, 97, 98, 99] (by decide +kernel) (by decide +kernel)
set_option maxRecDepth 20000 in
theorem gX8_doesOrder_X8_adds : GoodIn wsX8_doesOrder (wsV RX8 112 RX8 yX8_adds wsX8_adds) := goodIn_app (goodIn_of _ (by decide +kernel)) ggX8_doesOrder_X8_adds
set_option maxRecDepth 20000 in
theorem ggX8_doesOrder_X8_runs : GoodIn wsX8_doesOrder wsX8_runs := goodIn_r _ [35, 9, 36, 13, 14, 7, 15, 37, 38, 39, 40, 41, 42, 43, 44, 45, 46, 47, 48, 49, 50, 51, 52, 53, 54, 55, 56, 24, 25, 26, 27, 57, 58, 59, 60, 28, 29, 30, 31, 61, 62, 63, 64, 65, 66, 67, 68, 69, 70, 71, 72, 20, 21, 22, 23, 73, 74, 75, 76, 16, 17, 18, 19, 88, 89, 90, 91, 92, 93, 94, 95, 96, 97, 98, 99] (by decide +kernel) (by decide +kernel)
set_option maxRecDepth 20000 in
theorem gX8_doesOrder_X8_runs : GoodIn wsX8_doesOrder (wsV RX8 118 RX8 yX8_runs wsX8_runs) := goodIn_app (goodIn_of _ (by decide +kernel)) ggX8_doesOrder_X8_runs
set_option maxRecDepth 20000 in
theorem ggX8_doesOrder_X8_setsDelay : GoodIn wsX8_doesOrder wsX8_setsDelay := goodIn_r _ [80, 9, 81, 82, 83, 7, 84, 13, 14, 15, 85, 86, 87, 88, 89, 90, 91, 92, 93, 94, 95, 96, 97, 98, 99] (by decide +kernel) (by decide +kernel)
set_option maxRecDepth 20000 in
theorem gX8_doesOrder_X8_setsDelay : GoodIn wsX8_doesOrder (wsV RX8 127 RX8 yX8_setsDelay wsX8_setsDelay) := goodIn_app (goodIn_of _ (by decide +kernel)) ggX8_doesOrder_X8_setsDelay
theorem dX8_doesOrder_0 : decode cX8_doesOrder 0 = .ok (.aload_n 0, 1) := by decide +kernel
theorem dX8_doesOrder_1 : decode cX8_doesOrder 1 = .ok (.getfield 149, 3) := by decide +kernel
theorem dX8_doesOrder_4 : decode cX8_doesOrder 4 = .ok (.lookupswitch 61 #[(46, 52), (97, 36), (98, 36)], 36) := by decide +kernel
theorem dX8_doesOrder_40 : decode cX8_doesOrder 40 = .ok (.aload_n 0, 1) := by decide +kernel
theorem dX8_doesOrder_41 : decode cX8_doesOrder 41 = .ok (.aload_n 0, 1) := by decide +kernel
theorem dX8_doesOrder_42 : decode cX8_doesOrder 42 = .ok (.getfield 149, 3) := by decide +kernel
theorem dX8_doesOrder_45 : decode cX8_doesOrder 45 = .ok (.bipush 97, 2) := by decide +kernel
theorem dX8_doesOrder_47 : decode cX8_doesOrder 47 = .ok (.isub, 1) := by decide +kernel
theorem dX8_doesOrder_48 : decode cX8_doesOrder 48 = .ok (.aload_n 0, 1) := by decide +kernel
theorem dX8_doesOrder_49 : decode cX8_doesOrder 49 = .ok (.getfield 140, 3) := by decide +kernel
theorem dX8_doesOrder_52 : decode cX8_doesOrder 52 = .ok (.invokevirtual 112, 3) := by decide +kernel
theorem dX8_doesOrder_55 : decode cX8_doesOrder 55 = .ok (.ireturn, 1) := by decide +kernel
theorem dX8_doesOrder_56 : decode cX8_doesOrder 56 = .ok (.aload_n 0, 1) := by decide +kernel
theorem dX8_doesOrder_57 : decode cX8_doesOrder 57 = .ok (.aload_n 0, 1) := by decide +kernel
theorem dX8_doesOrder_58 : decode cX8_doesOrder 58 = .ok (.getfield 140, 3) := by decide +kernel
theorem dX8_doesOrder_61 : decode cX8_doesOrder 61 = .ok (.invokevirtual 118, 3) := by decide +kernel
theorem dX8_doesOrder_64 : decode cX8_doesOrder 64 = .ok (.ireturn, 1) := by decide +kernel
theorem dX8_doesOrder_65 : decode cX8_doesOrder 65 = .ok (.aload_n 0, 1) := by decide +kernel
theorem dX8_doesOrder_66 : decode cX8_doesOrder 66 = .ok (.aload_n 0, 1) := by decide +kernel
theorem dX8_doesOrder_67 : decode cX8_doesOrder 67 = .ok (.getfield 143, 3) := by decide +kernel
theorem dX8_doesOrder_70 : decode cX8_doesOrder 70 = .ok (.aload_n 0, 1) := by decide +kernel
theorem dX8_doesOrder_71 : decode cX8_doesOrder 71 = .ok (.getfield 149, 3) := by decide +kernel
theorem dX8_doesOrder_74 : decode cX8_doesOrder 74 = .ok (.bipush 114, 2) := by decide +kernel
theorem dX8_doesOrder_76 : decode cX8_doesOrder 76 = .ok (.if_icmp .ne 7, 3) := by decide +kernel
theorem dX8_doesOrder_79 : decode cX8_doesOrder 79 = .ok (.iconst 0, 1) := by decide +kernel
theorem dX8_doesOrder_80 : decode cX8_doesOrder 80 = .ok (.goto 17, 3) := by decide +kernel
theorem dX8_doesOrder_83 : decode cX8_doesOrder 83 = .ok (.aload_n 0, 1) := by decide +kernel
theorem dX8_doesOrder_84 : decode cX8_doesOrder 84 = .ok (.getfield 149, 3) := by decide +kernel
theorem dX8_doesOrder_87 : decode cX8_doesOrder 87 = .ok (.bipush 107, 2) := by decide +kernel
theorem dX8_doesOrder_89 : decode cX8_doesOrder 89 = .ok (.if_icmp .ne 7, 3) := by decide +kernel
theorem dX8_doesOrder_92 : decode cX8_doesOrder 92 = .ok (.iconst 1, 1) := by decide +kernel
theorem dX8_doesOrder_93 : decode cX8_doesOrder 93 = .ok (.goto 4, 3) := by decide +kernel
theorem dX8_doesOrder_96 : decode cX8_doesOrder 96 = .ok (.iconst 2, 1) := by decide +kernel
theorem dX8_doesOrder_97 : decode cX8_doesOrder 97 = .ok (.aload_n 0, 1) := by decide +kernel
theorem dX8_doesOrder_98 : decode cX8_doesOrder 98 = .ok (.getfield 140, 3) := by decide +kernel
theorem dX8_doesOrder_101 : decode cX8_doesOrder 101 = .ok (.invokevirtual 127, 3) := by decide +kernel
theorem dX8_doesOrder_104 : decode cX8_doesOrder 104 = .ok (.ireturn, 1) := by decide +kernel
set_option maxRecDepth 20000 in
theorem ggX8_perform_X8_findFault : GoodIn wsX8_perform wsX8_findFault := goodIn_r _ [7, 1, 2, 8, 9, 10, 6, 11, 12, 13, 14, 15, 16, 17, 18, 19, 20, 21, 22, 23, 24, 25, 26, 27, 28, 29, 30, 31, 32, 33, 133, 134, 135, 136, 137, 138, 139, 140, 141, 142, 143, 144] (by decide +kernel) (by decide +kernel)
set_option maxRecDepth 20000 in
theorem gX8_perform_X8_findFault : GoodIn wsX8_perform (wsV RX8 162 RX8 yX8_findFault wsX8_findFault) := goodIn_app (goodIn_of _ (by decide +kernel)) ggX8_perform_X8_findFault
set_option maxRecDepth 20000 in
theorem ggX8_perform_X8_putAside : GoodIn wsX8_perform wsX8_putAside := goodIn_r _ [37, 38, 39, 133, 134, 135, 136, 137, 138, 139, 140, 141, 142, 143, 144] (by decide +kernel) (by decide +kernel)
set_option maxRecDepth 20000 in
theorem gX8_perform_X8_putAside : GoodIn wsX8_perform (wsV RX8 37 RX8 yX8_putAside wsX8_putAside) := goodIn_app (goodIn_of _ (by decide +kernel)) ggX8_perform_X8_putAside
set_option maxRecDepth 20000 in
theorem ggX8_perform_X8_readsOrder : GoodIn wsX8_perform wsX8_readsOrder := goodIn_r _ [11, 12, 1, 13, 14, 15, 16, 6, 17, 2, 18, 19, 20, 21, 22, 23, 24, 25, 26, 27, 28, 29, 30, 31, 32, 33, 133, 134, 135, 136, 137, 138, 139, 140, 141, 142, 143, 144] (by decide +kernel) (by decide +kernel)
set_option maxRecDepth 20000 in
theorem gX8_perform_X8_readsOrder : GoodIn wsX8_perform (wsV RX8 159 RX8 yX8_readsOrder wsX8_readsOrder) := goodIn_app (goodIn_of _ (by decide +kernel)) ggX8_perform_X8_readsOrder
set_option maxRecDepth 20000 in
theorem ggX8_perform_X8_doesOrder : GoodIn wsX8_perform wsX8_doesOrder := goodIn_r _ [43, 12, 13, 33, 44, 45, 46, 6, 47, 39, 48, 49, 50, 22, 23, 24, 51, 52, 53, 54, 55, 56, 57, 58, 59, 60, 61, 62, 63, 64, 65, 66, 67, 68, 69, 70, 71, 72, 73, 74, 75, 76, 77, 78, 79, 80, 81, 82, 83, 84, 85, 86, 87, 88, 89, 90, 91, 92, 93, 94, 95, 96, 97, 98, 99, 100, 101, 102, 103, 104, 105, 106, 107, 108, 109, 110, 111, 112, 113, 114, 115, 116, 117, 118, 119, 120, 121, 122, 133, 134, 135, 136, 137, 138, 139, 140, 141, 142, 143, 144] (by decide +kernel) (by decide +kernel)
set_option maxRecDepth 20000 in
theorem gX8_perform_X8_doesOrder : GoodIn wsX8_perform (wsV RX8 165 RX8 yX8_doesOrder wsX8_doesOrder) := goodIn_app (goodIn_of _ (by decide +kernel)) ggX8_perform_X8_doesOrder
set_option maxRecDepth 20000 in
theorem ggX8_perform_X8_takeBack : GoodIn wsX8_perform wsX8_takeBack := goodIn_r _ [126, 39, 38, 133, 134, 135, 136, 137, 138, 139, 140, 141, 142, 143, 144] (by decide +kernel) (by decide +kernel)
set_option maxRecDepth 20000 in
theorem gX8_perform_X8_takeBack : GoodIn wsX8_perform (wsV RX8 124 RX8 yX8_takeBack wsX8_takeBack) := goodIn_app (goodIn_of _ (by decide +kernel)) ggX8_perform_X8_takeBack
set_option maxRecDepth 20000 in
theorem ggX8_perform_X8_push : GoodIn wsX8_perform wsX8_push := goodIn_r _ [130, 131, 132, 38, 133, 134, 135, 136, 137, 138, 139, 140, 141, 142, 143, 144] (by decide +kernel) (by decide +kernel)
set_option maxRecDepth 20000 in
theorem gX8_perform_X8_push : GoodIn wsX8_perform (wsV RX8 40 RX8 yX8_push wsX8_push) := goodIn_app (goodIn_of _ (by decide +kernel)) ggX8_perform_X8_push
theorem dX8_perform_0 : decode cX8_perform 0 = .ok (.aload_n 0, 1) := by decide +kernel
theorem dX8_perform_1 : decode cX8_perform 1 = .ok (.invokevirtual 162, 3) := by decide +kernel
theorem dX8_perform_4 : decode cX8_perform 4 = .ok (.istore_n 1, 1) := by decide +kernel
theorem dX8_perform_5 : decode cX8_perform 5 = .ok (.iload_n 1, 1) := by decide +kernel
theorem dX8_perform_6 : decode cX8_perform 6 = .ok (.bipush (-5), 2) := by decide +kernel
theorem dX8_perform_8 : decode cX8_perform 8 = .ok (.if_icmp .eq 8, 3) := by decide +kernel
theorem dX8_perform_11 : decode cX8_perform 11 = .ok (.bipush (-100), 2) := by decide +kernel
theorem dX8_perform_13 : decode cX8_perform 13 = .ok (.iload_n 1, 1) := by decide +kernel
theorem dX8_perform_14 : decode cX8_perform 14 = .ok (.isub, 1) := by decide +kernel
theorem dX8_perform_15 : decode cX8_perform 15 = .ok (.ireturn, 1) := by decide +kernel
theorem dX8_perform_16 : decode cX8_perform 16 = .ok (.aload_n 0, 1) := by decide +kernel
theorem dX8_perform_17 : decode cX8_perform 17 = .ok (.invokevirtual 37, 3) := by decide +kernel
theorem dX8_perform_20 : decode cX8_perform 20 = .ok (.aload_n 0, 1) := by decide +kernel
theorem dX8_perform_21 : decode cX8_perform 21 = .ok (.iconst 0, 1) := by decide +kernel
theorem dX8_perform_22 : decode cX8_perform 22 = .ok (.putfield 134, 3) := by decide +kernel
theorem dX8_perform_25 : decode cX8_perform 25 = .ok (.iconst 0, 1) := by decide +kernel
theorem dX8_perform_26 : decode cX8_perform 26 = .ok (.istore_n 2, 1) := by decide +kernel
theorem dX8_perform_27 : decode cX8_perform 27 = .ok (.aload_n 0, 1) := by decide +kernel
theorem dX8_perform_28 : decode cX8_perform 28 = .ok (.getfield 134, 3) := by decide +kernel
theorem dX8_perform_31 : decode cX8_perform 31 = .ok (.aload_n 0, 1) := by decide +kernel
theorem dX8_perform_32 : decode cX8_perform 32 = .ok (.getfield 131, 3) := by decide +kernel
theorem dX8_perform_35 : decode cX8_perform 35 = .ok (.if_icmp .ge 52, 3) := by decide +kernel
theorem dX8_perform_38 : decode cX8_perform 38 = .ok (.aload_n 0, 1) := by decide +kernel
theorem dX8_perform_39 : decode cX8_perform 39 = .ok (.invokevirtual 159, 3) := by decide +kernel
theorem dX8_perform_42 : decode cX8_perform 42 = .ok (.ifCond .eq 10, 3) := by decide +kernel
theorem dX8_perform_45 : decode cX8_perform 45 = .ok (.aload_n 0, 1) := by decide +kernel
theorem dX8_perform_46 : decode cX8_perform 46 = .ok (.invokevirtual 165, 3) := by decide +kernel
theorem dX8_perform_49 : decode cX8_perform 49 = .ok (.goto 5, 3) := by decide +kernel
theorem dX8_perform_52 : decode cX8_perform 52 = .ok (.bipush (-2), 2) := by decide +kernel
theorem dX8_perform_54 : decode cX8_perform 54 = .ok (.istore_n 3, 1) := by decide +kernel
theorem dX8_perform_55 : decode cX8_perform 55 = .ok (.iload_n 3, 1) := by decide +kernel
theorem dX8_perform_56 : decode cX8_perform 56 = .ok (.ifCond .ge 15, 3) := by decide +kernel
theorem dX8_perform_59 : decode cX8_perform 59 = .ok (.iload_n 3, 1) := by decide +kernel
theorem dX8_perform_60 : decode cX8_perform 60 = .ok (.bipush (-5), 2) := by decide +kernel
theorem dX8_perform_62 : decode cX8_perform 62 = .ok (.if_icmp .eq 9, 3) := by decide +kernel
theorem dX8_perform_65 : decode cX8_perform 65 = .ok (.aload_n 0, 1) := by decide +kernel
theorem dX8_perform_66 : decode cX8_perform 66 = .ok (.invokevirtual 124, 3) := by decide +kernel
theorem dX8_perform_69 : decode cX8_perform 69 = .ok (.iload_n 3, 1) := by decide +kernel
theorem dX8_perform_70 : decode cX8_perform 70 = .ok (.ireturn, 1) := by decide +kernel
theorem dX8_perform_71 : decode cX8_perform 71 = .ok (.iinc 2 1, 3) := by decide +kernel
theorem dX8_perform_74 : decode cX8_perform 74 = .ok (.aload_n 0, 1) := by decide +kernel
theorem dX8_perform_75 : decode cX8_perform 75 = .ok (.dup, 1) := by decide +kernel
theorem dX8_perform_76 : decode cX8_perform 76 = .ok (.getfield 134, 3) := by decide +kernel
theorem dX8_perform_79 : decode cX8_perform 79 = .ok (.iconst 1, 1) := by decide +kernel
theorem dX8_perform_80 : decode cX8_perform 80 = .ok (.iadd, 1) := by decide +kernel
theorem dX8_perform_81 : decode cX8_perform 81 = .ok (.putfield 134, 3) := by decide +kernel
theorem dX8_perform_84 : decode cX8_perform 84 = .ok (.goto (-57), 3) := by decide +kernel
theorem dX8_perform_87 : decode cX8_perform 87 = .ok (.aload_n 0, 1) := by decide +kernel
theorem dX8_perform_88 : decode cX8_perform 88 = .ok (.invokevirtual 40, 3) := by decide +kernel
theorem dX8_perform_91 : decode cX8_perform 91 = .ok (.iload_n 2, 1) := by decide +kernel
theorem dX8_perform_92 : decode cX8_perform 92 = .ok (.ireturn, 1) := by decide +kernel
theorem dX8_fullStages_0 : decode cX8_fullStages 0 = .ok (.iconst 0, 1) := by decide +kernel
theorem dX8_fullStages_1 : decode cX8_fullStages 1 = .ok (.istore_n 1, 1) := by decide +kernel
theorem dX8_fullStages_2 : decode cX8_fullStages 2 = .ok (.iconst 0, 1) := by decide +kernel
theorem dX8_fullStages_3 : decode cX8_fullStages 3 = .ok (.istore_n 2, 1) := by decide +kernel
theorem dX8_fullStages_4 : decode cX8_fullStages 4 = .ok (.iload_n 2, 1) := by decide +kernel
theorem dX8_fullStages_5 : decode cX8_fullStages 5 = .ok (.bipush 6, 2) := by decide +kernel
theorem dX8_fullStages_7 : decode cX8_fullStages 7 = .ok (.if_icmp .ge 21, 3) := by decide +kernel
theorem dX8_fullStages_10 : decode cX8_fullStages 10 = .ok (.iload_n 1, 1) := by decide +kernel
theorem dX8_fullStages_11 : decode cX8_fullStages 11 = .ok (.aload_n 0, 1) := by decide +kernel
theorem dX8_fullStages_12 : decode cX8_fullStages 12 = .ok (.getfield 7, 3) := by decide +kernel
theorem dX8_fullStages_15 : decode cX8_fullStages 15 = .ok (.bipush 97, 2) := by decide +kernel
theorem dX8_fullStages_17 : decode cX8_fullStages 17 = .ok (.iload_n 2, 1) := by decide +kernel
theorem dX8_fullStages_18 : decode cX8_fullStages 18 = .ok (.iadd, 1) := by decide +kernel
theorem dX8_fullStages_19 : decode cX8_fullStages 19 = .ok (.iaload, 1) := by decide +kernel
theorem dX8_fullStages_20 : decode cX8_fullStages 20 = .ok (.iadd, 1) := by decide +kernel
theorem dX8_fullStages_21 : decode cX8_fullStages 21 = .ok (.istore_n 1, 1) := by decide +kernel
theorem dX8_fullStages_22 : decode cX8_fullStages 22 = .ok (.iinc 2 1, 3) := by decide +kernel
theorem dX8_fullStages_25 : decode cX8_fullStages 25 = .ok (.goto (-21), 3) := by decide +kernel
theorem dX8_fullStages_28 : decode cX8_fullStages 28 = .ok (.iload_n 1, 1) := by decide +kernel
theorem dX8_fullStages_29 : decode cX8_fullStages 29 = .ok (.ireturn, 1) := by decide +kernel
set_option maxRecDepth 20000 in
theorem ggX8_tellsLink_X8_end : GoodIn wsX8_tellsLink wsX8_end := goodIn_r _ [6, 1, 7, 8, 9, 10, 11, 12, 13, 14, 15, 16, 17, 18] (by decide +kernel) (by decide +kernel)
set_option maxRecDepth 20000 in
theorem gX8_tellsLink_X8_end : GoodIn wsX8_tellsLink (wsV RX8 58 RX8 yX8_end wsX8_end) := goodIn_app (goodIn_of _ (by decide +kernel)) ggX8_tellsLink_X8_end
theorem dX8_tellsLink_0 : decode cX8_tellsLink 0 = .ok (.iload_n 2, 1) := by decide +kernel
theorem dX8_tellsLink_1 : decode cX8_tellsLink 1 = .ok (.iconst 3, 1) := by decide +kernel
theorem dX8_tellsLink_2 : decode cX8_tellsLink 2 = .ok (.if_icmp .ge 17, 3) := by decide +kernel
theorem dX8_tellsLink_5 : decode cX8_tellsLink 5 = .ok (.aload_n 0, 1) := by decide +kernel
theorem dX8_tellsLink_6 : decode cX8_tellsLink 6 = .ok (.getfield 7, 3) := by decide +kernel
theorem dX8_tellsLink_9 : decode cX8_tellsLink 9 = .ok (.bipush 13, 2) := by decide +kernel
theorem dX8_tellsLink_11 : decode cX8_tellsLink 11 = .ok (.iconst 3, 1) := by decide +kernel
theorem dX8_tellsLink_12 : decode cX8_tellsLink 12 = .ok (.iload_n 1, 1) := by decide +kernel
theorem dX8_tellsLink_13 : decode cX8_tellsLink 13 = .ok (.imul, 1) := by decide +kernel
theorem dX8_tellsLink_14 : decode cX8_tellsLink 14 = .ok (.iadd, 1) := by decide +kernel
theorem dX8_tellsLink_15 : decode cX8_tellsLink 15 = .ok (.iload_n 2, 1) := by decide +kernel
theorem dX8_tellsLink_16 : decode cX8_tellsLink 16 = .ok (.iadd, 1) := by decide +kernel
theorem dX8_tellsLink_17 : decode cX8_tellsLink 17 = .ok (.iaload, 1) := by decide +kernel
theorem dX8_tellsLink_18 : decode cX8_tellsLink 18 = .ok (.ireturn, 1) := by decide +kernel
theorem dX8_tellsLink_19 : decode cX8_tellsLink 19 = .ok (.iload_n 2, 1) := by decide +kernel
theorem dX8_tellsLink_20 : decode cX8_tellsLink 20 = .ok (.bipush 9, 2) := by decide +kernel
theorem dX8_tellsLink_22 : decode cX8_tellsLink 22 = .ok (.if_icmp .ge 12, 3) := by decide +kernel
theorem dX8_tellsLink_25 : decode cX8_tellsLink 25 = .ok (.aload_n 0, 1) := by decide +kernel
theorem dX8_tellsLink_26 : decode cX8_tellsLink 26 = .ok (.iload_n 1, 1) := by decide +kernel
theorem dX8_tellsLink_27 : decode cX8_tellsLink 27 = .ok (.iload_n 2, 1) := by decide +kernel
theorem dX8_tellsLink_28 : decode cX8_tellsLink 28 = .ok (.iconst 3, 1) := by decide +kernel
theorem dX8_tellsLink_29 : decode cX8_tellsLink 29 = .ok (.isub, 1) := by decide +kernel
theorem dX8_tellsLink_30 : decode cX8_tellsLink 30 = .ok (.invokevirtual 58, 3) := by decide +kernel
theorem dX8_tellsLink_33 : decode cX8_tellsLink 33 = .ok (.ireturn, 1) := by decide +kernel
theorem dX8_tellsLink_34 : decode cX8_tellsLink 34 = .ok (.iload_n 2, 1) := by decide +kernel
theorem dX8_tellsLink_35 : decode cX8_tellsLink 35 = .ok (.tableswitch 55 9 11 #[25, 35, 45], 25) := by decide +kernel
theorem dX8_tellsLink_60 : decode cX8_tellsLink 60 = .ok (.aload_n 0, 1) := by decide +kernel
theorem dX8_tellsLink_61 : decode cX8_tellsLink 61 = .ok (.getfield 7, 3) := by decide +kernel
theorem dX8_tellsLink_64 : decode cX8_tellsLink 64 = .ok (.bipush 76, 2) := by decide +kernel
theorem dX8_tellsLink_66 : decode cX8_tellsLink 66 = .ok (.iload_n 1, 1) := by decide +kernel
theorem dX8_tellsLink_67 : decode cX8_tellsLink 67 = .ok (.iadd, 1) := by decide +kernel
theorem dX8_tellsLink_68 : decode cX8_tellsLink 68 = .ok (.iaload, 1) := by decide +kernel
theorem dX8_tellsLink_69 : decode cX8_tellsLink 69 = .ok (.ireturn, 1) := by decide +kernel
theorem dX8_tellsLink_70 : decode cX8_tellsLink 70 = .ok (.aload_n 0, 1) := by decide +kernel
theorem dX8_tellsLink_71 : decode cX8_tellsLink 71 = .ok (.getfield 7, 3) := by decide +kernel
theorem dX8_tellsLink_74 : decode cX8_tellsLink 74 = .ok (.bipush 83, 2) := by decide +kernel
theorem dX8_tellsLink_76 : decode cX8_tellsLink 76 = .ok (.iload_n 1, 1) := by decide +kernel
theorem dX8_tellsLink_77 : decode cX8_tellsLink 77 = .ok (.iadd, 1) := by decide +kernel
theorem dX8_tellsLink_78 : decode cX8_tellsLink 78 = .ok (.iaload, 1) := by decide +kernel
theorem dX8_tellsLink_79 : decode cX8_tellsLink 79 = .ok (.ireturn, 1) := by decide +kernel
theorem dX8_tellsLink_80 : decode cX8_tellsLink 80 = .ok (.aload_n 0, 1) := by decide +kernel
theorem dX8_tellsLink_81 : decode cX8_tellsLink 81 = .ok (.getfield 7, 3) := by decide +kernel
theorem dX8_tellsLink_84 : decode cX8_tellsLink 84 = .ok (.bipush 90, 2) := by decide +kernel
theorem dX8_tellsLink_86 : decode cX8_tellsLink 86 = .ok (.iload_n 1, 1) := by decide +kernel
theorem dX8_tellsLink_87 : decode cX8_tellsLink 87 = .ok (.iadd, 1) := by decide +kernel
theorem dX8_tellsLink_88 : decode cX8_tellsLink 88 = .ok (.iaload, 1) := by decide +kernel
theorem dX8_tellsLink_89 : decode cX8_tellsLink 89 = .ok (.ireturn, 1) := by decide +kernel
theorem dX8_tellsLink_90 : decode cX8_tellsLink 90 = .ok (.aload_n 0, 1) := by decide +kernel
theorem dX8_tellsLink_91 : decode cX8_tellsLink 91 = .ok (.getfield 7, 3) := by decide +kernel
theorem dX8_tellsLink_94 : decode cX8_tellsLink 94 = .ok (.bipush 13, 2) := by decide +kernel
theorem dX8_tellsLink_96 : decode cX8_tellsLink 96 = .ok (.iconst 3, 1) := by decide +kernel
theorem dX8_tellsLink_97 : decode cX8_tellsLink 97 = .ok (.iload_n 1, 1) := by decide +kernel
theorem dX8_tellsLink_98 : decode cX8_tellsLink 98 = .ok (.imul, 1) := by decide +kernel
theorem dX8_tellsLink_99 : decode cX8_tellsLink 99 = .ok (.iadd, 1) := by decide +kernel
theorem dX8_tellsLink_100 : decode cX8_tellsLink 100 = .ok (.iconst 0, 1) := by decide +kernel
theorem dX8_tellsLink_101 : decode cX8_tellsLink 101 = .ok (.iadd, 1) := by decide +kernel
theorem dX8_tellsLink_102 : decode cX8_tellsLink 102 = .ok (.iaload, 1) := by decide +kernel
theorem dX8_tellsLink_103 : decode cX8_tellsLink 103 = .ok (.aload_n 0, 1) := by decide +kernel
theorem dX8_tellsLink_104 : decode cX8_tellsLink 104 = .ok (.getfield 7, 3) := by decide +kernel
theorem dX8_tellsLink_107 : decode cX8_tellsLink 107 = .ok (.iconst 0, 1) := by decide +kernel
theorem dX8_tellsLink_108 : decode cX8_tellsLink 108 = .ok (.iaload, 1) := by decide +kernel
theorem dX8_tellsLink_109 : decode cX8_tellsLink 109 = .ok (.iadd, 1) := by decide +kernel
theorem dX8_tellsLink_110 : decode cX8_tellsLink 110 = .ok (.istore_n 3, 1) := by decide +kernel
theorem dX8_tellsLink_111 : decode cX8_tellsLink 111 = .ok (.aload_n 0, 1) := by decide +kernel
theorem dX8_tellsLink_112 : decode cX8_tellsLink 112 = .ok (.getfield 7, 3) := by decide +kernel
theorem dX8_tellsLink_115 : decode cX8_tellsLink 115 = .ok (.bipush 13, 2) := by decide +kernel
theorem dX8_tellsLink_117 : decode cX8_tellsLink 117 = .ok (.iconst 3, 1) := by decide +kernel
theorem dX8_tellsLink_118 : decode cX8_tellsLink 118 = .ok (.iload_n 1, 1) := by decide +kernel
theorem dX8_tellsLink_119 : decode cX8_tellsLink 119 = .ok (.imul, 1) := by decide +kernel
theorem dX8_tellsLink_120 : decode cX8_tellsLink 120 = .ok (.iadd, 1) := by decide +kernel
theorem dX8_tellsLink_121 : decode cX8_tellsLink 121 = .ok (.iconst 2, 1) := by decide +kernel
theorem dX8_tellsLink_122 : decode cX8_tellsLink 122 = .ok (.iadd, 1) := by decide +kernel
theorem dX8_tellsLink_123 : decode cX8_tellsLink 123 = .ok (.iaload, 1) := by decide +kernel
theorem dX8_tellsLink_124 : decode cX8_tellsLink 124 = .ok (.iload_n 3, 1) := by decide +kernel
theorem dX8_tellsLink_125 : decode cX8_tellsLink 125 = .ok (.if_icmp .gt 7, 3) := by decide +kernel
theorem dX8_tellsLink_128 : decode cX8_tellsLink 128 = .ok (.iconst 1, 1) := by decide +kernel
theorem dX8_tellsLink_129 : decode cX8_tellsLink 129 = .ok (.goto 4, 3) := by decide +kernel
theorem dX8_tellsLink_132 : decode cX8_tellsLink 132 = .ok (.iconst 0, 1) := by decide +kernel
theorem dX8_tellsLink_133 : decode cX8_tellsLink 133 = .ok (.ireturn, 1) := by decide +kernel
set_option maxRecDepth 20000 in
theorem ggX8_link_X8_isLink : GoodIn wsX8_link wsX8_isLink := goodIn_r _ [5, 6, 7, 8, 4, 9, 18, 19, 20, 21, 22, 23, 24, 25, 26, 27, 28, 29] (by decide +kernel) (by decide +kernel)
set_option maxRecDepth 20000 in
theorem gX8_link_X8_isLink : GoodIn wsX8_link (wsV RX8 103 RX8 yX8_isLink wsX8_isLink) := goodIn_app (goodIn_of _ (by decide +kernel)) ggX8_link_X8_isLink
set_option maxRecDepth 20000 in
theorem ggX8_link_X8_within : GoodIn wsX8_link wsX8_within := goodIn_r _ [9] (by decide +kernel) (by decide +kernel)
set_option maxRecDepth 20000 in
theorem gX8_link_X8_within : GoodIn wsX8_link (va_wsS RX8 29 yX8_within wsX8_within) := goodIn_app (goodIn_of _ (by decide +kernel)) ggX8_link_X8_within
set_option maxRecDepth 20000 in
theorem ggX8_link_X8_tellsLink : GoodIn wsX8_link wsX8_tellsLink := goodIn_r _ [13, 6, 14, 15, 16, 4, 17, 18, 19, 20, 21, 22, 23, 24, 25, 26, 27, 28, 29] (by decide +kernel) (by decide +kernel)
set_option maxRecDepth 20000 in
theorem gX8_link_X8_tellsLink : GoodIn wsX8_link (wsV RX8 168 RX8 yX8_tellsLink wsX8_tellsLink) := goodIn_app (goodIn_of _ (by decide +kernel)) ggX8_link_X8_tellsLink
