theorem dX8_link_0 : decode cX8_link 0 = .ok (.aload_n 0, 1) := by decide +kernel
theorem dX8_link_1 : decode cX8_link 1 = .ok (.iload_n 1, 1) := by decide +kernel
theorem dX8_link_2 : decode cX8_link 2 = .ok (.invokevirtual 103, 3) := by decide +kernel
theorem dX8_link_5 : decode cX8_link 5 = .ok (.ifCond .ne 5, 3) := by decide +kernel
theorem dX8_link_8 : decode cX8_link 8 = .ok (.iconst (-1), 1) := by decide +kernel
theorem dX8_link_9 : decode cX8_link 9 = .ok (.ireturn, 1) := by decide +kernel
theorem dX8_link_10 : decode cX8_link 10 = .ok (.iload_n 2, 1) := by decide +kernel
theorem dX8_link_11 : decode cX8_link 11 = .ok (.iconst 0, 1) := by decide +kernel
theorem dX8_link_12 : decode cX8_link 12 = .ok (.bipush 12, 2) := by decide +kernel
theorem dX8_link_14 : decode cX8_link 14 = .ok (.invokestatic 29, 3) := by decide +kernel
theorem dX8_link_17 : decode cX8_link 17 = .ok (.ifCond .eq 12, 3) := by decide +kernel
theorem dX8_link_20 : decode cX8_link 20 = .ok (.aload_n 0, 1) := by decide +kernel
theorem dX8_link_21 : decode cX8_link 21 = .ok (.iload_n 1, 1) := by decide +kernel
theorem dX8_link_22 : decode cX8_link 22 = .ok (.iload_n 2, 1) := by decide +kernel
theorem dX8_link_23 : decode cX8_link 23 = .ok (.invokevirtual 168, 3) := by decide +kernel
theorem dX8_link_26 : decode cX8_link 26 = .ok (.goto 5, 3) := by decide +kernel
theorem dX8_link_29 : decode cX8_link 29 = .ok (.bipush (-2), 2) := by decide +kernel
theorem dX8_link_31 : decode cX8_link 31 = .ok (.ireturn, 1) := by decide +kernel
set_option maxRecDepth 20000 in
theorem ggX8_stage_X8_within : GoodIn wsX8_stage wsX8_within := goodIn_r _ [5] (by decide +kernel) (by decide +kernel)
set_option maxRecDepth 20000 in
theorem gX8_stage_X8_within : GoodIn wsX8_stage (va_wsS RX8 29 yX8_within wsX8_within) := goodIn_app (goodIn_of _ (by decide +kernel)) ggX8_stage_X8_within
theorem dX8_stage_0 : decode cX8_stage 0 = .ok (.iload_n 1, 1) := by decide +kernel
theorem dX8_stage_1 : decode cX8_stage 1 = .ok (.iconst 0, 1) := by decide +kernel
theorem dX8_stage_2 : decode cX8_stage 2 = .ok (.aload_n 0, 1) := by decide +kernel
theorem dX8_stage_3 : decode cX8_stage 3 = .ok (.getfield 7, 3) := by decide +kernel
theorem dX8_stage_6 : decode cX8_stage 6 = .ok (.iconst 3, 1) := by decide +kernel
theorem dX8_stage_7 : decode cX8_stage 7 = .ok (.iaload, 1) := by decide +kernel
theorem dX8_stage_8 : decode cX8_stage 8 = .ok (.iconst 1, 1) := by decide +kernel
theorem dX8_stage_9 : decode cX8_stage 9 = .ok (.isub, 1) := by decide +kernel
theorem dX8_stage_10 : decode cX8_stage 10 = .ok (.invokestatic 29, 3) := by decide +kernel
theorem dX8_stage_13 : decode cX8_stage 13 = .ok (.ifCond .ne 5, 3) := by decide +kernel
theorem dX8_stage_16 : decode cX8_stage 16 = .ok (.iconst (-1), 1) := by decide +kernel
theorem dX8_stage_17 : decode cX8_stage 17 = .ok (.ireturn, 1) := by decide +kernel
theorem dX8_stage_18 : decode cX8_stage 18 = .ok (.aload_n 0, 1) := by decide +kernel
theorem dX8_stage_19 : decode cX8_stage 19 = .ok (.getfield 7, 3) := by decide +kernel
theorem dX8_stage_22 : decode cX8_stage 22 = .ok (.bipush 97, 2) := by decide +kernel
theorem dX8_stage_24 : decode cX8_stage 24 = .ok (.iload_n 1, 1) := by decide +kernel
theorem dX8_stage_25 : decode cX8_stage 25 = .ok (.iadd, 1) := by decide +kernel
theorem dX8_stage_26 : decode cX8_stage 26 = .ok (.iaload, 1) := by decide +kernel
theorem dX8_stage_27 : decode cX8_stage 27 = .ok (.iconst 1, 1) := by decide +kernel
theorem dX8_stage_28 : decode cX8_stage 28 = .ok (.if_icmp .ne 15, 3) := by decide +kernel
theorem dX8_stage_31 : decode cX8_stage 31 = .ok (.aload_n 0, 1) := by decide +kernel
theorem dX8_stage_32 : decode cX8_stage 32 = .ok (.getfield 7, 3) := by decide +kernel
theorem dX8_stage_35 : decode cX8_stage 35 = .ok (.bipush 103, 2) := by decide +kernel
theorem dX8_stage_37 : decode cX8_stage 37 = .ok (.iload_n 1, 1) := by decide +kernel
theorem dX8_stage_38 : decode cX8_stage 38 = .ok (.iadd, 1) := by decide +kernel
theorem dX8_stage_39 : decode cX8_stage 39 = .ok (.iaload, 1) := by decide +kernel
theorem dX8_stage_40 : decode cX8_stage 40 = .ok (.goto 5, 3) := by decide +kernel
theorem dX8_stage_43 : decode cX8_stage 43 = .ok (.bipush (-5), 2) := by decide +kernel
theorem dX8_stage_45 : decode cX8_stage 45 = .ok (.ireturn, 1) := by decide +kernel
set_option maxRecDepth 20000 in
theorem ggX8_waiting_X8_isSender : GoodIn wsX8_waiting wsX8_isSender := goodIn_r _ [5, 6, 7, 4, 8] (by decide +kernel) (by decide +kernel)
set_option maxRecDepth 20000 in
theorem gX8_waiting_X8_isSender : GoodIn wsX8_waiting (va_wsS RX8 95 yX8_isSender wsX8_isSender) := goodIn_app (goodIn_of _ (by decide +kernel)) ggX8_waiting_X8_isSender
theorem dX8_waiting_0 : decode cX8_waiting 0 = .ok (.iload_n 1, 1) := by decide +kernel
theorem dX8_waiting_1 : decode cX8_waiting 1 = .ok (.invokestatic 95, 3) := by decide +kernel
theorem dX8_waiting_4 : decode cX8_waiting 4 = .ok (.ifCond .ne 5, 3) := by decide +kernel
theorem dX8_waiting_7 : decode cX8_waiting 7 = .ok (.iconst (-1), 1) := by decide +kernel
theorem dX8_waiting_8 : decode cX8_waiting 8 = .ok (.ireturn, 1) := by decide +kernel
theorem dX8_waiting_9 : decode cX8_waiting 9 = .ok (.iload_n 2, 1) := by decide +kernel
theorem dX8_waiting_10 : decode cX8_waiting 10 = .ok (.ifCond .ge 6, 3) := by decide +kernel
theorem dX8_waiting_13 : decode cX8_waiting 13 = .ok (.bipush (-2), 2) := by decide +kernel
theorem dX8_waiting_15 : decode cX8_waiting 15 = .ok (.ireturn, 1) := by decide +kernel
theorem dX8_waiting_16 : decode cX8_waiting 16 = .ok (.iload_n 2, 1) := by decide +kernel
theorem dX8_waiting_17 : decode cX8_waiting 17 = .ok (.aload_n 0, 1) := by decide +kernel
theorem dX8_waiting_18 : decode cX8_waiting 18 = .ok (.getfield 7, 3) := by decide +kernel
theorem dX8_waiting_21 : decode cX8_waiting 21 = .ok (.bipush 11, 2) := by decide +kernel
theorem dX8_waiting_23 : decode cX8_waiting 23 = .ok (.iload_n 1, 1) := by decide +kernel
theorem dX8_waiting_24 : decode cX8_waiting 24 = .ok (.iadd, 1) := by decide +kernel
theorem dX8_waiting_25 : decode cX8_waiting 25 = .ok (.iaload, 1) := by decide +kernel
theorem dX8_waiting_26 : decode cX8_waiting 26 = .ok (.if_icmp .ge 20, 3) := by decide +kernel
theorem dX8_waiting_29 : decode cX8_waiting 29 = .ok (.aload_n 0, 1) := by decide +kernel
theorem dX8_waiting_30 : decode cX8_waiting 30 = .ok (.getfield 7, 3) := by decide +kernel
theorem dX8_waiting_33 : decode cX8_waiting 33 = .ok (.bipush 109, 2) := by decide +kernel
theorem dX8_waiting_35 : decode cX8_waiting 35 = .ok (.bipush 20, 2) := by decide +kernel
theorem dX8_waiting_37 : decode cX8_waiting 37 = .ok (.iload_n 1, 1) := by decide +kernel
theorem dX8_waiting_38 : decode cX8_waiting 38 = .ok (.imul, 1) := by decide +kernel
theorem dX8_waiting_39 : decode cX8_waiting 39 = .ok (.iadd, 1) := by decide +kernel
theorem dX8_waiting_40 : decode cX8_waiting 40 = .ok (.iload_n 2, 1) := by decide +kernel
theorem dX8_waiting_41 : decode cX8_waiting 41 = .ok (.iadd, 1) := by decide +kernel
theorem dX8_waiting_42 : decode cX8_waiting 42 = .ok (.iaload, 1) := by decide +kernel
theorem dX8_waiting_43 : decode cX8_waiting 43 = .ok (.goto 5, 3) := by decide +kernel
theorem dX8_waiting_46 : decode cX8_waiting 46 = .ok (.bipush (-5), 2) := by decide +kernel
theorem dX8_waiting_48 : decode cX8_waiting 48 = .ok (.ireturn, 1) := by decide +kernel
set_option maxRecDepth 20000 in
theorem ggX8_noted_X8_within : GoodIn wsX8_noted wsX8_within := goodIn_r _ [5] (by decide +kernel) (by decide +kernel)
set_option maxRecDepth 20000 in
theorem gX8_noted_X8_within : GoodIn wsX8_noted (va_wsS RX8 29 yX8_within wsX8_within) := goodIn_app (goodIn_of _ (by decide +kernel)) ggX8_noted_X8_within
theorem dX8_noted_0 : decode cX8_noted 0 = .ok (.iload_n 1, 1) := by decide +kernel
theorem dX8_noted_1 : decode cX8_noted 1 = .ok (.ifCond .lt 12, 3) := by decide +kernel
theorem dX8_noted_4 : decode cX8_noted 4 = .ok (.iload_n 2, 1) := by decide +kernel
theorem dX8_noted_5 : decode cX8_noted 5 = .ok (.iconst 0, 1) := by decide +kernel
theorem dX8_noted_6 : decode cX8_noted 6 = .ok (.iconst 2, 1) := by decide +kernel
theorem dX8_noted_7 : decode cX8_noted 7 = .ok (.invokestatic 29, 3) := by decide +kernel
theorem dX8_noted_10 : decode cX8_noted 10 = .ok (.ifCond .ne 6, 3) := by decide +kernel
theorem dX8_noted_13 : decode cX8_noted 13 = .ok (.bipush (-2), 2) := by decide +kernel
theorem dX8_noted_15 : decode cX8_noted 15 = .ok (.ireturn, 1) := by decide +kernel
theorem dX8_noted_16 : decode cX8_noted 16 = .ok (.iload_n 1, 1) := by decide +kernel
theorem dX8_noted_17 : decode cX8_noted 17 = .ok (.bipush 50, 2) := by decide +kernel
theorem dX8_noted_19 : decode cX8_noted 19 = .ok (.if_icmp .ge 30, 3) := by decide +kernel
theorem dX8_noted_22 : decode cX8_noted 22 = .ok (.iload_n 1, 1) := by decide +kernel
theorem dX8_noted_23 : decode cX8_noted 23 = .ok (.aload_n 0, 1) := by decide +kernel
theorem dX8_noted_24 : decode cX8_noted 24 = .ok (.getfield 7, 3) := by decide +kernel
theorem dX8_noted_27 : decode cX8_noted 27 = .ok (.iconst 5, 1) := by decide +kernel
theorem dX8_noted_28 : decode cX8_noted 28 = .ok (.iaload, 1) := by decide +kernel
theorem dX8_noted_29 : decode cX8_noted 29 = .ok (.if_icmp .ge 20, 3) := by decide +kernel
theorem dX8_noted_32 : decode cX8_noted 32 = .ok (.aload_n 0, 1) := by decide +kernel
theorem dX8_noted_33 : decode cX8_noted 33 = .ok (.getfield 7, 3) := by decide +kernel
theorem dX8_noted_36 : decode cX8_noted 36 = .ok (.sipush 169, 3) := by decide +kernel
theorem dX8_noted_39 : decode cX8_noted 39 = .ok (.iconst 3, 1) := by decide +kernel
theorem dX8_noted_40 : decode cX8_noted 40 = .ok (.iload_n 1, 1) := by decide +kernel
theorem dX8_noted_41 : decode cX8_noted 41 = .ok (.imul, 1) := by decide +kernel
theorem dX8_noted_42 : decode cX8_noted 42 = .ok (.iadd, 1) := by decide +kernel
theorem dX8_noted_43 : decode cX8_noted 43 = .ok (.iload_n 2, 1) := by decide +kernel
theorem dX8_noted_44 : decode cX8_noted 44 = .ok (.iadd, 1) := by decide +kernel
theorem dX8_noted_45 : decode cX8_noted 45 = .ok (.iaload, 1) := by decide +kernel
theorem dX8_noted_46 : decode cX8_noted 46 = .ok (.goto 5, 3) := by decide +kernel
theorem dX8_noted_49 : decode cX8_noted 49 = .ok (.bipush (-5), 2) := by decide +kernel
theorem dX8_noted_51 : decode cX8_noted 51 = .ok (.ireturn, 1) := by decide +kernel
set_option maxRecDepth 20000 in
theorem ggX8_total_X8_fullStages : GoodIn wsX8_total wsX8_fullStages := goodIn_r _ [8, 1, 9, 10, 11, 12, 13, 14, 15, 16, 17, 18, 19, 20] (by decide +kernel) (by decide +kernel)
set_option maxRecDepth 20000 in
theorem gX8_total_X8_fullStages : GoodIn wsX8_total (wsV RX8 109 RX8 yX8_fullStages wsX8_fullStages) := goodIn_app (goodIn_of _ (by decide +kernel)) ggX8_total_X8_fullStages
theorem dX8_total_0 : decode cX8_total 0 = .ok (.iload_n 1, 1) := by decide +kernel
theorem dX8_total_1 : decode cX8_total 1 = .ok (.tableswitch 177 0 14 #[75, 82, 89, 105, 110, 118, 126, 133, 141, 149, 157, 157, 157, 167, 172], 75) := by decide +kernel
theorem dX8_total_76 : decode cX8_total 76 = .ok (.aload_n 0, 1) := by decide +kernel
theorem dX8_total_77 : decode cX8_total 77 = .ok (.getfield 7, 3) := by decide +kernel
theorem dX8_total_80 : decode cX8_total 80 = .ok (.iconst 3, 1) := by decide +kernel
theorem dX8_total_81 : decode cX8_total 81 = .ok (.iaload, 1) := by decide +kernel
theorem dX8_total_82 : decode cX8_total 82 = .ok (.ireturn, 1) := by decide +kernel
theorem dX8_total_83 : decode cX8_total 83 = .ok (.aload_n 0, 1) := by decide +kernel
theorem dX8_total_84 : decode cX8_total 84 = .ok (.getfield 7, 3) := by decide +kernel
theorem dX8_total_87 : decode cX8_total 87 = .ok (.iconst 4, 1) := by decide +kernel
theorem dX8_total_88 : decode cX8_total 88 = .ok (.iaload, 1) := by decide +kernel
theorem dX8_total_89 : decode cX8_total 89 = .ok (.ireturn, 1) := by decide +kernel
theorem dX8_total_90 : decode cX8_total 90 = .ok (.aload_n 0, 1) := by decide +kernel
theorem dX8_total_91 : decode cX8_total 91 = .ok (.getfield 7, 3) := by decide +kernel
theorem dX8_total_94 : decode cX8_total 94 = .ok (.bipush 11, 2) := by decide +kernel
theorem dX8_total_96 : decode cX8_total 96 = .ok (.iaload, 1) := by decide +kernel
theorem dX8_total_97 : decode cX8_total 97 = .ok (.aload_n 0, 1) := by decide +kernel
theorem dX8_total_98 : decode cX8_total 98 = .ok (.getfield 7, 3) := by decide +kernel
theorem dX8_total_101 : decode cX8_total 101 = .ok (.bipush 12, 2) := by decide +kernel
theorem dX8_total_103 : decode cX8_total 103 = .ok (.iaload, 1) := by decide +kernel
theorem dX8_total_104 : decode cX8_total 104 = .ok (.iadd, 1) := by decide +kernel
theorem dX8_total_105 : decode cX8_total 105 = .ok (.ireturn, 1) := by decide +kernel
theorem dX8_total_106 : decode cX8_total 106 = .ok (.aload_n 0, 1) := by decide +kernel
theorem dX8_total_107 : decode cX8_total 107 = .ok (.invokevirtual 109, 3) := by decide +kernel
theorem dX8_total_110 : decode cX8_total 110 = .ok (.ireturn, 1) := by decide +kernel
theorem dX8_total_111 : decode cX8_total 111 = .ok (.aload_n 0, 1) := by decide +kernel
theorem dX8_total_112 : decode cX8_total 112 = .ok (.getfield 7, 3) := by decide +kernel
theorem dX8_total_115 : decode cX8_total 115 = .ok (.bipush 10, 2) := by decide +kernel
theorem dX8_total_117 : decode cX8_total 117 = .ok (.iaload, 1) := by decide +kernel
theorem dX8_total_118 : decode cX8_total 118 = .ok (.ireturn, 1) := by decide +kernel
theorem dX8_total_119 : decode cX8_total 119 = .ok (.aload_n 0, 1) := by decide +kernel
theorem dX8_total_120 : decode cX8_total 120 = .ok (.getfield 7, 3) := by decide +kernel
theorem dX8_total_123 : decode cX8_total 123 = .ok (.bipush 90, 2) := by decide +kernel
theorem dX8_total_125 : decode cX8_total 125 = .ok (.iaload, 1) := by decide +kernel
theorem dX8_total_126 : decode cX8_total 126 = .ok (.ireturn, 1) := by decide +kernel
theorem dX8_total_127 : decode cX8_total 127 = .ok (.aload_n 0, 1) := by decide +kernel
theorem dX8_total_128 : decode cX8_total 128 = .ok (.getfield 7, 3) := by decide +kernel
theorem dX8_total_131 : decode cX8_total 131 = .ok (.iconst 5, 1) := by decide +kernel
theorem dX8_total_132 : decode cX8_total 132 = .ok (.iaload, 1) := by decide +kernel
theorem dX8_total_133 : decode cX8_total 133 = .ok (.ireturn, 1) := by decide +kernel
theorem dX8_total_134 : decode cX8_total 134 = .ok (.aload_n 0, 1) := by decide +kernel
theorem dX8_total_135 : decode cX8_total 135 = .ok (.getfield 7, 3) := by decide +kernel
theorem dX8_total_138 : decode cX8_total 138 = .ok (.bipush 6, 2) := by decide +kernel
theorem dX8_total_140 : decode cX8_total 140 = .ok (.iaload, 1) := by decide +kernel
theorem dX8_total_141 : decode cX8_total 141 = .ok (.ireturn, 1) := by decide +kernel
theorem dX8_total_142 : decode cX8_total 142 = .ok (.aload_n 0, 1) := by decide +kernel
theorem dX8_total_143 : decode cX8_total 143 = .ok (.getfield 7, 3) := by decide +kernel
theorem dX8_total_146 : decode cX8_total 146 = .ok (.bipush 7, 2) := by decide +kernel
theorem dX8_total_148 : decode cX8_total 148 = .ok (.iaload, 1) := by decide +kernel
theorem dX8_total_149 : decode cX8_total 149 = .ok (.ireturn, 1) := by decide +kernel
theorem dX8_total_150 : decode cX8_total 150 = .ok (.aload_n 0, 1) := by decide +kernel
theorem dX8_total_151 : decode cX8_total 151 = .ok (.getfield 7, 3) := by decide +kernel
theorem dX8_total_154 : decode cX8_total 154 = .ok (.bipush 8, 2) := by decide +kernel
theorem dX8_total_156 : decode cX8_total 156 = .ok (.iaload, 1) := by decide +kernel
theorem dX8_total_157 : decode cX8_total 157 = .ok (.ireturn, 1) := by decide +kernel
theorem dX8_total_158 : decode cX8_total 158 = .ok (.aload_n 0, 1) := by decide +kernel
theorem dX8_total_159 : decode cX8_total 159 = .ok (.getfield 7, 3) := by decide +kernel
theorem dX8_total_162 : decode cX8_total 162 = .ok (.iload_n 1, 1) := by decide +kernel
theorem dX8_total_163 : decode cX8_total 163 = .ok (.bipush 10, 2) := by decide +kernel
theorem dX8_total_165 : decode cX8_total 165 = .ok (.isub, 1) := by decide +kernel
theorem dX8_total_166 : decode cX8_total 166 = .ok (.iaload, 1) := by decide +kernel
theorem dX8_total_167 : decode cX8_total 167 = .ok (.ireturn, 1) := by decide +kernel
theorem dX8_total_168 : decode cX8_total 168 = .ok (.aload_n 0, 1) := by decide +kernel
theorem dX8_total_169 : decode cX8_total 169 = .ok (.getfield 33, 3) := by decide +kernel
theorem dX8_total_172 : decode cX8_total 172 = .ok (.ireturn, 1) := by decide +kernel
theorem dX8_total_173 : decode cX8_total 173 = .ok (.aload_n 0, 1) := by decide +kernel
theorem dX8_total_174 : decode cX8_total 174 = .ok (.getfield 131, 3) := by decide +kernel
theorem dX8_total_177 : decode cX8_total 177 = .ok (.ireturn, 1) := by decide +kernel
theorem dX8_total_178 : decode cX8_total 178 = .ok (.bipush (-2), 2) := by decide +kernel
theorem dX8_total_180 : decode cX8_total 180 = .ok (.ireturn, 1) := by decide +kernel
set_option maxRecDepth 20000 in
theorem ggX8_next_X8_nextChange : GoodIn wsX8_next wsX8_nextChange := goodIn_r _ [5, 6, 7, 8, 9, 4, 10, 11, 12, 13, 14, 15, 16, 17, 18, 19, 20, 21, 22] (by decide +kernel) (by decide +kernel)
set_option maxRecDepth 20000 in
theorem gX8_next_X8_nextChange : GoodIn wsX8_next (wsV RX8 88 RX8 yX8_nextChange wsX8_nextChange) := goodIn_app (goodIn_of _ (by decide +kernel)) ggX8_next_X8_nextChange
set_option maxRecDepth 20000 in
theorem ggX8_next_X8_whenOf : GoodIn wsX8_next wsX8_whenOf := goodIn_r _ [10, 6, 11, 12, 13, 14, 15, 16, 17, 18, 19, 20, 21, 22] (by decide +kernel) (by decide +kernel)
set_option maxRecDepth 20000 in
theorem gX8_next_X8_whenOf : GoodIn wsX8_next (wsV RX8 78 RX8 yX8_whenOf wsX8_whenOf) := goodIn_app (goodIn_of _ (by decide +kernel)) ggX8_next_X8_whenOf
theorem dX8_next_0 : decode cX8_next 0 = .ok (.aload_n 0, 1) := by decide +kernel
theorem dX8_next_1 : decode cX8_next 1 = .ok (.invokevirtual 88, 3) := by decide +kernel
theorem dX8_next_4 : decode cX8_next 4 = .ok (.istore_n 1, 1) := by decide +kernel
theorem dX8_next_5 : decode cX8_next 5 = .ok (.iload_n 1, 1) := by decide +kernel
theorem dX8_next_6 : decode cX8_next 6 = .ok (.bipush (-5), 2) := by decide +kernel
theorem dX8_next_8 : decode cX8_next 8 = .ok (.if_icmp .ne 8, 3) := by decide +kernel
theorem dX8_next_11 : decode cX8_next 11 = .ok (.bipush (-5), 2) := by decide +kernel
theorem dX8_next_13 : decode cX8_next 13 = .ok (.goto 8, 3) := by decide +kernel
theorem dX8_next_16 : decode cX8_next 16 = .ok (.aload_n 0, 1) := by decide +kernel
theorem dX8_next_17 : decode cX8_next 17 = .ok (.iload_n 1, 1) := by decide +kernel
theorem dX8_next_18 : decode cX8_next 18 = .ok (.invokevirtual 78, 3) := by decide +kernel
theorem dX8_next_21 : decode cX8_next 21 = .ok (.ireturn, 1) := by decide +kernel
set_option maxRecDepth 20000 in
theorem ggX8_quietIn_X8_putAside : GoodIn wsX8_quietIn wsX8_putAside := goodIn_r _ [5, 6, 7, 68, 69, 70, 71, 72, 73, 74, 75, 76, 77, 78, 79] (by decide +kernel) (by decide +kernel)
set_option maxRecDepth 20000 in
theorem gX8_quietIn_X8_putAside : GoodIn wsX8_quietIn (wsV RX8 37 RX8 yX8_putAside wsX8_putAside) := goodIn_app (goodIn_of _ (by decide +kernel)) ggX8_quietIn_X8_putAside
set_option maxRecDepth 20000 in
theorem ggX8_quietIn_X8_settle : GoodIn wsX8_quietIn wsX8_settle := goodIn_r _ [11, 7, 12, 13, 14, 4, 15, 16, 17, 18, 19, 20, 21, 22, 23, 24, 25, 26, 27, 28, 29, 30, 31, 32, 33, 34, 35, 36, 37, 38, 39, 40, 41, 42, 43, 44, 45, 46, 47, 48, 49, 50, 51, 52, 53, 54, 55, 56, 57, 58, 59, 60, 61, 62, 63, 68, 69, 70, 71, 72, 73, 74, 75, 76, 77, 78, 79] (by decide +kernel) (by decide +kernel)
set_option maxRecDepth 20000 in
theorem gX8_quietIn_X8_settle : GoodIn wsX8_quietIn (wsV RX8 121 RX8 yX8_settle wsX8_settle) := goodIn_app (goodIn_of _ (by decide +kernel)) ggX8_quietIn_X8_settle
set_option maxRecDepth 20000 in
theorem ggX8_quietIn_X8_takeBack : GoodIn wsX8_quietIn wsX8_takeBack := goodIn_r _ [67, 7, 6, 68, 69, 70, 71, 72, 73, 74, 75, 76, 77, 78, 79] (by decide +kernel) (by decide +kernel)
set_option maxRecDepth 20000 in
theorem gX8_quietIn_X8_takeBack : GoodIn wsX8_quietIn (wsV RX8 124 RX8 yX8_takeBack wsX8_takeBack) := goodIn_app (goodIn_of _ (by decide +kernel)) ggX8_quietIn_X8_takeBack
theorem dX8_quietIn_0 : decode cX8_quietIn 0 = .ok (.aload_n 0, 1) := by decide +kernel
theorem dX8_quietIn_1 : decode cX8_quietIn 1 = .ok (.invokevirtual 37, 3) := by decide +kernel
theorem dX8_quietIn_4 : decode cX8_quietIn 4 = .ok (.aload_n 0, 1) := by decide +kernel
theorem dX8_quietIn_5 : decode cX8_quietIn 5 = .ok (.invokevirtual 121, 3) := by decide +kernel
theorem dX8_quietIn_8 : decode cX8_quietIn 8 = .ok (.istore_n 1, 1) := by decide +kernel
theorem dX8_quietIn_9 : decode cX8_quietIn 9 = .ok (.aload_n 0, 1) := by decide +kernel
theorem dX8_quietIn_10 : decode cX8_quietIn 10 = .ok (.invokevirtual 124, 3) := by decide +kernel
theorem dX8_quietIn_13 : decode cX8_quietIn 13 = .ok (.iload_n 1, 1) := by decide +kernel
theorem dX8_quietIn_14 : decode cX8_quietIn 14 = .ok (.ireturn, 1) := by decide +kernel
set_option maxRecDepth 20000 in
theorem ggX8_withLead_X8_putAside : GoodIn wsX8_withLead wsX8_putAside := goodIn_r _ [7, 2, 1, 68, 69, 70, 71, 72, 73, 74, 75, 76, 77, 78, 79] (by decide +kernel) (by decide +kernel)
set_option maxRecDepth 20000 in
theorem gX8_withLead_X8_putAside : GoodIn wsX8_withLead (wsV RX8 37 RX8 yX8_putAside wsX8_putAside) := goodIn_app (goodIn_of _ (by decide +kernel)) ggX8_withLead_X8_putAside
set_option maxRecDepth 20000 in
theorem ggX8_withLead_X8_settle : GoodIn wsX8_withLead wsX8_settle := goodIn_r _ [11, 1, 12, 13, 14, 6, 15, 16, 17, 18, 19, 20, 21, 22, 23, 24, 25, 26, 27, 28, 29, 30, 31, 32, 33, 34, 35, 36, 37, 38, 39, 40, 41, 42, 43, 44, 45, 46, 47, 48, 49, 50, 51, 52, 53, 54, 55, 56, 57, 58, 59, 60, 61, 62, 63, 68, 69, 70, 71, 72, 73, 74, 75, 76, 77, 78, 79] (by decide +kernel) (by decide +kernel)
set_option maxRecDepth 20000 in
theorem gX8_withLead_X8_settle : GoodIn wsX8_withLead (wsV RX8 121 RX8 yX8_settle wsX8_settle) := goodIn_app (goodIn_of _ (by decide +kernel)) ggX8_withLead_X8_settle
set_option maxRecDepth 20000 in
theorem ggX8_withLead_X8_takeBack : GoodIn wsX8_withLead wsX8_takeBack := goodIn_r _ [67, 1, 2, 68, 69, 70, 71, 72, 73, 74, 75, 76, 77, 78, 79] (by decide +kernel) (by decide +kernel)
set_option maxRecDepth 20000 in
theorem gX8_withLead_X8_takeBack : GoodIn wsX8_withLead (wsV RX8 124 RX8 yX8_takeBack wsX8_takeBack) := goodIn_app (goodIn_of _ (by decide +kernel)) ggX8_withLead_X8_takeBack
theorem dX8_withLead_0 : decode cX8_withLead 0 = .ok (.aload_n 0, 1) := by decide +kernel
theorem dX8_withLead_1 : decode cX8_withLead 1 = .ok (.invokevirtual 37, 3) := by decide +kernel
theorem dX8_withLead_4 : decode cX8_withLead 4 = .ok (.aload_n 0, 1) := by decide +kernel
theorem dX8_withLead_5 : decode cX8_withLead 5 = .ok (.getfield 7, 3) := by decide +kernel
theorem dX8_withLead_8 : decode cX8_withLead 8 = .ok (.iconst 0, 1) := by decide +kernel
theorem dX8_withLead_9 : decode cX8_withLead 9 = .ok (.iload_n 1, 1) := by decide +kernel
theorem dX8_withLead_10 : decode cX8_withLead 10 = .ok (.iastore, 1) := by decide +kernel
theorem dX8_withLead_11 : decode cX8_withLead 11 = .ok (.aload_n 0, 1) := by decide +kernel
theorem dX8_withLead_12 : decode cX8_withLead 12 = .ok (.invokevirtual 121, 3) := by decide +kernel
theorem dX8_withLead_15 : decode cX8_withLead 15 = .ok (.istore_n 3, 1) := by decide +kernel
theorem dX8_withLead_16 : decode cX8_withLead 16 = .ok (.aload_n 0, 1) := by decide +kernel
theorem dX8_withLead_17 : decode cX8_withLead 17 = .ok (.getfield 7, 3) := by decide +kernel
theorem dX8_withLead_20 : decode cX8_withLead 20 = .ok (.iconst 5, 1) := by decide +kernel
theorem dX8_withLead_21 : decode cX8_withLead 21 = .ok (.iaload, 1) := by decide +kernel
theorem dX8_withLead_22 : decode cX8_withLead 22 = .ok (.aload_n 0, 1) := by decide +kernel
theorem dX8_withLead_23 : decode cX8_withLead 23 = .ok (.getfield 13, 3) := by decide +kernel
theorem dX8_withLead_26 : decode cX8_withLead 26 = .ok (.iconst 5, 1) := by decide +kernel
theorem dX8_withLead_27 : decode cX8_withLead 27 = .ok (.iaload, 1) := by decide +kernel
theorem dX8_withLead_28 : decode cX8_withLead 28 = .ok (.isub, 1) := by decide +kernel
theorem dX8_withLead_29 : decode cX8_withLead 29 = .ok (.istore 4, 2) := by decide +kernel
theorem dX8_withLead_31 : decode cX8_withLead 31 = .ok (.iload 4, 2) := by decide +kernel
theorem dX8_withLead_33 : decode cX8_withLead 33 = .ok (.aload_n 0, 1) := by decide +kernel
theorem dX8_withLead_34 : decode cX8_withLead 34 = .ok (.getfield 7, 3) := by decide +kernel
theorem dX8_withLead_37 : decode cX8_withLead 37 = .ok (.bipush 6, 2) := by decide +kernel
theorem dX8_withLead_39 : decode cX8_withLead 39 = .ok (.iaload, 1) := by decide +kernel
theorem dX8_withLead_40 : decode cX8_withLead 40 = .ok (.isub, 1) := by decide +kernel
theorem dX8_withLead_41 : decode cX8_withLead 41 = .ok (.aload_n 0, 1) := by decide +kernel
theorem dX8_withLead_42 : decode cX8_withLead 42 = .ok (.getfield 13, 3) := by decide +kernel
theorem dX8_withLead_45 : decode cX8_withLead 45 = .ok (.bipush 6, 2) := by decide +kernel
theorem dX8_withLead_47 : decode cX8_withLead 47 = .ok (.iaload, 1) := by decide +kernel
theorem dX8_withLead_48 : decode cX8_withLead 48 = .ok (.iadd, 1) := by decide +kernel
theorem dX8_withLead_49 : decode cX8_withLead 49 = .ok (.istore 5, 2) := by decide +kernel
theorem dX8_withLead_51 : decode cX8_withLead 51 = .ok (.aload_n 0, 1) := by decide +kernel
theorem dX8_withLead_52 : decode cX8_withLead 52 = .ok (.invokevirtual 124, 3) := by decide +kernel
theorem dX8_withLead_55 : decode cX8_withLead 55 = .ok (.iload_n 2, 1) := by decide +kernel
theorem dX8_withLead_56 : decode cX8_withLead 56 = .ok (.ifCond .ne 7, 3) := by decide +kernel
theorem dX8_withLead_59 : decode cX8_withLead 59 = .ok (.iload_n 3, 1) := by decide +kernel
theorem dX8_withLead_60 : decode cX8_withLead 60 = .ok (.goto 15, 3) := by decide +kernel
theorem dX8_withLead_63 : decode cX8_withLead 63 = .ok (.iload_n 2, 1) := by decide +kernel
theorem dX8_withLead_64 : decode cX8_withLead 64 = .ok (.iconst 1, 1) := by decide +kernel
theorem dX8_withLead_65 : decode cX8_withLead 65 = .ok (.if_icmp .ne 8, 3) := by decide +kernel
theorem dX8_withLead_68 : decode cX8_withLead 68 = .ok (.iload 4, 2) := by decide +kernel
theorem dX8_withLead_70 : decode cX8_withLead 70 = .ok (.goto 5, 3) := by decide +kernel
theorem dX8_withLead_73 : decode cX8_withLead 73 = .ok (.iload 5, 2) := by decide +kernel
theorem dX8_withLead_75 : decode cX8_withLead 75 = .ok (.ireturn, 1) := by decide +kernel
set_option maxRecDepth 20000 in
theorem ggX8_ifLead_X8_within : GoodIn wsX8_ifLead wsX8_within := goodIn_r _ [4] (by decide +kernel) (by decide +kernel)
set_option maxRecDepth 20000 in
theorem gX8_ifLead_X8_within : GoodIn wsX8_ifLead (va_wsS RX8 29 yX8_within wsX8_within) := goodIn_app (goodIn_of _ (by decide +kernel)) ggX8_ifLead_X8_within
set_option maxRecDepth 20000 in
theorem ggX8_ifLead_X8_withLead : GoodIn wsX8_ifLead wsX8_withLead := goodIn_r _ [8, 9, 10, 11, 12, 13, 3, 14, 15, 16, 17, 18, 19, 20, 21, 22, 23, 24, 25, 26, 27, 28, 29, 30, 31, 32, 33, 34, 35, 36, 37, 38, 39, 40, 41, 42, 43, 44, 45, 46, 47, 48, 49, 50, 51, 52, 53, 54, 55, 56, 57, 58, 59, 60, 61, 62, 63, 64, 65, 66, 67, 68, 69, 70, 71, 72, 73, 74, 75, 76, 77, 78, 79, 80, 81, 82, 83, 84, 85, 86] (by decide +kernel) (by decide +kernel)
set_option maxRecDepth 20000 in
theorem gX8_ifLead_X8_withLead : GoodIn wsX8_ifLead (wsV RX8 171 RX8 yX8_withLead wsX8_withLead) := goodIn_app (goodIn_of _ (by decide +kernel)) ggX8_ifLead_X8_withLead
theorem dX8_ifLead_0 : decode cX8_ifLead 0 = .ok (.iload_n 1, 1) := by decide +kernel
theorem dX8_ifLead_1 : decode cX8_ifLead 1 = .ok (.iconst 0, 1) := by decide +kernel
theorem dX8_ifLead_2 : decode cX8_ifLead 2 = .ok (.bipush 20, 2) := by decide +kernel
theorem dX8_ifLead_4 : decode cX8_ifLead 4 = .ok (.invokestatic 29, 3) := by decide +kernel
theorem dX8_ifLead_7 : decode cX8_ifLead 7 = .ok (.ifCond .eq 21, 3) := by decide +kernel
theorem dX8_ifLead_10 : decode cX8_ifLead 10 = .ok (.iload_n 2, 1) := by decide +kernel
theorem dX8_ifLead_11 : decode cX8_ifLead 11 = .ok (.iconst 0, 1) := by decide +kernel
theorem dX8_ifLead_12 : decode cX8_ifLead 12 = .ok (.iconst 2, 1) := by decide +kernel
theorem dX8_ifLead_13 : decode cX8_ifLead 13 = .ok (.invokestatic 29, 3) := by decide +kernel
theorem dX8_ifLead_16 : decode cX8_ifLead 16 = .ok (.ifCond .eq 12, 3) := by decide +kernel
theorem dX8_ifLead_19 : decode cX8_ifLead 19 = .ok (.aload_n 0, 1) := by decide +kernel
theorem dX8_ifLead_20 : decode cX8_ifLead 20 = .ok (.iload_n 1, 1) := by decide +kernel
theorem dX8_ifLead_21 : decode cX8_ifLead 21 = .ok (.iload_n 2, 1) := by decide +kernel
theorem dX8_ifLead_22 : decode cX8_ifLead 22 = .ok (.invokevirtual 171, 3) := by decide +kernel
theorem dX8_ifLead_25 : decode cX8_ifLead 25 = .ok (.goto 5, 3) := by decide +kernel
theorem dX8_ifLead_28 : decode cX8_ifLead 28 = .ok (.bipush (-2), 2) := by decide +kernel
theorem dX8_ifLead_30 : decode cX8_ifLead 30 = .ok (.ireturn, 1) := by decide +kernel
set_option maxRecDepth 20000 in
theorem ggX8_leastLead_X8_withLead : GoodIn wsX8_leastLead wsX8_withLead := goodIn_r _ [5, 6, 7, 8, 9, 10, 4, 11, 12, 13, 14, 15, 16, 17, 18, 19, 20, 21, 22, 23, 24, 25, 26, 27, 28, 29, 30, 31, 32, 33, 34, 35, 36, 37, 38, 39, 40, 41, 42, 43, 44, 45, 46, 47, 48, 49, 50, 51, 52, 53, 54, 55, 56, 57, 58, 59, 60, 61, 62, 63, 64, 65, 66, 67, 68, 69, 70, 71, 72, 73, 74, 75, 76, 77, 78, 79, 80, 81, 82, 83] (by decide +kernel) (by decide +kernel)
set_option maxRecDepth 20000 in
theorem gX8_leastLead_X8_withLead : GoodIn wsX8_leastLead (wsV RX8 171 RX8 yX8_withLead wsX8_withLead) := goodIn_app (goodIn_of _ (by decide +kernel)) ggX8_leastLead_X8_withLead
theorem dX8_leastLead_0 : decode cX8_leastLead 0 = .ok (.iconst 0, 1) := by decide +kernel
theorem dX8_leastLead_1 : decode cX8_leastLead 1 = .ok (.istore_n 1, 1) := by decide +kernel
theorem dX8_leastLead_2 : decode cX8_leastLead 2 = .ok (.iload_n 1, 1) := by decide +kernel
theorem dX8_leastLead_3 : decode cX8_leastLead 3 = .ok (.bipush 20, 2) := by decide +kernel
theorem dX8_leastLead_5 : decode cX8_leastLead 5 = .ok (.if_icmp .gt 20, 3) := by decide +kernel
theorem dX8_leastLead_8 : decode cX8_leastLead 8 = .ok (.aload_n 0, 1) := by decide +kernel
theorem dX8_leastLead_9 : decode cX8_leastLead 9 = .ok (.iload_n 1, 1) := by decide +kernel
theorem dX8_leastLead_10 : decode cX8_leastLead 10 = .ok (.iconst 2, 1) := by decide +kernel
theorem dX8_leastLead_11 : decode cX8_leastLead 11 = .ok (.invokevirtual 171, 3) := by decide +kernel
theorem dX8_leastLead_14 : decode cX8_leastLead 14 = .ok (.ifCond .ne 5, 3) := by decide +kernel
theorem dX8_leastLead_17 : decode cX8_leastLead 17 = .ok (.iload_n 1, 1) := by decide +kernel
theorem dX8_leastLead_18 : decode cX8_leastLead 18 = .ok (.ireturn, 1) := by decide +kernel
theorem dX8_leastLead_19 : decode cX8_leastLead 19 = .ok (.iinc 1 1, 3) := by decide +kernel
theorem dX8_leastLead_22 : decode cX8_leastLead 22 = .ok (.goto (-20), 3) := by decide +kernel
theorem dX8_leastLead_25 : decode cX8_leastLead 25 = .ok (.bipush (-5), 2) := by decide +kernel
theorem dX8_leastLead_27 : decode cX8_leastLead 27 = .ok (.ireturn, 1) := by decide +kernel
set_option maxRecDepth 20000 in
theorem ggX8_dearest_X8_putAside : GoodIn wsX8_dearest wsX8_putAside := goodIn_r _ [6, 7, 1, 68, 69, 70, 71, 72, 73, 74, 75, 76, 77, 78, 79] (by decide +kernel) (by decide +kernel)
set_option maxRecDepth 20000 in
theorem gX8_dearest_X8_putAside : GoodIn wsX8_dearest (wsV RX8 37 RX8 yX8_putAside wsX8_putAside) := goodIn_app (goodIn_of _ (by decide +kernel)) ggX8_dearest_X8_putAside
set_option maxRecDepth 20000 in
theorem ggX8_dearest_X8_settle : GoodIn wsX8_dearest wsX8_settle := goodIn_r _ [11, 1, 12, 13, 14, 5, 15, 16, 17, 18, 19, 20, 21, 22, 23, 24, 25, 26, 27, 28, 29, 30, 31, 32, 33, 34, 35, 36, 37, 38, 39, 40, 41, 42, 43, 44, 45, 46, 47, 48, 49, 50, 51, 52, 53, 54, 55, 56, 57, 58, 59, 60, 61, 62, 63, 68, 69, 70, 71, 72, 73, 74, 75, 76, 77, 78, 79] (by decide +kernel) (by decide +kernel)
set_option maxRecDepth 20000 in
theorem gX8_dearest_X8_settle : GoodIn wsX8_dearest (wsV RX8 121 RX8 yX8_settle wsX8_settle) := goodIn_app (goodIn_of _ (by decide +kernel)) ggX8_dearest_X8_settle
set_option maxRecDepth 20000 in
theorem ggX8_dearest_X8_takeBack : GoodIn wsX8_dearest wsX8_takeBack := goodIn_r _ [67, 1, 7, 68, 69, 70, 71, 72, 73, 74, 75, 76, 77, 78, 79] (by decide +kernel) (by decide +kernel)
set_option maxRecDepth 20000 in
theorem gX8_dearest_X8_takeBack : GoodIn wsX8_dearest (wsV RX8 124 RX8 yX8_takeBack wsX8_takeBack) := goodIn_app (goodIn_of _ (by decide +kernel)) ggX8_dearest_X8_takeBack
theorem dX8_dearest_0 : decode cX8_dearest 0 = .ok (.bipush (-5), 2) := by decide +kernel
theorem dX8_dearest_2 : decode cX8_dearest 2 = .ok (.istore_n 1, 1) := by decide +kernel
theorem dX8_dearest_3 : decode cX8_dearest 3 = .ok (.iconst 0, 1) := by decide +kernel
theorem dX8_dearest_4 : decode cX8_dearest 4 = .ok (.istore_n 2, 1) := by decide +kernel
theorem dX8_dearest_5 : decode cX8_dearest 5 = .ok (.iconst 0, 1) := by decide +kernel
theorem dX8_dearest_6 : decode cX8_dearest 6 = .ok (.istore_n 3, 1) := by decide +kernel
theorem dX8_dearest_7 : decode cX8_dearest 7 = .ok (.iload_n 3, 1) := by decide +kernel
theorem dX8_dearest_8 : decode cX8_dearest 8 = .ok (.iconst 3, 1) := by decide +kernel
theorem dX8_dearest_9 : decode cX8_dearest 9 = .ok (.aload_n 0, 1) := by decide +kernel
theorem dX8_dearest_10 : decode cX8_dearest 10 = .ok (.getfield 7, 3) := by decide +kernel
theorem dX8_dearest_13 : decode cX8_dearest 13 = .ok (.iconst 3, 1) := by decide +kernel
theorem dX8_dearest_14 : decode cX8_dearest 14 = .ok (.iaload, 1) := by decide +kernel
theorem dX8_dearest_15 : decode cX8_dearest 15 = .ok (.imul, 1) := by decide +kernel
theorem dX8_dearest_16 : decode cX8_dearest 16 = .ok (.iconst 3, 1) := by decide +kernel
theorem dX8_dearest_17 : decode cX8_dearest 17 = .ok (.iadd, 1) := by decide +kernel
theorem dX8_dearest_18 : decode cX8_dearest 18 = .ok (.if_icmp .ge 100, 3) := by decide +kernel
theorem dX8_dearest_21 : decode cX8_dearest 21 = .ok (.aload_n 0, 1) := by decide +kernel
theorem dX8_dearest_22 : decode cX8_dearest 22 = .ok (.getfield 7, 3) := by decide +kernel
theorem dX8_dearest_25 : decode cX8_dearest 25 = .ok (.bipush 13, 2) := by decide +kernel
theorem dX8_dearest_27 : decode cX8_dearest 27 = .ok (.iload_n 3, 1) := by decide +kernel
theorem dX8_dearest_28 : decode cX8_dearest 28 = .ok (.iadd, 1) := by decide +kernel
theorem dX8_dearest_29 : decode cX8_dearest 29 = .ok (.iaload, 1) := by decide +kernel
theorem dX8_dearest_30 : decode cX8_dearest 30 = .ok (.iconst 1, 1) := by decide +kernel
theorem dX8_dearest_31 : decode cX8_dearest 31 = .ok (.if_icmp .le 81, 3) := by decide +kernel
theorem dX8_dearest_34 : decode cX8_dearest 34 = .ok (.aload_n 0, 1) := by decide +kernel
theorem dX8_dearest_35 : decode cX8_dearest 35 = .ok (.invokevirtual 37, 3) := by decide +kernel
theorem dX8_dearest_38 : decode cX8_dearest 38 = .ok (.aload_n 0, 1) := by decide +kernel
theorem dX8_dearest_39 : decode cX8_dearest 39 = .ok (.getfield 7, 3) := by decide +kernel
theorem dX8_dearest_42 : decode cX8_dearest 42 = .ok (.bipush 13, 2) := by decide +kernel
theorem dX8_dearest_44 : decode cX8_dearest 44 = .ok (.iload_n 3, 1) := by decide +kernel
theorem dX8_dearest_45 : decode cX8_dearest 45 = .ok (.iadd, 1) := by decide +kernel
theorem dX8_dearest_46 : decode cX8_dearest 46 = .ok (.dup2, 1) := by decide +kernel
theorem dX8_dearest_47 : decode cX8_dearest 47 = .ok (.iaload, 1) := by decide +kernel
theorem dX8_dearest_48 : decode cX8_dearest 48 = .ok (.iconst 1, 1) := by decide +kernel
theorem dX8_dearest_49 : decode cX8_dearest 49 = .ok (.isub, 1) := by decide +kernel
theorem dX8_dearest_50 : decode cX8_dearest 50 = .ok (.iastore, 1) := by decide +kernel
theorem dX8_dearest_51 : decode cX8_dearest 51 = .ok (.aload_n 0, 1) := by decide +kernel
theorem dX8_dearest_52 : decode cX8_dearest 52 = .ok (.invokevirtual 121, 3) := by decide +kernel
theorem dX8_dearest_55 : decode cX8_dearest 55 = .ok (.istore 4, 2) := by decide +kernel
theorem dX8_dearest_57 : decode cX8_dearest 57 = .ok (.aload_n 0, 1) := by decide +kernel
theorem dX8_dearest_58 : decode cX8_dearest 58 = .ok (.invokevirtual 124, 3) := by decide +kernel
theorem dX8_dearest_61 : decode cX8_dearest 61 = .ok (.iload_n 1, 1) := by decide +kernel
theorem dX8_dearest_62 : decode cX8_dearest 62 = .ok (.bipush (-5), 2) := by decide +kernel
theorem dX8_dearest_64 : decode cX8_dearest 64 = .ok (.if_icmp .eq 9, 3) := by decide +kernel
theorem dX8_dearest_67 : decode cX8_dearest 67 = .ok (.iload 4, 2) := by decide +kernel
theorem dX8_dearest_69 : decode cX8_dearest 69 = .ok (.iload_n 2, 1) := by decide +kernel
theorem dX8_dearest_70 : decode cX8_dearest 70 = .ok (.if_icmp .ge 7, 3) := by decide +kernel
theorem dX8_dearest_73 : decode cX8_dearest 73 = .ok (.iconst 1, 1) := by decide +kernel
theorem dX8_dearest_74 : decode cX8_dearest 74 = .ok (.goto 4, 3) := by decide +kernel
theorem dX8_dearest_77 : decode cX8_dearest 77 = .ok (.iconst 0, 1) := by decide +kernel
theorem dX8_dearest_78 : decode cX8_dearest 78 = .ok (.istore 5, 2) := by decide +kernel
theorem dX8_dearest_80 : decode cX8_dearest 80 = .ok (.iload 5, 2) := by decide +kernel
theorem dX8_dearest_82 : decode cX8_dearest 82 = .ok (.ifCond .eq 16, 3) := by decide +kernel
theorem dX8_dearest_85 : decode cX8_dearest 85 = .ok (.bipush 10, 2) := by decide +kernel
theorem dX8_dearest_87 : decode cX8_dearest 87 = .ok (.iload_n 3, 1) := by decide +kernel
theorem dX8_dearest_88 : decode cX8_dearest 88 = .ok (.iconst 3, 1) := by decide +kernel
theorem dX8_dearest_89 : decode cX8_dearest 89 = .ok (.idiv, 1) := by decide +kernel
theorem dX8_dearest_90 : decode cX8_dearest 90 = .ok (.imul, 1) := by decide +kernel
theorem dX8_dearest_91 : decode cX8_dearest 91 = .ok (.iload_n 3, 1) := by decide +kernel
theorem dX8_dearest_92 : decode cX8_dearest 92 = .ok (.iconst 3, 1) := by decide +kernel
theorem dX8_dearest_93 : decode cX8_dearest 93 = .ok (.irem, 1) := by decide +kernel
theorem dX8_dearest_94 : decode cX8_dearest 94 = .ok (.iadd, 1) := by decide +kernel
theorem dX8_dearest_95 : decode cX8_dearest 95 = .ok (.goto 4, 3) := by decide +kernel
theorem dX8_dearest_98 : decode cX8_dearest 98 = .ok (.iload_n 1, 1) := by decide +kernel
theorem dX8_dearest_99 : decode cX8_dearest 99 = .ok (.istore_n 1, 1) := by decide +kernel
theorem dX8_dearest_100 : decode cX8_dearest 100 = .ok (.iload 5, 2) := by decide +kernel
theorem dX8_dearest_102 : decode cX8_dearest 102 = .ok (.ifCond .eq 8, 3) := by decide +kernel
theorem dX8_dearest_105 : decode cX8_dearest 105 = .ok (.iload 4, 2) := by decide +kernel
theorem dX8_dearest_107 : decode cX8_dearest 107 = .ok (.goto 4, 3) := by decide +kernel
theorem dX8_dearest_110 : decode cX8_dearest 110 = .ok (.iload_n 2, 1) := by decide +kernel
theorem dX8_dearest_111 : decode cX8_dearest 111 = .ok (.istore_n 2, 1) := by decide +kernel
theorem dX8_dearest_112 : decode cX8_dearest 112 = .ok (.iinc 3 1, 3) := by decide +kernel
theorem dX8_dearest_115 : decode cX8_dearest 115 = .ok (.goto (-108), 3) := by decide +kernel
theorem dX8_dearest_118 : decode cX8_dearest 118 = .ok (.iload_n 1, 1) := by decide +kernel
theorem dX8_dearest_119 : decode cX8_dearest 119 = .ok (.ireturn, 1) := by decide +kernel
set_option maxRecDepth 20000 in
theorem ggL_law_X7_init : GoodIn wsL_law wsX7_init := goodIn_r _ [8, 9, 10, 11, 12, 13, 14, 15, 16, 17, 18, 19, 20, 21, 22, 23, 24, 25, 26, 27, 28, 29, 30, 31, 32, 33, 34, 35, 36, 37, 38, 39, 40, 41, 42, 43, 44, 45, 46, 47, 48, 49, 50, 51, 52, 53, 54, 55, 56, 57, 58, 59, 60, 61, 62, 63, 64, 65, 66, 67, 68, 69, 70, 71, 72, 73, 74, 75, 76, 77, 78, 79, 80, 81, 82, 83, 84, 85, 86, 87, 88, 89, 90, 91, 92, 93, 94, 95, 96, 97, 98, 99, 100, 101, 102, 103, 104, 105, 106, 107, 108, 109, 110, 111, 112, 113, 114, 738, 739, 740, 741, 742, 743, 744, 745, 746, 747, 748, 749, 720, 721, 722, 723, 724, 725, 750, 751, 752, 753, 754, 755, 756, 757, 758, 759, 760, 761, 762, 763, 764, 765, 766, 767, 768, 769, 770, 771, 772, 773, 774, 775, 776, 777, 778, 779] (by decide +kernel) (by decide +kernel)
set_option maxRecDepth 20000 in
theorem gL_law_X7_init : GoodIn wsL_law (wsX7_init) := ggL_law_X7_init
set_option maxRecDepth 20000 in
theorem ggL_law_X8_init : GoodIn wsL_law wsX8_init := goodIn_r _ [117, 118, 10, 11, 31, 119, 120, 121, 122, 123, 124, 125, 126, 5, 127, 726, 727, 728, 729, 730, 731, 732, 733, 734, 735, 736, 737] (by decide +kernel) (by decide +kernel)
set_option maxRecDepth 20000 in
theorem gL_law_X8_init : GoodIn wsL_law (wsX8_init) := ggL_law_X8_init
set_option maxRecDepth 20000 in
theorem ggL_law_X7_build : GoodIn wsL_law wsX7_build := goodIn_r _ [131, 16, 15, 132, 133, 134, 14, 135, 74, 75, 76, 77, 78, 32, 136, 137, 138, 139, 34, 35, 37, 41, 45, 46, 140, 141, 142, 48, 143, 65, 144, 85, 86, 87, 88, 89, 90, 91, 92, 93, 145, 146, 147, 50, 148, 149, 69, 150, 151, 152, 153, 40, 154, 155, 156, 54, 157, 55, 158, 159, 160, 44, 161, 59, 162, 60, 61, 98, 99, 163, 71, 72, 73, 79, 80, 81, 82, 83, 84, 94, 95, 96, 97, 164, 165, 166, 167, 168, 169, 170, 171, 172, 173, 174, 2, 175, 22, 176, 177, 178, 21, 179, 180, 105, 181, 182, 183, 184, 185, 720, 721, 722, 723, 724, 725, 738, 739, 740, 741, 742, 743, 744, 745, 746, 747, 748, 749, 768, 769, 770, 771, 772, 773, 774, 775, 776, 777, 778, 779, 759, 760, 761, 762, 763, 764, 765, 766, 767, 750, 751] (by decide +kernel) (by decide +kernel)
set_option maxRecDepth 20000 in
theorem gL_law_X7_build : GoodIn wsL_law (wsV RL 13 RX7 yX7_build wsX7_build) := goodIn_app (goodIn_of _ (by decide +kernel)) ggL_law_X7_build
set_option maxRecDepth 20000 in
theorem ggL_law_X8_build : GoodIn wsL_law wsX8_build := goodIn_r _ [189, 119, 190, 191, 5, 192, 193, 194, 195, 196, 197, 198, 199, 200, 120, 201, 202, 203, 204, 205, 121, 206, 207, 208, 209, 124, 125, 126, 127, 726, 727, 728, 729, 730, 731, 732, 733, 734, 735, 736, 737] (by decide +kernel) (by decide +kernel)
set_option maxRecDepth 20000 in
theorem gL_law_X8_build : GoodIn wsL_law (wsV RL 17 RX8 yX8_build wsX8_build) := goodIn_app (goodIn_of _ (by decide +kernel)) ggL_law_X8_build
set_option maxRecDepth 20000 in
theorem ggL_law_X7_add : GoodIn wsL_law wsX7_add := goodIn_r _ [213, 16, 15, 132, 133, 134, 14, 135, 74, 75, 76, 77, 78, 32, 136, 137, 138, 139, 34, 35, 37, 41, 45, 46, 140, 141, 142, 48, 143, 65, 144, 85, 86, 87, 88, 89, 90, 91, 92, 93, 145, 146, 147, 50, 148, 149, 69, 150, 151, 152, 153, 40, 154, 155, 156, 54, 157, 55, 158, 159, 160, 44, 161, 59, 162, 60, 61, 98, 99, 214, 215, 216, 217, 79, 218, 219, 220, 221, 222, 223, 224, 225, 226, 227, 228, 229, 230, 231, 232, 233, 234, 235, 236, 237, 238, 239, 240, 241, 242, 243, 244, 245, 246, 247, 248, 249, 250, 172, 173, 174, 2, 175, 22, 176, 177, 178, 21, 179, 180, 105, 181, 182, 183, 184, 185, 720, 721, 722, 723, 724, 725, 738, 739, 740, 741, 742, 743, 744, 745, 746, 747, 748, 749, 768, 769, 770, 771, 772, 773, 774, 775, 776, 777, 778, 779, 759, 760, 761, 762, 763, 764, 765, 766, 767, 750, 751] (by decide +kernel) (by decide +kernel)
set_option maxRecDepth 20000 in
theorem gL_law_X7_add : GoodIn wsL_law (wsV RL 18 RX7 yX7_add wsX7_add) := goodIn_app (goodIn_of _ (by decide +kernel)) ggL_law_X7_add
set_option maxRecDepth 20000 in
theorem ggL_law_X8_add : GoodIn wsL_law wsX8_add := goodIn_r _ [254, 197, 198, 199, 5, 200, 120, 119, 255, 256, 257, 258, 259, 260, 261, 190, 191, 192, 262, 263, 264, 265, 266, 267, 268, 269, 270, 271, 272, 273, 274, 275, 276, 277, 278, 279, 280, 281, 201, 202, 203, 204, 205, 121, 726, 727, 728, 729, 730, 731, 732, 733, 734, 735, 736, 737] (by decide +kernel) (by decide +kernel)
set_option maxRecDepth 20000 in
theorem gL_law_X8_add : GoodIn wsL_law (wsV RL 22 RX8 yX8_add wsX8_add) := goodIn_app (goodIn_of _ (by decide +kernel)) ggL_law_X8_add
set_option maxRecDepth 20000 in
theorem ggL_law_X7_run : GoodIn wsL_law wsX7_run := goodIn_r _ [285, 16, 15, 132, 133, 134, 14, 135, 74, 75, 76, 77, 78, 32, 136, 137, 138, 139, 34, 35, 37, 41, 45, 46, 140, 141, 142, 48, 143, 65, 144, 85, 86, 87, 88, 89, 90, 91, 92, 93, 145, 146, 147, 50, 148, 149, 69, 150, 151, 152, 153, 40, 154, 155, 156, 54, 157, 55, 158, 159, 160, 44, 161, 59, 162, 60, 61, 98, 99, 286, 287, 288, 289, 290, 291, 292, 293, 294, 295, 296, 297, 298, 299, 300, 80, 301, 302, 303, 304, 305, 306, 307, 308, 309, 310, 311, 312, 313, 314, 315, 316, 317, 318, 319, 320, 321, 322, 323, 324, 325, 326, 327, 328, 329, 330, 218, 331, 332, 333, 334, 335, 240, 242, 243, 244, 245, 336, 337, 338, 339, 340, 341, 342, 343, 344, 345, 346, 347, 235, 236, 237, 238, 239, 241, 246, 247, 248, 249, 250, 348, 349, 350, 351, 352, 223, 224, 225, 226, 227, 228, 229, 230, 79, 231, 232, 233, 234, 172, 173, 174, 2, 175, 22, 176, 177, 178, 21, 179, 180, 105, 181, 182, 183, 184, 185, 720, 721, 722, 723, 724, 725, 738, 739, 740, 741, 742, 743, 744, 745, 746, 747, 748, 749, 768, 769, 770, 771, 772, 773, 774, 775, 776, 777, 778, 779, 759, 760, 761, 762, 763, 764, 765, 766, 767, 750, 751] (by decide +kernel) (by decide +kernel)
set_option maxRecDepth 20000 in
theorem gL_law_X7_run : GoodIn wsL_law (wsV RL 23 RX7 yX7_run wsX7_run) := goodIn_app (goodIn_of _ (by decide +kernel)) ggL_law_X7_run
set_option maxRecDepth 20000 in
theorem ggL_law_X8_run : GoodIn wsL_law wsX8_run := goodIn_r _ [356, 197, 198, 199, 5, 200, 120, 119, 357, 358, 359, 360, 361, 190, 191, 192, 362, 363, 364, 365, 366, 367, 368, 369, 370, 371, 372, 373, 374, 375, 376, 377, 378, 379, 380, 381, 270, 271, 272, 273, 382, 383, 384, 385, 274, 275, 276, 277, 386, 387, 388, 389, 390, 391, 392, 393, 394, 395, 396, 397, 266, 267, 268, 269, 398, 399, 400, 401, 262, 263, 264, 265, 278, 279, 280, 281, 201, 202, 203, 204, 205, 121, 726, 727, 728, 729, 730, 731, 732, 733, 734, 735, 736, 737] (by decide +kernel) (by decide +kernel)
set_option maxRecDepth 20000 in
theorem gL_law_X8_run : GoodIn wsL_law (wsV RL 26 RX8 yX8_run wsX8_run) := goodIn_app (goodIn_of _ (by decide +kernel)) ggL_law_X8_run
set_option maxRecDepth 20000 in
theorem ggL_law_X7_finish : GoodIn wsL_law wsX7_finish := goodIn_r _ [405, 15, 16, 406, 407, 408, 409, 298, 299, 14, 300, 41, 80, 132, 133, 134, 135, 74, 75, 76, 77, 78, 32, 136, 137, 138, 139, 34, 35, 37, 45, 46, 140, 141, 142, 48, 143, 65, 144, 85, 86, 87, 88, 89, 90, 91, 92, 93, 145, 146, 147, 50, 148, 149, 69, 150, 151, 152, 153, 40, 154, 155, 156, 54, 157, 55, 158, 159, 160, 44, 161, 59, 162, 60, 61, 98, 99, 410, 293, 294, 295, 290, 296, 297, 301, 302, 303, 304, 305, 306, 307, 308, 309, 310, 311, 312, 313, 314, 315, 316, 317, 318, 319, 320, 321, 322, 323, 324, 325, 326, 327, 328, 329, 330, 218, 331, 332, 333, 334, 335, 240, 242, 243, 244, 245, 336, 337, 338, 339, 291, 340, 341, 342, 343, 344, 345, 346, 347, 235, 236, 237, 238, 239, 241, 246, 247, 248, 249, 250, 348, 349, 350, 351, 352, 223, 224, 225, 226, 227, 228, 229, 230, 79, 231, 232, 233, 234, 172, 173, 174, 2, 175, 22, 176, 177, 178, 21, 179, 180, 105, 181, 182, 183, 184, 185, 720, 721, 722, 723, 724, 725, 738, 739, 740, 741, 742, 743, 744, 745, 746, 747, 748, 749, 759, 760, 761, 762, 768, 769, 770, 771, 772, 773, 774, 775, 776, 777, 778, 779, 763, 764, 765, 766, 767, 750, 751] (by decide +kernel) (by decide +kernel)
set_option maxRecDepth 20000 in
theorem gL_law_X7_finish : GoodIn wsL_law (wsV RL 27 RX7 yX7_finish wsX7_finish) := goodIn_app (goodIn_of _ (by decide +kernel)) ggL_law_X7_finish
set_option maxRecDepth 20000 in
theorem ggL_law_X8_finish : GoodIn wsL_law wsX8_finish := goodIn_r _ [414, 119, 361, 197, 198, 199, 5, 200, 120, 415, 416, 417, 418, 366, 367, 368, 369, 370, 371, 372, 373, 374, 375, 376, 377, 378, 379, 380, 381, 270, 271, 272, 273, 382, 383, 384, 385, 274, 275, 276, 277, 386, 387, 388, 389, 390, 391, 392, 393, 394, 395, 396, 397, 266, 267, 268, 269, 398, 399, 400, 401, 262, 263, 264, 265, 419, 420, 421, 422, 201, 202, 203, 204, 205, 121, 726, 727, 728, 729, 730, 731, 732, 733, 734, 735, 736, 737] (by decide +kernel) (by decide +kernel)
set_option maxRecDepth 20000 in
theorem gL_law_X8_finish : GoodIn wsL_law (wsV RL 31 RX8 yX8_finish wsX8_finish) := goodIn_app (goodIn_of _ (by decide +kernel)) ggL_law_X8_finish
set_option maxRecDepth 20000 in
theorem ggL_law_X7_setDelay : GoodIn wsL_law wsX7_setDelay := goodIn_r _ [426, 16, 15, 132, 133, 134, 14, 135, 74, 75, 76, 77, 78, 32, 136, 137, 138, 139, 34, 35, 37, 41, 45, 46, 140, 141, 142, 48, 143, 65, 144, 85, 86, 87, 88, 89, 90, 91, 92, 93, 145, 146, 147, 50, 148, 149, 69, 150, 151, 152, 153, 40, 154, 155, 156, 54, 157, 55, 158, 159, 160, 44, 161, 59, 162, 60, 61, 98, 99, 427, 428, 429, 430, 240, 321, 322, 323, 324, 172, 173, 174, 2, 175, 22, 176, 177, 178, 21, 179, 180, 105, 181, 182, 183, 184, 185, 720, 721, 722, 723, 724, 725, 738, 739, 740, 741, 742, 743, 744, 745, 746, 747, 748, 749, 768, 769, 770, 771, 772, 773, 774, 775, 776, 777, 778, 779, 759, 760, 761, 762, 763, 764, 765, 766, 767, 750, 751] (by decide +kernel) (by decide +kernel)
set_option maxRecDepth 20000 in
theorem gL_law_X7_setDelay : GoodIn wsL_law (wsV RL 32 RX7 yX7_setDelay wsX7_setDelay) := goodIn_app (goodIn_of _ (by decide +kernel)) ggL_law_X7_setDelay
set_option maxRecDepth 20000 in
theorem ggL_law_X8_setDelay : GoodIn wsL_law wsX8_setDelay := goodIn_r _ [434, 197, 198, 199, 5, 200, 120, 119, 435, 436, 437, 438, 439, 440, 441, 442, 190, 191, 192, 443, 444, 445, 278, 279, 280, 281, 201, 202, 203, 204, 205, 121, 726, 727, 728, 729, 730, 731, 732, 733, 734, 735, 736, 737] (by decide +kernel) (by decide +kernel)
set_option maxRecDepth 20000 in
theorem gL_law_X8_setDelay : GoodIn wsL_law (wsV RL 36 RX8 yX8_setDelay wsX8_setDelay) := goodIn_app (goodIn_of _ (by decide +kernel)) ggL_law_X8_setDelay
set_option maxRecDepth 20000 in
theorem ggL_law_X7_set : GoodIn wsL_law wsX7_set := goodIn_r _ [449, 15, 450, 16, 132, 133, 134, 14, 135, 74, 75, 76, 77, 78, 32, 136, 137, 138, 139, 34, 35, 37, 41, 45, 46, 140, 141, 142, 48, 143, 65, 144, 85, 86, 87, 88, 89, 90, 91, 92, 93, 145, 146, 147, 50, 148, 149, 69, 150, 151, 152, 153, 40, 154, 155, 156, 54, 157, 55, 158, 159, 160, 44, 161, 59, 162, 60, 61, 98, 99, 172, 173, 174, 2, 175, 22, 176, 177, 178, 21, 179, 180, 105, 181, 182, 183, 184, 185, 720, 721, 722, 723, 724, 725, 738, 739, 740, 741, 742, 743, 744, 745, 746, 747, 748, 749, 768, 769, 770, 771, 772, 773, 774, 775, 776, 777, 778, 779, 759, 760, 761, 762, 763, 764, 765, 766, 767, 750, 751] (by decide +kernel) (by decide +kernel)
set_option maxRecDepth 20000 in
theorem gL_law_X7_set : GoodIn wsL_law (wsV RL 37 RX7 yX7_set wsX7_set) := goodIn_app (goodIn_of _ (by decide +kernel)) ggL_law_X7_set
set_option maxRecDepth 20000 in
theorem ggL_law_X8_set : GoodIn wsL_law wsX8_set := goodIn_r _ [454, 119, 190, 191, 5, 192, 193, 194, 195, 196, 197, 198, 199, 200, 120, 201, 202, 203, 204, 205, 121, 726, 727, 728, 729, 730, 731, 732, 733, 734, 735, 736, 737] (by decide +kernel) (by decide +kernel)
set_option maxRecDepth 20000 in
theorem gL_law_X8_set : GoodIn wsL_law (wsV RL 40 RX8 yX8_set wsX8_set) := goodIn_app (goodIn_of _ (by decide +kernel)) ggL_law_X8_set
set_option maxRecDepth 20000 in
theorem ggL_law_X7_type : GoodIn wsL_law wsX7_type := goodIn_r _ [458, 26, 459, 460, 461, 25, 462, 463, 111, 720, 721, 722, 723, 724, 725, 752, 753, 754, 755, 756, 757, 758] (by decide +kernel) (by decide +kernel)
set_option maxRecDepth 20000 in
theorem gL_law_X7_type : GoodIn wsL_law (wsV RL 41 RX7 yX7_type wsX7_type) := goodIn_app (goodIn_of _ (by decide +kernel)) ggL_law_X7_type
set_option maxRecDepth 20000 in
theorem ggL_law_X8_type : GoodIn wsL_law wsX8_type := goodIn_r _ [467, 468, 123, 726, 727, 728, 729, 730, 731, 732, 733, 734, 735, 736, 737] (by decide +kernel) (by decide +kernel)
set_option maxRecDepth 20000 in
theorem gL_law_X8_type : GoodIn wsL_law (wsV RL 45 RX8 yX8_type wsX8_type) := goodIn_app (goodIn_of _ (by decide +kernel)) ggL_law_X8_type
set_option maxRecDepth 20000 in
theorem ggL_law_X7_clearText : GoodIn wsL_law wsX7_clearText := goodIn_r _ [472, 26, 473, 720, 721, 722, 723, 724, 725, 752, 753, 754, 755, 756, 757, 758] (by decide +kernel) (by decide +kernel)
set_option maxRecDepth 20000 in
theorem gL_law_X7_clearText : GoodIn wsL_law (wsV RL 46 RX7 yX7_clearText wsX7_clearText) := goodIn_app (goodIn_of _ (by decide +kernel)) ggL_law_X7_clearText
set_option maxRecDepth 20000 in
theorem ggL_law_X8_clearText : GoodIn wsL_law wsX8_clearText := goodIn_r _ [477, 468, 726, 727, 728, 729, 730, 731, 732, 733, 734, 735, 736, 737] (by decide +kernel) (by decide +kernel)
set_option maxRecDepth 20000 in
theorem gL_law_X8_clearText : GoodIn wsL_law (wsV RL 49 RX8 yX8_clearText wsX8_clearText) := goodIn_app (goodIn_of _ (by decide +kernel)) ggL_law_X8_clearText
set_option maxRecDepth 20000 in
theorem ggL_law_X7_perform : GoodIn wsL_law wsX7_perform := goodIn_r _ [481, 26, 16, 15, 482, 483, 484, 485, 486, 487, 488, 25, 489, 490, 491, 463, 492, 493, 494, 495, 496, 497, 498, 499, 111, 500, 501, 502, 503, 504, 505, 506, 507, 508, 509, 510, 511, 112, 113, 114, 512, 513, 514, 515, 516, 517, 518, 519, 520, 521, 522, 523, 132, 133, 134, 14, 135, 74, 75, 76, 77, 78, 32, 136, 137, 138, 139, 34, 35, 37, 41, 45, 46, 140, 141, 142, 48, 143, 65, 144, 85, 86, 87, 88, 89, 90, 91, 92, 93, 145, 146, 147, 50, 148, 149, 69, 150, 151, 152, 153, 40, 154, 155, 156, 54, 157, 55, 158, 159, 160, 44, 161, 59, 162, 60, 61, 98, 99, 214, 215, 216, 217, 79, 218, 219, 220, 221, 222, 223, 224, 225, 226, 227, 228, 229, 230, 231, 232, 233, 234, 235, 236, 237, 238, 239, 240, 241, 242, 243, 244, 245, 246, 247, 248, 249, 250, 286, 287, 288, 289, 290, 291, 292, 293, 294, 295, 296, 297, 298, 299, 300, 80, 301, 302, 303, 304, 305, 306, 307, 308, 309, 310, 311, 312, 313, 314, 315, 316, 317, 318, 319, 320, 321, 322, 323, 324, 325, 326, 327, 328, 329, 330, 331, 332, 333, 334, 335, 336, 337, 338, 339, 340, 341, 342, 343, 344, 345, 346, 347, 348, 349, 350, 351, 352, 427, 428, 429, 430, 172, 173, 174, 2, 175, 22, 176, 177, 178, 21, 179, 180, 105, 181, 182, 183, 184, 185, 720, 721, 722, 723, 724, 725, 752, 753, 754, 755, 756, 757, 758, 738, 739, 740, 741, 742, 743, 744, 745, 746, 747, 748, 749, 768, 769, 770, 771, 772, 773, 774, 775, 776, 777, 778, 779, 759, 760, 761, 762, 763, 764, 765, 766, 767, 750, 751] (by decide +kernel) (by decide +kernel)
set_option maxRecDepth 20000 in
theorem gL_law_X7_perform : GoodIn wsL_law (wsV RL 50 RX7 yX7_perform wsX7_perform) := goodIn_app (goodIn_of _ (by decide +kernel)) ggL_law_X7_perform
set_option maxRecDepth 20000 in
theorem ggL_law_X8_perform : GoodIn wsL_law wsX8_perform := goodIn_r _ [527, 528, 468, 529, 530, 531, 5, 532, 533, 534, 535, 536, 537, 538, 539, 540, 541, 542, 123, 543, 544, 545, 190, 191, 192, 546, 547, 548, 549, 550, 551, 552, 553, 554, 197, 198, 199, 200, 120, 119, 555, 556, 557, 558, 255, 256, 257, 258, 259, 260, 261, 262, 263, 264, 265, 266, 267, 268, 269, 270, 271, 272, 273, 274, 275, 276, 277, 357, 358, 359, 360, 361, 362, 363, 364, 365, 366, 367, 368, 369, 370, 371, 372, 373, 374, 375, 376, 377, 378, 379, 380, 381, 382, 383, 384, 385, 386, 387, 388, 389, 390, 391, 392, 393, 394, 395, 396, 397, 398, 399, 400, 401, 435, 436, 437, 438, 439, 440, 441, 442, 443, 444, 445, 419, 420, 421, 422, 201, 202, 203, 204, 205, 121, 726, 727, 728, 729, 730, 731, 732, 733, 734, 735, 736, 737] (by decide +kernel) (by decide +kernel)
set_option maxRecDepth 20000 in
theorem gL_law_X8_perform : GoodIn wsL_law (wsV RL 53 RX8 yX8_perform wsX8_perform) := goodIn_app (goodIn_of _ (by decide +kernel)) ggL_law_X8_perform
set_option maxRecDepth 20000 in
theorem ggL_law_X7_undo : GoodIn wsL_law wsX7_undo := goodIn_r _ [562, 22, 15, 563, 564, 565, 21, 566, 180, 105, 185, 133, 134, 14, 135, 74, 75, 76, 77, 78, 32, 136, 137, 138, 139, 34, 35, 37, 41, 45, 46, 140, 141, 142, 48, 143, 65, 144, 85, 86, 87, 88, 89, 90, 91, 92, 93, 145, 146, 147, 50, 148, 149, 69, 150, 151, 152, 153, 40, 154, 155, 156, 54, 157, 55, 158, 159, 160, 44, 161, 59, 162, 60, 61, 98, 99, 720, 721, 722, 723, 724, 725, 750, 751, 738, 739, 740, 741, 742, 743, 744, 745, 746, 747, 748, 749, 768, 769, 770, 771, 772, 773, 774, 775, 776, 777, 778, 779, 759, 760, 761, 762, 763, 764, 765, 766, 767] (by decide +kernel) (by decide +kernel)
set_option maxRecDepth 20000 in
theorem gL_law_X7_undo : GoodIn wsL_law (wsV RL 54 RX7 yX7_undo wsX7_undo) := goodIn_app (goodIn_of _ (by decide +kernel)) ggL_law_X7_undo
set_option maxRecDepth 20000 in
theorem ggL_law_X8_undo : GoodIn wsL_law wsX8_undo := goodIn_r _ [570, 205, 119, 121, 726, 727, 728, 729, 730, 731, 732, 733, 734, 735, 736, 737] (by decide +kernel) (by decide +kernel)
set_option maxRecDepth 20000 in
theorem gL_law_X8_undo : GoodIn wsL_law (wsV RL 57 RX8 yX8_undo wsX8_undo) := goodIn_app (goodIn_of _ (by decide +kernel)) ggL_law_X8_undo
set_option maxRecDepth 20000 in
theorem ggL_law_X7_keep : GoodIn wsL_law wsX7_keep := goodIn_r _ [574, 17, 15, 18, 407, 132, 133, 134, 14, 135, 74, 75, 76, 77, 78, 32, 136, 137, 138, 139, 34, 35, 37, 41, 45, 46, 140, 141, 142, 48, 143, 65, 144, 85, 86, 87, 88, 89, 90, 91, 92, 93, 145, 146, 147, 50, 148, 149, 69, 150, 151, 152, 153, 40, 154, 155, 156, 54, 157, 55, 158, 159, 160, 44, 161, 59, 162, 60, 61, 98, 99, 720, 721, 722, 723, 724, 725, 738, 739, 740, 741, 742, 743, 744, 745, 746, 747, 748, 749, 768, 769, 770, 771, 772, 773, 774, 775, 776, 777, 778, 779, 759, 760, 761, 762, 763, 764, 765, 766, 767] (by decide +kernel) (by decide +kernel)
set_option maxRecDepth 20000 in
theorem gL_law_X7_keep : GoodIn wsL_law (wsV RL 58 RX7 yX7_keep wsX7_keep) := goodIn_app (goodIn_of _ (by decide +kernel)) ggL_law_X7_keep
set_option maxRecDepth 20000 in
theorem ggL_law_X8_keep : GoodIn wsL_law wsX8_keep := goodIn_r _ [578, 122, 119, 579, 726, 727, 728, 729, 730, 731, 732, 733, 734, 735, 736, 737] (by decide +kernel) (by decide +kernel)
set_option maxRecDepth 20000 in
theorem gL_law_X8_keep : GoodIn wsL_law (wsV RL 61 RX8 yX8_keep wsX8_keep) := goodIn_app (goodIn_of _ (by decide +kernel)) ggL_law_X8_keep
set_option maxRecDepth 20000 in
theorem ggL_law_X7_restore : GoodIn wsL_law wsX7_restore := goodIn_r _ [583, 18, 16, 17, 407, 132, 133, 134, 14, 135, 74, 75, 76, 77, 78, 32, 136, 137, 138, 139, 34, 35, 37, 41, 45, 46, 140, 141, 142, 48, 143, 65, 144, 85, 86, 87, 88, 89, 90, 91, 92, 93, 145, 146, 147, 50, 148, 149, 69, 150, 151, 152, 153, 40, 154, 155, 156, 54, 157, 55, 158, 159, 160, 44, 161, 59, 162, 60, 61, 98, 99, 172, 173, 174, 2, 175, 22, 15, 176, 177, 178, 21, 179, 180, 105, 181, 182, 183, 184, 185, 720, 721, 722, 723, 724, 725, 738, 739, 740, 741, 742, 743, 744, 745, 746, 747, 748, 749, 768, 769, 770, 771, 772, 773, 774, 775, 776, 777, 778, 779, 759, 760, 761, 762, 763, 764, 765, 766, 767, 750, 751] (by decide +kernel) (by decide +kernel)
set_option maxRecDepth 20000 in
theorem gL_law_X7_restore : GoodIn wsL_law (wsV RL 62 RX7 yX7_restore wsX7_restore) := goodIn_app (goodIn_of _ (by decide +kernel)) ggL_law_X7_restore
set_option maxRecDepth 20000 in
theorem ggL_law_X8_restore : GoodIn wsL_law wsX8_restore := goodIn_r _ [587, 579, 119, 122, 193, 194, 195, 5, 196, 197, 198, 199, 200, 120, 201, 202, 203, 204, 205, 121, 726, 727, 728, 729, 730, 731, 732, 733, 734, 735, 736, 737] (by decide +kernel) (by decide +kernel)
set_option maxRecDepth 20000 in
theorem gL_law_X8_restore : GoodIn wsL_law (wsV RL 65 RX8 yX8_restore wsX8_restore) := goodIn_app (goodIn_of _ (by decide +kernel)) ggL_law_X8_restore
set_option maxRecDepth 20000 in
theorem ggL_law_X7_link : GoodIn wsL_law wsX7_link := goodIn_r _ [591, 15, 592, 450, 593, 322, 323, 14, 324, 74, 594, 595, 596, 48, 597, 65, 85, 86, 87, 88, 89, 90, 91, 92, 93, 720, 721, 722, 723, 724, 725, 738, 739, 740, 741, 742, 743, 744, 745, 746, 747, 748, 749, 768, 769, 770, 771, 772, 773, 774, 775, 776, 777] (by decide +kernel) (by decide +kernel)
set_option maxRecDepth 20000 in
theorem gL_law_X7_link : GoodIn wsL_law (wsV RL 66 RX7 yX7_link wsX7_link) := goodIn_app (goodIn_of _ (by decide +kernel)) ggL_law_X7_link
set_option maxRecDepth 20000 in
theorem ggL_law_X8_link : GoodIn wsL_law wsX8_link := goodIn_r _ [601, 439, 440, 441, 5, 442, 119, 190, 191, 192, 602, 603, 604, 605, 390, 391, 392, 393, 726, 727, 728, 729, 730, 731, 732, 733, 734, 735, 736, 737] (by decide +kernel) (by decide +kernel)
set_option maxRecDepth 20000 in
theorem gL_law_X8_link : GoodIn wsL_law (wsV RL 69 RX8 yX8_link wsX8_link) := goodIn_app (goodIn_of _ (by decide +kernel)) ggL_law_X8_link
set_option maxRecDepth 20000 in
theorem ggL_law_X7_stage : GoodIn wsL_law wsX7_stage := goodIn_r _ [609, 15, 610, 611, 720, 721, 722, 723, 724, 725, 738, 739, 740, 741, 742, 743, 744, 745, 746, 747, 748, 749] (by decide +kernel) (by decide +kernel)
set_option maxRecDepth 20000 in
theorem gL_law_X7_stage : GoodIn wsL_law (wsV RL 70 RX7 yX7_stage wsX7_stage) := goodIn_app (goodIn_of _ (by decide +kernel)) ggL_law_X7_stage
set_option maxRecDepth 20000 in
theorem ggL_law_X8_stage : GoodIn wsL_law wsX8_stage := goodIn_r _ [615, 119, 190, 191, 5, 192, 726, 727, 728, 729, 730, 731, 732, 733, 734, 735, 736, 737] (by decide +kernel) (by decide +kernel)
set_option maxRecDepth 20000 in
theorem gL_law_X8_stage : GoodIn wsL_law (wsV RL 73 RX8 yX8_stage wsX8_stage) := goodIn_app (goodIn_of _ (by decide +kernel)) ggL_law_X8_stage
set_option maxRecDepth 20000 in
theorem ggL_law_X7_waiting : GoodIn wsL_law wsX7_waiting := goodIn_r _ [619, 15, 620, 621, 622, 623, 50, 624, 149, 69, 720, 721, 722, 723, 724, 725, 738, 739, 740, 741, 742, 743, 744, 745, 746, 747, 748, 749, 778, 779] (by decide +kernel) (by decide +kernel)
set_option maxRecDepth 20000 in
theorem gL_law_X7_waiting : GoodIn wsL_law (wsV RL 74 RX7 yX7_waiting wsX7_waiting) := goodIn_app (goodIn_of _ (by decide +kernel)) ggL_law_X7_waiting
set_option maxRecDepth 20000 in
theorem ggL_law_X8_waiting : GoodIn wsL_law wsX8_waiting := goodIn_r _ [628, 119, 259, 260, 5, 261, 190, 191, 192, 726, 727, 728, 729, 730, 731, 732, 733, 734, 735, 736, 737] (by decide +kernel) (by decide +kernel)
set_option maxRecDepth 20000 in
theorem gL_law_X8_waiting : GoodIn wsL_law (wsV RL 77 RX8 yX8_waiting wsX8_waiting) := goodIn_app (goodIn_of _ (by decide +kernel)) ggL_law_X8_waiting
set_option maxRecDepth 20000 in
theorem ggL_law_X7_noted : GoodIn wsL_law wsX7_noted := goodIn_r _ [632, 15, 633, 634, 635, 636, 44, 637, 98, 59, 60, 61, 720, 721, 722, 723, 724, 725, 738, 739, 740, 741, 742, 743, 744, 745, 746, 747, 748, 749, 763, 764, 765, 766, 767] (by decide +kernel) (by decide +kernel)
set_option maxRecDepth 20000 in
theorem gL_law_X7_noted : GoodIn wsL_law (wsV RL 78 RX7 yX7_noted wsX7_noted) := goodIn_app (goodIn_of _ (by decide +kernel)) ggL_law_X7_noted
set_option maxRecDepth 20000 in
theorem ggL_law_X8_noted : GoodIn wsL_law wsX8_noted := goodIn_r _ [641, 119, 190, 191, 5, 192, 726, 727, 728, 729, 730, 731, 732, 733, 734, 735, 736, 737] (by decide +kernel) (by decide +kernel)
set_option maxRecDepth 20000 in
theorem gL_law_X8_noted : GoodIn wsL_law (wsV RL 81 RX8 yX8_noted wsX8_noted) := goodIn_app (goodIn_of _ (by decide +kernel)) ggL_law_X8_noted
set_option maxRecDepth 20000 in
theorem ggL_law_X7_total : GoodIn wsL_law wsX7_total := goodIn_r _ [645, 15, 610, 407, 646, 647, 648, 633, 649, 650, 651, 652, 450, 22, 653, 26, 473, 168, 169, 170, 14, 171, 37, 79, 164, 165, 166, 167, 74, 35, 720, 721, 722, 723, 724, 725, 738, 739, 740, 741, 742, 743, 744, 745, 746, 747, 748, 749, 759, 760, 761, 762, 763, 764, 765, 766, 767, 750, 751, 752, 753, 754, 755, 756, 757, 758, 778, 779] (by decide +kernel) (by decide +kernel)
set_option maxRecDepth 20000 in
theorem gL_law_X7_total : GoodIn wsL_law (wsV RL 82 RX7 yX7_total wsX7_total) := goodIn_app (goodIn_of _ (by decide +kernel)) ggL_law_X7_total
set_option maxRecDepth 20000 in
theorem ggL_law_X8_total : GoodIn wsL_law wsX8_total := goodIn_r _ [657, 119, 205, 468, 206, 207, 208, 5, 209, 726, 727, 728, 729, 730, 731, 732, 733, 734, 735, 736, 737] (by decide +kernel) (by decide +kernel)
set_option maxRecDepth 20000 in
theorem gL_law_X8_total : GoodIn wsL_law (wsV RL 85 RX8 yX8_total wsX8_total) := goodIn_app (goodIn_of _ (by decide +kernel)) ggL_law_X8_total
set_option maxRecDepth 20000 in
theorem ggL_law_X7_next : GoodIn wsL_law wsX7_next := goodIn_r _ [661, 15, 646, 409, 298, 299, 14, 300, 41, 80, 662, 302, 303, 40, 304, 54, 155, 720, 721, 722, 723, 724, 725, 738, 739, 740, 741, 742, 743, 744, 745, 746, 747, 748, 749, 759, 760, 761, 762] (by decide +kernel) (by decide +kernel)
set_option maxRecDepth 20000 in
theorem gL_law_X7_next : GoodIn wsL_law (wsV RL 86 RX7 yX7_next wsX7_next) := goodIn_app (goodIn_of _ (by decide +kernel)) ggL_law_X7_next
set_option maxRecDepth 20000 in
theorem ggL_law_X8_next : GoodIn wsL_law wsX8_next := goodIn_r _ [666, 366, 367, 368, 5, 369, 119, 370, 371, 372, 373, 726, 727, 728, 729, 730, 731, 732, 733, 734, 735, 736, 737] (by decide +kernel) (by decide +kernel)
set_option maxRecDepth 20000 in
theorem gL_law_X8_next : GoodIn wsL_law (wsV RL 89 RX8 yX8_next wsX8_next) := goodIn_app (goodIn_of _ (by decide +kernel)) ggL_law_X8_next
set_option maxRecDepth 20000 in
theorem ggL_law_X7_quietIn : GoodIn wsL_law wsX7_quietIn := goodIn_r _ [670, 16, 15, 406, 407, 132, 133, 134, 14, 135, 74, 75, 76, 77, 78, 32, 136, 137, 138, 139, 34, 35, 37, 41, 45, 46, 140, 141, 142, 48, 143, 65, 144, 85, 86, 87, 88, 89, 90, 91, 92, 93, 145, 146, 147, 50, 148, 149, 69, 150, 151, 152, 153, 40, 154, 155, 156, 54, 157, 55, 158, 159, 160, 44, 161, 59, 162, 60, 61, 98, 99, 410, 293, 294, 295, 290, 296, 297, 298, 299, 300, 80, 301, 302, 303, 304, 305, 306, 307, 308, 309, 310, 311, 312, 313, 314, 315, 316, 317, 318, 319, 320, 321, 322, 323, 324, 325, 326, 327, 328, 329, 330, 218, 331, 332, 333, 334, 335, 240, 242, 243, 244, 245, 336, 337, 338, 339, 291, 340, 341, 342, 343, 344, 345, 346, 347, 235, 236, 237, 238, 239, 241, 246, 247, 248, 249, 250, 348, 349, 350, 351, 352, 223, 224, 225, 226, 227, 228, 229, 230, 79, 231, 232, 233, 234, 720, 721, 722, 723, 724, 725, 738, 739, 740, 741, 742, 743, 744, 745, 746, 747, 748, 749, 768, 769, 770, 771, 772, 773, 774, 775, 776, 777, 778, 779, 759, 760, 761, 762, 763, 764, 765, 766, 767] (by decide +kernel) (by decide +kernel)
set_option maxRecDepth 20000 in
theorem gL_law_X7_quietIn : GoodIn wsL_law (wsV RL 90 RX7 yX7_quietIn wsX7_quietIn) := goodIn_app (goodIn_of _ (by decide +kernel)) ggL_law_X7_quietIn
set_option maxRecDepth 20000 in
theorem ggL_law_X8_quietIn : GoodIn wsL_law wsX8_quietIn := goodIn_r _ [674, 197, 198, 199, 5, 200, 120, 119, 415, 416, 417, 418, 366, 367, 368, 369, 370, 371, 372, 373, 374, 375, 376, 377, 378, 379, 380, 381, 270, 271, 272, 273, 382, 383, 384, 385, 274, 275, 276, 277, 386, 387, 388, 389, 390, 391, 392, 393, 394, 395, 396, 397, 266, 267, 268, 269, 398, 399, 400, 401, 262, 263, 264, 265, 419, 420, 421, 422, 726, 727, 728, 729, 730, 731, 732, 733, 734, 735, 736, 737] (by decide +kernel) (by decide +kernel)
set_option maxRecDepth 20000 in
theorem gL_law_X8_quietIn : GoodIn wsL_law (wsV RL 93 RX8 yX8_quietIn wsX8_quietIn) := goodIn_app (goodIn_of _ (by decide +kernel)) ggL_law_X8_quietIn
set_option maxRecDepth 20000 in
theorem ggL_law_X7_ifLead : GoodIn wsL_law wsX7_ifLead := goodIn_r _ [678, 16, 407, 15, 633, 649, 679, 680, 681, 2, 682, 450, 406, 132, 133, 134, 14, 135, 74, 75, 76, 77, 78, 32, 136, 137, 138, 139, 34, 35, 37, 41, 45, 46, 140, 141, 142, 48, 143, 65, 144, 85, 86, 87, 88, 89, 90, 91, 92, 93, 145, 146, 147, 50, 148, 149, 69, 150, 151, 152, 153, 40, 154, 155, 156, 54, 157, 55, 158, 159, 160, 44, 161, 59, 162, 60, 61, 98, 99, 410, 293, 294, 295, 290, 296, 297, 298, 299, 300, 80, 301, 302, 303, 304, 305, 306, 307, 308, 309, 310, 311, 312, 313, 314, 315, 316, 317, 318, 319, 320, 321, 322, 323, 324, 325, 326, 327, 328, 329, 330, 218, 331, 332, 333, 334, 335, 240, 242, 243, 244, 245, 336, 337, 338, 339, 291, 340, 341, 342, 343, 344, 345, 346, 347, 235, 236, 237, 238, 239, 241, 246, 247, 248, 249, 250, 348, 349, 350, 351, 352, 223, 224, 225, 226, 227, 228, 229, 230, 79, 231, 232, 233, 234, 683, 684, 685, 686, 687, 688, 689, 690, 720, 721, 722, 723, 724, 725, 738, 739, 740, 741, 742, 743, 744, 745, 746, 747, 748, 749, 763, 764, 765, 766, 767, 768, 769, 770, 771, 772, 773, 774, 775, 776, 777, 778, 779, 759, 760, 761, 762] (by decide +kernel) (by decide +kernel)
set_option maxRecDepth 20000 in
theorem gL_law_X7_ifLead : GoodIn wsL_law (wsV RL 94 RX7 yX7_ifLead wsX7_ifLead) := goodIn_app (goodIn_of _ (by decide +kernel)) ggL_law_X7_ifLead
set_option maxRecDepth 20000 in
theorem ggL_law_X8_ifLead : GoodIn wsL_law wsX8_ifLead := goodIn_r _ [694, 190, 191, 5, 192, 695, 696, 697, 698, 119, 120, 197, 198, 199, 200, 415, 416, 417, 418, 366, 367, 368, 369, 370, 371, 372, 373, 374, 375, 376, 377, 378, 379, 380, 381, 270, 271, 272, 273, 382, 383, 384, 385, 274, 275, 276, 277, 386, 387, 388, 389, 390, 391, 392, 393, 394, 395, 396, 397, 266, 267, 268, 269, 398, 399, 400, 401, 262, 263, 264, 265, 419, 420, 421, 422, 726, 727, 728, 729, 730, 731, 732, 733, 734, 735, 736, 737] (by decide +kernel) (by decide +kernel)
set_option maxRecDepth 20000 in
theorem gL_law_X8_ifLead : GoodIn wsL_law (wsV RL 97 RX8 yX8_ifLead wsX8_ifLead) := goodIn_app (goodIn_of _ (by decide +kernel)) ggL_law_X8_ifLead
set_option maxRecDepth 20000 in
theorem ggL_law_X7_leastLead : GoodIn wsL_law wsX7_leastLead := goodIn_r _ [702, 679, 680, 681, 2, 682, 16, 15, 450, 406, 132, 133, 134, 14, 135, 74, 75, 76, 77, 78, 32, 136, 137, 138, 139, 34, 35, 37, 41, 45, 46, 140, 141, 142, 48, 143, 65, 144, 85, 86, 87, 88, 89, 90, 91, 92, 93, 145, 146, 147, 50, 148, 149, 69, 150, 151, 152, 153, 40, 154, 155, 156, 54, 157, 55, 158, 159, 160, 44, 161, 59, 162, 60, 61, 98, 99, 410, 293, 294, 295, 290, 296, 297, 298, 299, 300, 80, 301, 302, 303, 304, 305, 306, 307, 308, 309, 310, 311, 312, 313, 314, 315, 316, 317, 318, 319, 320, 321, 322, 323, 324, 325, 326, 327, 328, 329, 330, 218, 331, 332, 333, 334, 335, 240, 242, 243, 244, 245, 336, 337, 338, 339, 291, 340, 341, 342, 343, 344, 345, 346, 347, 235, 236, 237, 238, 239, 241, 246, 247, 248, 249, 250, 348, 349, 350, 351, 352, 223, 224, 225, 226, 227, 228, 229, 230, 79, 231, 232, 233, 234, 683, 684, 685, 686, 633, 687, 688, 689, 690, 720, 721, 722, 723, 724, 725, 738, 739, 740, 741, 742, 743, 744, 745, 746, 747, 748, 749, 768, 769, 770, 771, 772, 773, 774, 775, 776, 777, 778, 779, 759, 760, 761, 762, 763, 764, 765, 766, 767] (by decide +kernel) (by decide +kernel)
set_option maxRecDepth 20000 in
theorem gL_law_X7_leastLead : GoodIn wsL_law (wsV RL 98 RX7 yX7_leastLead wsX7_leastLead) := goodIn_app (goodIn_of _ (by decide +kernel)) ggL_law_X7_leastLead
set_option maxRecDepth 20000 in
theorem ggL_law_X8_leastLead : GoodIn wsL_law wsX8_leastLead := goodIn_r _ [706, 695, 696, 697, 5, 698, 119, 120, 197, 198, 199, 200, 415, 416, 417, 418, 366, 367, 368, 369, 370, 371, 372, 373, 374, 375, 376, 377, 378, 379, 380, 381, 270, 271, 272, 273, 382, 383, 384, 385, 274, 275, 276, 277, 386, 387, 388, 389, 390, 391, 392, 393, 394, 395, 396, 397, 266, 267, 268, 269, 398, 399, 400, 401, 262, 263, 264, 265, 419, 420, 421, 422, 726, 727, 728, 729, 730, 731, 732, 733, 734, 735, 736, 737] (by decide +kernel) (by decide +kernel)
set_option maxRecDepth 20000 in
theorem gL_law_X8_leastLead : GoodIn wsL_law (wsV RL 101 RX8 yX8_leastLead wsX8_leastLead) := goodIn_app (goodIn_of _ (by decide +kernel)) ggL_law_X8_leastLead
set_option maxRecDepth 20000 in
theorem ggL_law_X7_dearest : GoodIn wsL_law wsX7_dearest := goodIn_r _ [710, 15, 610, 592, 711, 712, 713, 714, 2, 715, 16, 406, 407, 132, 133, 134, 14, 135, 74, 75, 76, 77, 78, 32, 136, 137, 138, 139, 34, 35, 37, 41, 45, 46, 140, 141, 142, 48, 143, 65, 144, 85, 86, 87, 88, 89, 90, 91, 92, 93, 145, 146, 147, 50, 148, 149, 69, 150, 151, 152, 153, 40, 154, 155, 156, 54, 157, 55, 158, 159, 160, 44, 161, 59, 162, 60, 61, 98, 99, 410, 293, 294, 295, 290, 296, 297, 298, 299, 300, 80, 301, 302, 303, 304, 305, 306, 307, 308, 309, 310, 311, 312, 313, 314, 315, 316, 317, 318, 319, 320, 321, 322, 323, 324, 325, 326, 327, 328, 329, 330, 218, 331, 332, 333, 334, 335, 240, 242, 243, 244, 245, 336, 337, 338, 339, 291, 340, 341, 342, 343, 344, 345, 346, 347, 235, 236, 237, 238, 239, 241, 246, 247, 248, 249, 250, 348, 349, 350, 351, 352, 223, 224, 225, 226, 227, 228, 229, 230, 79, 231, 232, 233, 234, 720, 721, 722, 723, 724, 725, 738, 739, 740, 741, 742, 743, 744, 745, 746, 747, 748, 749, 768, 769, 770, 771, 772, 773, 774, 775, 776, 777, 778, 779, 759, 760, 761, 762, 763, 764, 765, 766, 767] (by decide +kernel) (by decide +kernel)
set_option maxRecDepth 20000 in
theorem gL_law_X7_dearest : GoodIn wsL_law (wsV RL 102 RX7 yX7_dearest wsX7_dearest) := goodIn_app (goodIn_of _ (by decide +kernel)) ggL_law_X7_dearest
set_option maxRecDepth 20000 in
theorem ggL_law_X8_dearest : GoodIn wsL_law wsX8_dearest := goodIn_r _ [719, 119, 197, 198, 199, 5, 200, 120, 415, 416, 417, 418, 366, 367, 368, 369, 370, 371, 372, 373, 374, 375, 376, 377, 378, 379, 380, 381, 270, 271, 272, 273, 382, 383, 384, 385, 274, 275, 276, 277, 386, 387, 388, 389, 390, 391, 392, 393, 394, 395, 396, 397, 266, 267, 268, 269, 398, 399, 400, 401, 262, 263, 264, 265, 419, 420, 421, 422, 726, 727, 728, 729, 730, 731, 732, 733, 734, 735, 736, 737] (by decide +kernel) (by decide +kernel)
set_option maxRecDepth 20000 in
theorem gL_law_X8_dearest : GoodIn wsL_law (wsV RL 105 RX8 yX8_dearest wsX8_dearest) := goodIn_app (goodIn_of _ (by decide +kernel)) ggL_law_X8_dearest
theorem dL_law_0 : decode cL_law 0 = .ok (.new 7, 3) := by decide +kernel
theorem dL_law_3 : decode cL_law 3 = .ok (.dup, 1) := by decide +kernel
theorem dL_law_4 : decode cL_law 4 = .ok (.invokespecial 9, 3) := by decide +kernel
theorem dL_law_7 : decode cL_law 7 = .ok (.astore_n 1, 1) := by decide +kernel
theorem dL_law_8 : decode cL_law 8 = .ok (.new 10, 3) := by decide +kernel
theorem dL_law_11 : decode cL_law 11 = .ok (.dup, 1) := by decide +kernel
theorem dL_law_12 : decode cL_law 12 = .ok (.invokespecial 12, 3) := by decide +kernel
theorem dL_law_15 : decode cL_law 15 = .ok (.astore_n 2, 1) := by decide +kernel
theorem dL_law_16 : decode cL_law 16 = .ok (.iconst 0, 1) := by decide +kernel
theorem dL_law_17 : decode cL_law 17 = .ok (.istore_n 3, 1) := by decide +kernel
theorem dL_law_18 : decode cL_law 18 = .ok (.iload_n 3, 1) := by decide +kernel
theorem dL_law_19 : decode cL_law 19 = .ok (.aload_n 0, 1) := by decide +kernel
theorem dL_law_20 : decode cL_law 20 = .ok (.arraylength, 1) := by decide +kernel
theorem dL_law_21 : decode cL_law 21 = .ok (.iconst 4, 1) := by decide +kernel
theorem dL_law_22 : decode cL_law 22 = .ok (.isub, 1) := by decide +kernel
theorem dL_law_23 : decode cL_law 23 = .ok (.if_icmp .gt 607, 3) := by decide +kernel
theorem dL_law_26 : decode cL_law 26 = .ok (.aload_n 0, 1) := by decide +kernel
theorem dL_law_27 : decode cL_law 27 = .ok (.iload_n 3, 1) := by decide +kernel
theorem dL_law_28 : decode cL_law 28 = .ok (.iaload, 1) := by decide +kernel
theorem dL_law_29 : decode cL_law 29 = .ok (.bipush 31, 2) := by decide +kernel
theorem dL_law_31 : decode cL_law 31 = .ok (.iand, 1) := by decide +kernel
theorem dL_law_32 : decode cL_law 32 = .ok (.tableswitch 592 0 21 #[104, 127, 160, 183, 196, 239, 272, 297, 310, 323, 336, 349, 362, 395, 418, 451, 484, 507, 520, 533, 566, 579], 104) := by decide +kernel
theorem dL_law_136 : decode cL_law 136 = .ok (.aload_n 1, 1) := by decide +kernel
theorem dL_law_137 : decode cL_law 137 = .ok (.aload_n 0, 1) := by decide +kernel
theorem dL_law_138 : decode cL_law 138 = .ok (.iload_n 3, 1) := by decide +kernel
theorem dL_law_139 : decode cL_law 139 = .ok (.iconst 1, 1) := by decide +kernel
theorem dL_law_140 : decode cL_law 140 = .ok (.iadd, 1) := by decide +kernel
theorem dL_law_141 : decode cL_law 141 = .ok (.iaload, 1) := by decide +kernel
theorem dL_law_142 : decode cL_law 142 = .ok (.invokevirtual 13, 3) := by decide +kernel
theorem dL_law_145 : decode cL_law 145 = .ok (.aload_n 2, 1) := by decide +kernel
theorem dL_law_146 : decode cL_law 146 = .ok (.aload_n 0, 1) := by decide +kernel
theorem dL_law_147 : decode cL_law 147 = .ok (.iload_n 3, 1) := by decide +kernel
theorem dL_law_148 : decode cL_law 148 = .ok (.iconst 1, 1) := by decide +kernel
theorem dL_law_149 : decode cL_law 149 = .ok (.iadd, 1) := by decide +kernel
theorem dL_law_150 : decode cL_law 150 = .ok (.iaload, 1) := by decide +kernel
theorem dL_law_151 : decode cL_law 151 = .ok (.invokevirtual 17, 3) := by decide +kernel
theorem dL_law_154 : decode cL_law 154 = .ok (.if_icmp .eq 470, 3) := by decide +kernel
theorem dL_law_157 : decode cL_law 157 = .ok (.iconst 0, 1) := by decide +kernel
theorem dL_law_158 : decode cL_law 158 = .ok (.ireturn, 1) := by decide +kernel
theorem dL_law_159 : decode cL_law 159 = .ok (.aload_n 1, 1) := by decide +kernel
theorem dL_law_160 : decode cL_law 160 = .ok (.aload_n 0, 1) := by decide +kernel
theorem dL_law_161 : decode cL_law 161 = .ok (.iload_n 3, 1) := by decide +kernel
theorem dL_law_162 : decode cL_law 162 = .ok (.iconst 1, 1) := by decide +kernel
theorem dL_law_163 : decode cL_law 163 = .ok (.iadd, 1) := by decide +kernel
theorem dL_law_164 : decode cL_law 164 = .ok (.iaload, 1) := by decide +kernel
theorem dL_law_165 : decode cL_law 165 = .ok (.aload_n 0, 1) := by decide +kernel
theorem dL_law_166 : decode cL_law 166 = .ok (.iload_n 3, 1) := by decide +kernel
theorem dL_law_167 : decode cL_law 167 = .ok (.iconst 2, 1) := by decide +kernel
theorem dL_law_168 : decode cL_law 168 = .ok (.iadd, 1) := by decide +kernel
theorem dL_law_169 : decode cL_law 169 = .ok (.iaload, 1) := by decide +kernel
theorem dL_law_170 : decode cL_law 170 = .ok (.invokevirtual 18, 3) := by decide +kernel
theorem dL_law_173 : decode cL_law 173 = .ok (.aload_n 2, 1) := by decide +kernel
theorem dL_law_174 : decode cL_law 174 = .ok (.aload_n 0, 1) := by decide +kernel
theorem dL_law_175 : decode cL_law 175 = .ok (.iload_n 3, 1) := by decide +kernel
theorem dL_law_176 : decode cL_law 176 = .ok (.iconst 1, 1) := by decide +kernel
theorem dL_law_177 : decode cL_law 177 = .ok (.iadd, 1) := by decide +kernel
theorem dL_law_178 : decode cL_law 178 = .ok (.iaload, 1) := by decide +kernel
theorem dL_law_179 : decode cL_law 179 = .ok (.aload_n 0, 1) := by decide +kernel
theorem dL_law_180 : decode cL_law 180 = .ok (.iload_n 3, 1) := by decide +kernel
theorem dL_law_181 : decode cL_law 181 = .ok (.iconst 2, 1) := by decide +kernel
theorem dL_law_182 : decode cL_law 182 = .ok (.iadd, 1) := by decide +kernel
theorem dL_law_183 : decode cL_law 183 = .ok (.iaload, 1) := by decide +kernel
theorem dL_law_184 : decode cL_law 184 = .ok (.invokevirtual 22, 3) := by decide +kernel
theorem dL_law_187 : decode cL_law 187 = .ok (.if_icmp .eq 437, 3) := by decide +kernel
theorem dL_law_190 : decode cL_law 190 = .ok (.iconst 0, 1) := by decide +kernel
theorem dL_law_191 : decode cL_law 191 = .ok (.ireturn, 1) := by decide +kernel
theorem dL_law_192 : decode cL_law 192 = .ok (.aload_n 1, 1) := by decide +kernel
theorem dL_law_193 : decode cL_law 193 = .ok (.aload_n 0, 1) := by decide +kernel
theorem dL_law_194 : decode cL_law 194 = .ok (.iload_n 3, 1) := by decide +kernel
theorem dL_law_195 : decode cL_law 195 = .ok (.iconst 1, 1) := by decide +kernel
theorem dL_law_196 : decode cL_law 196 = .ok (.iadd, 1) := by decide +kernel
theorem dL_law_197 : decode cL_law 197 = .ok (.iaload, 1) := by decide +kernel
theorem dL_law_198 : decode cL_law 198 = .ok (.invokevirtual 23, 3) := by decide +kernel
theorem dL_law_201 : decode cL_law 201 = .ok (.aload_n 2, 1) := by decide +kernel
theorem dL_law_202 : decode cL_law 202 = .ok (.aload_n 0, 1) := by decide +kernel
theorem dL_law_203 : decode cL_law 203 = .ok (.iload_n 3, 1) := by decide +kernel
theorem dL_law_204 : decode cL_law 204 = .ok (.iconst 1, 1) := by decide +kernel
theorem dL_law_205 : decode cL_law 205 = .ok (.iadd, 1) := by decide +kernel
theorem dL_law_206 : decode cL_law 206 = .ok (.iaload, 1) := by decide +kernel
theorem dL_law_207 : decode cL_law 207 = .ok (.invokevirtual 26, 3) := by decide +kernel
theorem dL_law_210 : decode cL_law 210 = .ok (.if_icmp .eq 414, 3) := by decide +kernel
theorem dL_law_213 : decode cL_law 213 = .ok (.iconst 0, 1) := by decide +kernel
theorem dL_law_214 : decode cL_law 214 = .ok (.ireturn, 1) := by decide +kernel
theorem dL_law_215 : decode cL_law 215 = .ok (.aload_n 1, 1) := by decide +kernel
theorem dL_law_216 : decode cL_law 216 = .ok (.invokevirtual 27, 3) := by decide +kernel
theorem dL_law_219 : decode cL_law 219 = .ok (.aload_n 2, 1) := by decide +kernel
theorem dL_law_220 : decode cL_law 220 = .ok (.invokevirtual 31, 3) := by decide +kernel
theorem dL_law_223 : decode cL_law 223 = .ok (.if_icmp .eq 401, 3) := by decide +kernel
theorem dL_law_226 : decode cL_law 226 = .ok (.iconst 0, 1) := by decide +kernel
theorem dL_law_227 : decode cL_law 227 = .ok (.ireturn, 1) := by decide +kernel
theorem dL_law_228 : decode cL_law 228 = .ok (.aload_n 1, 1) := by decide +kernel
theorem dL_law_229 : decode cL_law 229 = .ok (.aload_n 0, 1) := by decide +kernel
theorem dL_law_230 : decode cL_law 230 = .ok (.iload_n 3, 1) := by decide +kernel
theorem dL_law_231 : decode cL_law 231 = .ok (.iconst 1, 1) := by decide +kernel
theorem dL_law_232 : decode cL_law 232 = .ok (.iadd, 1) := by decide +kernel
theorem dL_law_233 : decode cL_law 233 = .ok (.iaload, 1) := by decide +kernel
theorem dL_law_234 : decode cL_law 234 = .ok (.aload_n 0, 1) := by decide +kernel
theorem dL_law_235 : decode cL_law 235 = .ok (.iload_n 3, 1) := by decide +kernel
theorem dL_law_236 : decode cL_law 236 = .ok (.iconst 2, 1) := by decide +kernel
theorem dL_law_237 : decode cL_law 237 = .ok (.iadd, 1) := by decide +kernel
theorem dL_law_238 : decode cL_law 238 = .ok (.iaload, 1) := by decide +kernel
theorem dL_law_239 : decode cL_law 239 = .ok (.aload_n 0, 1) := by decide +kernel
theorem dL_law_240 : decode cL_law 240 = .ok (.iload_n 3, 1) := by decide +kernel
theorem dL_law_241 : decode cL_law 241 = .ok (.iconst 3, 1) := by decide +kernel
theorem dL_law_242 : decode cL_law 242 = .ok (.iadd, 1) := by decide +kernel
theorem dL_law_243 : decode cL_law 243 = .ok (.iaload, 1) := by decide +kernel
theorem dL_law_244 : decode cL_law 244 = .ok (.invokevirtual 32, 3) := by decide +kernel
theorem dL_law_247 : decode cL_law 247 = .ok (.aload_n 2, 1) := by decide +kernel
theorem dL_law_248 : decode cL_law 248 = .ok (.aload_n 0, 1) := by decide +kernel
theorem dL_law_249 : decode cL_law 249 = .ok (.iload_n 3, 1) := by decide +kernel
theorem dL_law_250 : decode cL_law 250 = .ok (.iconst 1, 1) := by decide +kernel
theorem dL_law_251 : decode cL_law 251 = .ok (.iadd, 1) := by decide +kernel
theorem dL_law_252 : decode cL_law 252 = .ok (.iaload, 1) := by decide +kernel
theorem dL_law_253 : decode cL_law 253 = .ok (.aload_n 0, 1) := by decide +kernel
theorem dL_law_254 : decode cL_law 254 = .ok (.iload_n 3, 1) := by decide +kernel
theorem dL_law_255 : decode cL_law 255 = .ok (.iconst 2, 1) := by decide +kernel
theorem dL_law_256 : decode cL_law 256 = .ok (.iadd, 1) := by decide +kernel
theorem dL_law_257 : decode cL_law 257 = .ok (.iaload, 1) := by decide +kernel
theorem dL_law_258 : decode cL_law 258 = .ok (.aload_n 0, 1) := by decide +kernel
theorem dL_law_259 : decode cL_law 259 = .ok (.iload_n 3, 1) := by decide +kernel
theorem dL_law_260 : decode cL_law 260 = .ok (.iconst 3, 1) := by decide +kernel
theorem dL_law_261 : decode cL_law 261 = .ok (.iadd, 1) := by decide +kernel
theorem dL_law_262 : decode cL_law 262 = .ok (.iaload, 1) := by decide +kernel
theorem dL_law_263 : decode cL_law 263 = .ok (.invokevirtual 36, 3) := by decide +kernel
theorem dL_law_266 : decode cL_law 266 = .ok (.if_icmp .eq 358, 3) := by decide +kernel
theorem dL_law_269 : decode cL_law 269 = .ok (.iconst 0, 1) := by decide +kernel
theorem dL_law_270 : decode cL_law 270 = .ok (.ireturn, 1) := by decide +kernel
theorem dL_law_271 : decode cL_law 271 = .ok (.aload_n 1, 1) := by decide +kernel
theorem dL_law_272 : decode cL_law 272 = .ok (.aload_n 0, 1) := by decide +kernel
theorem dL_law_273 : decode cL_law 273 = .ok (.iload_n 3, 1) := by decide +kernel
theorem dL_law_274 : decode cL_law 274 = .ok (.iconst 1, 1) := by decide +kernel
theorem dL_law_275 : decode cL_law 275 = .ok (.iadd, 1) := by decide +kernel
theorem dL_law_276 : decode cL_law 276 = .ok (.iaload, 1) := by decide +kernel
theorem dL_law_277 : decode cL_law 277 = .ok (.aload_n 0, 1) := by decide +kernel
theorem dL_law_278 : decode cL_law 278 = .ok (.iload_n 3, 1) := by decide +kernel
theorem dL_law_279 : decode cL_law 279 = .ok (.iconst 2, 1) := by decide +kernel
theorem dL_law_280 : decode cL_law 280 = .ok (.iadd, 1) := by decide +kernel
theorem dL_law_281 : decode cL_law 281 = .ok (.iaload, 1) := by decide +kernel
theorem dL_law_282 : decode cL_law 282 = .ok (.invokevirtual 37, 3) := by decide +kernel
theorem dL_law_285 : decode cL_law 285 = .ok (.aload_n 2, 1) := by decide +kernel
theorem dL_law_286 : decode cL_law 286 = .ok (.aload_n 0, 1) := by decide +kernel
theorem dL_law_287 : decode cL_law 287 = .ok (.iload_n 3, 1) := by decide +kernel
theorem dL_law_288 : decode cL_law 288 = .ok (.iconst 1, 1) := by decide +kernel
theorem dL_law_289 : decode cL_law 289 = .ok (.iadd, 1) := by decide +kernel
theorem dL_law_290 : decode cL_law 290 = .ok (.iaload, 1) := by decide +kernel
theorem dL_law_291 : decode cL_law 291 = .ok (.aload_n 0, 1) := by decide +kernel
theorem dL_law_292 : decode cL_law 292 = .ok (.iload_n 3, 1) := by decide +kernel
theorem dL_law_293 : decode cL_law 293 = .ok (.iconst 2, 1) := by decide +kernel
theorem dL_law_294 : decode cL_law 294 = .ok (.iadd, 1) := by decide +kernel
theorem dL_law_295 : decode cL_law 295 = .ok (.iaload, 1) := by decide +kernel
theorem dL_law_296 : decode cL_law 296 = .ok (.invokevirtual 40, 3) := by decide +kernel
theorem dL_law_299 : decode cL_law 299 = .ok (.if_icmp .eq 325, 3) := by decide +kernel
theorem dL_law_302 : decode cL_law 302 = .ok (.iconst 0, 1) := by decide +kernel
theorem dL_law_303 : decode cL_law 303 = .ok (.ireturn, 1) := by decide +kernel
theorem dL_law_304 : decode cL_law 304 = .ok (.aload_n 1, 1) := by decide +kernel
theorem dL_law_305 : decode cL_law 305 = .ok (.aload_n 0, 1) := by decide +kernel
theorem dL_law_306 : decode cL_law 306 = .ok (.iload_n 3, 1) := by decide +kernel
theorem dL_law_307 : decode cL_law 307 = .ok (.iconst 1, 1) := by decide +kernel
theorem dL_law_308 : decode cL_law 308 = .ok (.iadd, 1) := by decide +kernel
theorem dL_law_309 : decode cL_law 309 = .ok (.iaload, 1) := by decide +kernel
theorem dL_law_310 : decode cL_law 310 = .ok (.i2c, 1) := by decide +kernel
theorem dL_law_311 : decode cL_law 311 = .ok (.invokevirtual 41, 3) := by decide +kernel
theorem dL_law_314 : decode cL_law 314 = .ok (.aload_n 2, 1) := by decide +kernel
theorem dL_law_315 : decode cL_law 315 = .ok (.aload_n 0, 1) := by decide +kernel
theorem dL_law_316 : decode cL_law 316 = .ok (.iload_n 3, 1) := by decide +kernel
theorem dL_law_317 : decode cL_law 317 = .ok (.iconst 1, 1) := by decide +kernel
theorem dL_law_318 : decode cL_law 318 = .ok (.iadd, 1) := by decide +kernel
theorem dL_law_319 : decode cL_law 319 = .ok (.iaload, 1) := by decide +kernel
theorem dL_law_320 : decode cL_law 320 = .ok (.i2c, 1) := by decide +kernel
theorem dL_law_321 : decode cL_law 321 = .ok (.invokevirtual 45, 3) := by decide +kernel
theorem dL_law_324 : decode cL_law 324 = .ok (.if_icmp .eq 300, 3) := by decide +kernel
theorem dL_law_327 : decode cL_law 327 = .ok (.iconst 0, 1) := by decide +kernel
theorem dL_law_328 : decode cL_law 328 = .ok (.ireturn, 1) := by decide +kernel
theorem dL_law_329 : decode cL_law 329 = .ok (.aload_n 1, 1) := by decide +kernel
theorem dL_law_330 : decode cL_law 330 = .ok (.invokevirtual 46, 3) := by decide +kernel
theorem dL_law_333 : decode cL_law 333 = .ok (.aload_n 2, 1) := by decide +kernel
theorem dL_law_334 : decode cL_law 334 = .ok (.invokevirtual 49, 3) := by decide +kernel
theorem dL_law_337 : decode cL_law 337 = .ok (.if_icmp .eq 287, 3) := by decide +kernel
theorem dL_law_340 : decode cL_law 340 = .ok (.iconst 0, 1) := by decide +kernel
theorem dL_law_341 : decode cL_law 341 = .ok (.ireturn, 1) := by decide +kernel
theorem dL_law_342 : decode cL_law 342 = .ok (.aload_n 1, 1) := by decide +kernel
theorem dL_law_343 : decode cL_law 343 = .ok (.invokevirtual 50, 3) := by decide +kernel
theorem dL_law_346 : decode cL_law 346 = .ok (.aload_n 2, 1) := by decide +kernel
theorem dL_law_347 : decode cL_law 347 = .ok (.invokevirtual 53, 3) := by decide +kernel
theorem dL_law_350 : decode cL_law 350 = .ok (.if_icmp .eq 274, 3) := by decide +kernel
theorem dL_law_353 : decode cL_law 353 = .ok (.iconst 0, 1) := by decide +kernel
theorem dL_law_354 : decode cL_law 354 = .ok (.ireturn, 1) := by decide +kernel
theorem dL_law_355 : decode cL_law 355 = .ok (.aload_n 1, 1) := by decide +kernel
theorem dL_law_356 : decode cL_law 356 = .ok (.invokevirtual 54, 3) := by decide +kernel
theorem dL_law_359 : decode cL_law 359 = .ok (.aload_n 2, 1) := by decide +kernel
theorem dL_law_360 : decode cL_law 360 = .ok (.invokevirtual 57, 3) := by decide +kernel
theorem dL_law_363 : decode cL_law 363 = .ok (.if_icmp .eq 261, 3) := by decide +kernel
theorem dL_law_366 : decode cL_law 366 = .ok (.iconst 0, 1) := by decide +kernel
theorem dL_law_367 : decode cL_law 367 = .ok (.ireturn, 1) := by decide +kernel
theorem dL_law_368 : decode cL_law 368 = .ok (.aload_n 1, 1) := by decide +kernel
theorem dL_law_369 : decode cL_law 369 = .ok (.invokevirtual 58, 3) := by decide +kernel
theorem dL_law_372 : decode cL_law 372 = .ok (.aload_n 2, 1) := by decide +kernel
theorem dL_law_373 : decode cL_law 373 = .ok (.invokevirtual 61, 3) := by decide +kernel
theorem dL_law_376 : decode cL_law 376 = .ok (.if_icmp .eq 248, 3) := by decide +kernel
theorem dL_law_379 : decode cL_law 379 = .ok (.iconst 0, 1) := by decide +kernel
theorem dL_law_380 : decode cL_law 380 = .ok (.ireturn, 1) := by decide +kernel
theorem dL_law_381 : decode cL_law 381 = .ok (.aload_n 1, 1) := by decide +kernel
theorem dL_law_382 : decode cL_law 382 = .ok (.invokevirtual 62, 3) := by decide +kernel
theorem dL_law_385 : decode cL_law 385 = .ok (.aload_n 2, 1) := by decide +kernel
theorem dL_law_386 : decode cL_law 386 = .ok (.invokevirtual 65, 3) := by decide +kernel
theorem dL_law_389 : decode cL_law 389 = .ok (.if_icmp .eq 235, 3) := by decide +kernel
theorem dL_law_392 : decode cL_law 392 = .ok (.iconst 0, 1) := by decide +kernel
theorem dL_law_393 : decode cL_law 393 = .ok (.ireturn, 1) := by decide +kernel
theorem dL_law_394 : decode cL_law 394 = .ok (.aload_n 1, 1) := by decide +kernel
theorem dL_law_395 : decode cL_law 395 = .ok (.aload_n 0, 1) := by decide +kernel
theorem dL_law_396 : decode cL_law 396 = .ok (.iload_n 3, 1) := by decide +kernel
theorem dL_law_397 : decode cL_law 397 = .ok (.iconst 1, 1) := by decide +kernel
theorem dL_law_398 : decode cL_law 398 = .ok (.iadd, 1) := by decide +kernel
theorem dL_law_399 : decode cL_law 399 = .ok (.iaload, 1) := by decide +kernel
theorem dL_law_400 : decode cL_law 400 = .ok (.aload_n 0, 1) := by decide +kernel
theorem dL_law_401 : decode cL_law 401 = .ok (.iload_n 3, 1) := by decide +kernel
theorem dL_law_402 : decode cL_law 402 = .ok (.iconst 2, 1) := by decide +kernel
theorem dL_law_403 : decode cL_law 403 = .ok (.iadd, 1) := by decide +kernel
theorem dL_law_404 : decode cL_law 404 = .ok (.iaload, 1) := by decide +kernel
theorem dL_law_405 : decode cL_law 405 = .ok (.invokevirtual 66, 3) := by decide +kernel
theorem dL_law_408 : decode cL_law 408 = .ok (.aload_n 2, 1) := by decide +kernel
theorem dL_law_409 : decode cL_law 409 = .ok (.aload_n 0, 1) := by decide +kernel
theorem dL_law_410 : decode cL_law 410 = .ok (.iload_n 3, 1) := by decide +kernel
theorem dL_law_411 : decode cL_law 411 = .ok (.iconst 1, 1) := by decide +kernel
theorem dL_law_412 : decode cL_law 412 = .ok (.iadd, 1) := by decide +kernel
theorem dL_law_413 : decode cL_law 413 = .ok (.iaload, 1) := by decide +kernel
theorem dL_law_414 : decode cL_law 414 = .ok (.aload_n 0, 1) := by decide +kernel
theorem dL_law_415 : decode cL_law 415 = .ok (.iload_n 3, 1) := by decide +kernel
theorem dL_law_416 : decode cL_law 416 = .ok (.iconst 2, 1) := by decide +kernel
theorem dL_law_417 : decode cL_law 417 = .ok (.iadd, 1) := by decide +kernel
theorem dL_law_418 : decode cL_law 418 = .ok (.iaload, 1) := by decide +kernel
theorem dL_law_419 : decode cL_law 419 = .ok (.invokevirtual 69, 3) := by decide +kernel
theorem dL_law_422 : decode cL_law 422 = .ok (.if_icmp .eq 202, 3) := by decide +kernel
theorem dL_law_425 : decode cL_law 425 = .ok (.iconst 0, 1) := by decide +kernel
theorem dL_law_426 : decode cL_law 426 = .ok (.ireturn, 1) := by decide +kernel
theorem dL_law_427 : decode cL_law 427 = .ok (.aload_n 1, 1) := by decide +kernel
theorem dL_law_428 : decode cL_law 428 = .ok (.aload_n 0, 1) := by decide +kernel
theorem dL_law_429 : decode cL_law 429 = .ok (.iload_n 3, 1) := by decide +kernel
theorem dL_law_430 : decode cL_law 430 = .ok (.iconst 1, 1) := by decide +kernel
theorem dL_law_431 : decode cL_law 431 = .ok (.iadd, 1) := by decide +kernel
theorem dL_law_432 : decode cL_law 432 = .ok (.iaload, 1) := by decide +kernel
theorem dL_law_433 : decode cL_law 433 = .ok (.invokevirtual 70, 3) := by decide +kernel
theorem dL_law_436 : decode cL_law 436 = .ok (.aload_n 2, 1) := by decide +kernel
theorem dL_law_437 : decode cL_law 437 = .ok (.aload_n 0, 1) := by decide +kernel
theorem dL_law_438 : decode cL_law 438 = .ok (.iload_n 3, 1) := by decide +kernel
theorem dL_law_439 : decode cL_law 439 = .ok (.iconst 1, 1) := by decide +kernel
theorem dL_law_440 : decode cL_law 440 = .ok (.iadd, 1) := by decide +kernel
theorem dL_law_441 : decode cL_law 441 = .ok (.iaload, 1) := by decide +kernel
theorem dL_law_442 : decode cL_law 442 = .ok (.invokevirtual 73, 3) := by decide +kernel
theorem dL_law_445 : decode cL_law 445 = .ok (.if_icmp .eq 179, 3) := by decide +kernel
theorem dL_law_448 : decode cL_law 448 = .ok (.iconst 0, 1) := by decide +kernel
theorem dL_law_449 : decode cL_law 449 = .ok (.ireturn, 1) := by decide +kernel
theorem dL_law_450 : decode cL_law 450 = .ok (.aload_n 1, 1) := by decide +kernel
theorem dL_law_451 : decode cL_law 451 = .ok (.aload_n 0, 1) := by decide +kernel
theorem dL_law_452 : decode cL_law 452 = .ok (.iload_n 3, 1) := by decide +kernel
theorem dL_law_453 : decode cL_law 453 = .ok (.iconst 1, 1) := by decide +kernel
theorem dL_law_454 : decode cL_law 454 = .ok (.iadd, 1) := by decide +kernel
theorem dL_law_455 : decode cL_law 455 = .ok (.iaload, 1) := by decide +kernel
theorem dL_law_456 : decode cL_law 456 = .ok (.aload_n 0, 1) := by decide +kernel
theorem dL_law_457 : decode cL_law 457 = .ok (.iload_n 3, 1) := by decide +kernel
theorem dL_law_458 : decode cL_law 458 = .ok (.iconst 2, 1) := by decide +kernel
theorem dL_law_459 : decode cL_law 459 = .ok (.iadd, 1) := by decide +kernel
theorem dL_law_460 : decode cL_law 460 = .ok (.iaload, 1) := by decide +kernel
theorem dL_law_461 : decode cL_law 461 = .ok (.invokevirtual 74, 3) := by decide +kernel
theorem dL_law_464 : decode cL_law 464 = .ok (.aload_n 2, 1) := by decide +kernel
theorem dL_law_465 : decode cL_law 465 = .ok (.aload_n 0, 1) := by decide +kernel
theorem dL_law_466 : decode cL_law 466 = .ok (.iload_n 3, 1) := by decide +kernel
theorem dL_law_467 : decode cL_law 467 = .ok (.iconst 1, 1) := by decide +kernel
theorem dL_law_468 : decode cL_law 468 = .ok (.iadd, 1) := by decide +kernel
theorem dL_law_469 : decode cL_law 469 = .ok (.iaload, 1) := by decide +kernel
theorem dL_law_470 : decode cL_law 470 = .ok (.aload_n 0, 1) := by decide +kernel
theorem dL_law_471 : decode cL_law 471 = .ok (.iload_n 3, 1) := by decide +kernel
theorem dL_law_472 : decode cL_law 472 = .ok (.iconst 2, 1) := by decide +kernel
theorem dL_law_473 : decode cL_law 473 = .ok (.iadd, 1) := by decide +kernel
theorem dL_law_474 : decode cL_law 474 = .ok (.iaload, 1) := by decide +kernel
theorem dL_law_475 : decode cL_law 475 = .ok (.invokevirtual 77, 3) := by decide +kernel
theorem dL_law_478 : decode cL_law 478 = .ok (.if_icmp .eq 146, 3) := by decide +kernel
theorem dL_law_481 : decode cL_law 481 = .ok (.iconst 0, 1) := by decide +kernel
theorem dL_law_482 : decode cL_law 482 = .ok (.ireturn, 1) := by decide +kernel
theorem dL_law_483 : decode cL_law 483 = .ok (.aload_n 1, 1) := by decide +kernel
theorem dL_law_484 : decode cL_law 484 = .ok (.aload_n 0, 1) := by decide +kernel
theorem dL_law_485 : decode cL_law 485 = .ok (.iload_n 3, 1) := by decide +kernel
theorem dL_law_486 : decode cL_law 486 = .ok (.iconst 1, 1) := by decide +kernel
theorem dL_law_487 : decode cL_law 487 = .ok (.iadd, 1) := by decide +kernel
theorem dL_law_488 : decode cL_law 488 = .ok (.iaload, 1) := by decide +kernel
theorem dL_law_489 : decode cL_law 489 = .ok (.aload_n 0, 1) := by decide +kernel
theorem dL_law_490 : decode cL_law 490 = .ok (.iload_n 3, 1) := by decide +kernel
theorem dL_law_491 : decode cL_law 491 = .ok (.iconst 2, 1) := by decide +kernel
theorem dL_law_492 : decode cL_law 492 = .ok (.iadd, 1) := by decide +kernel
theorem dL_law_493 : decode cL_law 493 = .ok (.iaload, 1) := by decide +kernel
theorem dL_law_494 : decode cL_law 494 = .ok (.invokevirtual 78, 3) := by decide +kernel
theorem dL_law_497 : decode cL_law 497 = .ok (.aload_n 2, 1) := by decide +kernel
theorem dL_law_498 : decode cL_law 498 = .ok (.aload_n 0, 1) := by decide +kernel
theorem dL_law_499 : decode cL_law 499 = .ok (.iload_n 3, 1) := by decide +kernel
theorem dL_law_500 : decode cL_law 500 = .ok (.iconst 1, 1) := by decide +kernel
theorem dL_law_501 : decode cL_law 501 = .ok (.iadd, 1) := by decide +kernel
theorem dL_law_502 : decode cL_law 502 = .ok (.iaload, 1) := by decide +kernel
theorem dL_law_503 : decode cL_law 503 = .ok (.aload_n 0, 1) := by decide +kernel
theorem dL_law_504 : decode cL_law 504 = .ok (.iload_n 3, 1) := by decide +kernel
theorem dL_law_505 : decode cL_law 505 = .ok (.iconst 2, 1) := by decide +kernel
theorem dL_law_506 : decode cL_law 506 = .ok (.iadd, 1) := by decide +kernel
theorem dL_law_507 : decode cL_law 507 = .ok (.iaload, 1) := by decide +kernel
theorem dL_law_508 : decode cL_law 508 = .ok (.invokevirtual 81, 3) := by decide +kernel
theorem dL_law_511 : decode cL_law 511 = .ok (.if_icmp .eq 113, 3) := by decide +kernel
theorem dL_law_514 : decode cL_law 514 = .ok (.iconst 0, 1) := by decide +kernel
theorem dL_law_515 : decode cL_law 515 = .ok (.ireturn, 1) := by decide +kernel
theorem dL_law_516 : decode cL_law 516 = .ok (.aload_n 1, 1) := by decide +kernel
theorem dL_law_517 : decode cL_law 517 = .ok (.aload_n 0, 1) := by decide +kernel
theorem dL_law_518 : decode cL_law 518 = .ok (.iload_n 3, 1) := by decide +kernel
theorem dL_law_519 : decode cL_law 519 = .ok (.iconst 1, 1) := by decide +kernel
theorem dL_law_520 : decode cL_law 520 = .ok (.iadd, 1) := by decide +kernel
theorem dL_law_521 : decode cL_law 521 = .ok (.iaload, 1) := by decide +kernel
theorem dL_law_522 : decode cL_law 522 = .ok (.invokevirtual 82, 3) := by decide +kernel
theorem dL_law_525 : decode cL_law 525 = .ok (.aload_n 2, 1) := by decide +kernel
theorem dL_law_526 : decode cL_law 526 = .ok (.aload_n 0, 1) := by decide +kernel
theorem dL_law_527 : decode cL_law 527 = .ok (.iload_n 3, 1) := by decide +kernel
theorem dL_law_528 : decode cL_law 528 = .ok (.iconst 1, 1) := by decide +kernel
theorem dL_law_529 : decode cL_law 529 = .ok (.iadd, 1) := by decide +kernel
theorem dL_law_530 : decode cL_law 530 = .ok (.iaload, 1) := by decide +kernel
theorem dL_law_531 : decode cL_law 531 = .ok (.invokevirtual 85, 3) := by decide +kernel
theorem dL_law_534 : decode cL_law 534 = .ok (.if_icmp .eq 90, 3) := by decide +kernel
theorem dL_law_537 : decode cL_law 537 = .ok (.iconst 0, 1) := by decide +kernel
theorem dL_law_538 : decode cL_law 538 = .ok (.ireturn, 1) := by decide +kernel
theorem dL_law_539 : decode cL_law 539 = .ok (.aload_n 1, 1) := by decide +kernel
theorem dL_law_540 : decode cL_law 540 = .ok (.invokevirtual 86, 3) := by decide +kernel
theorem dL_law_543 : decode cL_law 543 = .ok (.aload_n 2, 1) := by decide +kernel
theorem dL_law_544 : decode cL_law 544 = .ok (.invokevirtual 89, 3) := by decide +kernel
theorem dL_law_547 : decode cL_law 547 = .ok (.if_icmp .eq 77, 3) := by decide +kernel
theorem dL_law_550 : decode cL_law 550 = .ok (.iconst 0, 1) := by decide +kernel
theorem dL_law_551 : decode cL_law 551 = .ok (.ireturn, 1) := by decide +kernel
theorem dL_law_552 : decode cL_law 552 = .ok (.aload_n 1, 1) := by decide +kernel
theorem dL_law_553 : decode cL_law 553 = .ok (.invokevirtual 90, 3) := by decide +kernel
theorem dL_law_556 : decode cL_law 556 = .ok (.aload_n 2, 1) := by decide +kernel
theorem dL_law_557 : decode cL_law 557 = .ok (.invokevirtual 93, 3) := by decide +kernel
theorem dL_law_560 : decode cL_law 560 = .ok (.if_icmp .eq 64, 3) := by decide +kernel
theorem dL_law_563 : decode cL_law 563 = .ok (.iconst 0, 1) := by decide +kernel
theorem dL_law_564 : decode cL_law 564 = .ok (.ireturn, 1) := by decide +kernel
theorem dL_law_565 : decode cL_law 565 = .ok (.aload_n 1, 1) := by decide +kernel
theorem dL_law_566 : decode cL_law 566 = .ok (.aload_n 0, 1) := by decide +kernel
theorem dL_law_567 : decode cL_law 567 = .ok (.iload_n 3, 1) := by decide +kernel
theorem dL_law_568 : decode cL_law 568 = .ok (.iconst 1, 1) := by decide +kernel
theorem dL_law_569 : decode cL_law 569 = .ok (.iadd, 1) := by decide +kernel
theorem dL_law_570 : decode cL_law 570 = .ok (.iaload, 1) := by decide +kernel
theorem dL_law_571 : decode cL_law 571 = .ok (.aload_n 0, 1) := by decide +kernel
theorem dL_law_572 : decode cL_law 572 = .ok (.iload_n 3, 1) := by decide +kernel
theorem dL_law_573 : decode cL_law 573 = .ok (.iconst 2, 1) := by decide +kernel
theorem dL_law_574 : decode cL_law 574 = .ok (.iadd, 1) := by decide +kernel
theorem dL_law_575 : decode cL_law 575 = .ok (.iaload, 1) := by decide +kernel
theorem dL_law_576 : decode cL_law 576 = .ok (.invokevirtual 94, 3) := by decide +kernel
theorem dL_law_579 : decode cL_law 579 = .ok (.aload_n 2, 1) := by decide +kernel
theorem dL_law_580 : decode cL_law 580 = .ok (.aload_n 0, 1) := by decide +kernel
theorem dL_law_581 : decode cL_law 581 = .ok (.iload_n 3, 1) := by decide +kernel
theorem dL_law_582 : decode cL_law 582 = .ok (.iconst 1, 1) := by decide +kernel
theorem dL_law_583 : decode cL_law 583 = .ok (.iadd, 1) := by decide +kernel
theorem dL_law_584 : decode cL_law 584 = .ok (.iaload, 1) := by decide +kernel
theorem dL_law_585 : decode cL_law 585 = .ok (.aload_n 0, 1) := by decide +kernel
theorem dL_law_586 : decode cL_law 586 = .ok (.iload_n 3, 1) := by decide +kernel
theorem dL_law_587 : decode cL_law 587 = .ok (.iconst 2, 1) := by decide +kernel
theorem dL_law_588 : decode cL_law 588 = .ok (.iadd, 1) := by decide +kernel
theorem dL_law_589 : decode cL_law 589 = .ok (.iaload, 1) := by decide +kernel
theorem dL_law_590 : decode cL_law 590 = .ok (.invokevirtual 97, 3) := by decide +kernel
theorem dL_law_593 : decode cL_law 593 = .ok (.if_icmp .eq 31, 3) := by decide +kernel
theorem dL_law_596 : decode cL_law 596 = .ok (.iconst 0, 1) := by decide +kernel
theorem dL_law_597 : decode cL_law 597 = .ok (.ireturn, 1) := by decide +kernel
theorem dL_law_598 : decode cL_law 598 = .ok (.aload_n 1, 1) := by decide +kernel
theorem dL_law_599 : decode cL_law 599 = .ok (.invokevirtual 98, 3) := by decide +kernel
theorem dL_law_602 : decode cL_law 602 = .ok (.aload_n 2, 1) := by decide +kernel
theorem dL_law_603 : decode cL_law 603 = .ok (.invokevirtual 101, 3) := by decide +kernel
theorem dL_law_606 : decode cL_law 606 = .ok (.if_icmp .eq 18, 3) := by decide +kernel
theorem dL_law_609 : decode cL_law 609 = .ok (.iconst 0, 1) := by decide +kernel
theorem dL_law_610 : decode cL_law 610 = .ok (.ireturn, 1) := by decide +kernel
theorem dL_law_611 : decode cL_law 611 = .ok (.aload_n 1, 1) := by decide +kernel
theorem dL_law_612 : decode cL_law 612 = .ok (.invokevirtual 102, 3) := by decide +kernel
theorem dL_law_615 : decode cL_law 615 = .ok (.aload_n 2, 1) := by decide +kernel
theorem dL_law_616 : decode cL_law 616 = .ok (.invokevirtual 105, 3) := by decide +kernel
theorem dL_law_619 : decode cL_law 619 = .ok (.if_icmp .eq 5, 3) := by decide +kernel
theorem dL_law_622 : decode cL_law 622 = .ok (.iconst 0, 1) := by decide +kernel
theorem dL_law_623 : decode cL_law 623 = .ok (.ireturn, 1) := by decide +kernel
theorem dL_law_624 : decode cL_law 624 = .ok (.iinc 3 4, 3) := by decide +kernel
theorem dL_law_627 : decode cL_law 627 = .ok (.goto (-609), 3) := by decide +kernel
theorem dL_law_630 : decode cL_law 630 = .ok (.iconst 1, 1) := by decide +kernel
theorem dL_law_631 : decode cL_law 631 = .ok (.ireturn, 1) := by decide +kernel
