theorem dX8_link_0 : decode cX8_link 0 = .ok (.aload_n 0, 1) := by decide +kernel
theorem dX8_link_1 : decode cX8_link 1 = .ok (.iload_n 1, 1) := by decide +kernel
theorem dX8_link_2 : decode cX8_link 2 = .ok (.invokevirtual 103, 3) := by decide +kernel
theorem dX8_link_5 : decode cX8_link 5 = .ok (.ifCond .ne 5, 3) := by decide +kernel
theorem dX8_link_8 : decode cX8_link 8 = .ok (.iconst (-1), 1) := by decide +kernel
theorem dX8_link_9 : decode cX8_link 9 = .ok (.ireturn, 1) := by decide +kernel
theorem dX8_link_10 : decode cX8_link 10 = .ok (.iload_n 2, 1) := by decide +kernel
theorem dX8_link_11 : decode cX8_link 11 = .ok (.iconst 0, 1) := by decide +kernel
theorem dX8_link_12 : decode cX8_link 12 = .ok (.bipush 12, 2) := by decide +kernel
theorem dX8_link_14 : decode cX8_link 14 = .ok (.invokestatic 29, 3) := by decide +kernel
theorem dX8_link_17 : decode cX8_link 17 = .ok (.ifCond .eq 12, 3) := by decide +kernel
theorem dX8_link_20 : decode cX8_link 20 = .ok (.aload_n 0, 1) := by decide +kernel
theorem dX8_link_21 : decode cX8_link 21 = .ok (.iload_n 1, 1) := by decide +kernel
theorem dX8_link_22 : decode cX8_link 22 = .ok (.iload_n 2, 1) := by decide +kernel
theorem dX8_link_23 : decode cX8_link 23 = .ok (.invokevirtual 168, 3) := by decide +kernel
theorem dX8_link_26 : decode cX8_link 26 = .ok (.goto 5, 3) := by decide +kernel
theorem dX8_link_29 : decode cX8_link 29 = .ok (.bipush (-2), 2) := by decide +kernel
theorem dX8_link_31 : decode cX8_link 31 = .ok (.ireturn, 1) := by decide +kernel
set_option maxRecDepth 20000 in
theorem ggX8_stage_X8_within : GoodIn wsX8_stage wsX8_within := goodIn_r _ [5] (by decide +kernel) (by decide +kernel)
set_option maxRecDepth 20000 in
theorem gX8_stage_X8_within : GoodIn wsX8_stage (va_wsS RX8 29 yX8_within wsX8_within) := goodIn_app (goodIn_of _ (by decide +kernel)) ggX8_stage_X8_within
theorem dX8_stage_0 : decode cX8_stage 0 = .ok (.iload_n 1, 1) := by decide +kernel
theorem dX8_stage_1 : decode cX8_stage 1 = .ok (.iconst 0, 1) := by decide +kernel
theorem dX8_stage_2 : decode cX8_stage 2 = .ok (.aload_n 0, 1) := by decide +kernel
theorem dX8_stage_3 : decode cX8_stage 3 = .ok (.getfield 7, 3) := by decide +kernel
theorem dX8_stage_6 : decode cX8_stage 6 = .ok (.iconst 3, 1) := by decide +kernel
theorem dX8_stage_7 : decode cX8_stage 7 = .ok (.iaload, 1) := by decide +kernel
theorem dX8_stage_8 : decode cX8_stage 8 = .ok (.iconst 1, 1) := by decide +kernel
theorem dX8_stage_9 : decode cX8_stage 9 = .ok (.isub, 1) := by decide +kernel
theorem dX8_stage_10 : decode cX8_stage 10 = .ok (.invokestatic 29, 3) := by decide +kernel
theorem dX8_stage_13 : decode cX8_stage 13 = .ok (.ifCond .ne 5, 3) := by decide +kernel
theorem dX8_stage_16 : decode cX8_stage 16 = .ok (.iconst (-1), 1) := by decide +kernel
theorem dX8_stage_17 : decode cX8_stage 17 = .ok (.ireturn, 1) := by decide +kernel
theorem dX8_stage_18 : decode cX8_stage 18 = .ok (.aload_n 0, 1) := by decide +kernel
theorem dX8_stage_19 : decode cX8_stage 19 = .ok (.getfield 7, 3) := by decide +kernel
theorem dX8_stage_22 : decode cX8_stage 22 = .ok (.bipush 97, 2) := by decide +kernel
theorem dX8_stage_24 : decode cX8_stage 24 = .ok (.iload_n 1, 1) := by decide +kernel
theorem dX8_stage_25 : decode cX8_stage 25 = .ok (.iadd, 1) := by decide +kernel
theorem dX8_stage_26 : decode cX8_stage 26 = .ok (.iaload, 1) := by decide +kernel
theorem dX8_stage_27 : decode cX8_stage 27 = .ok (.iconst 1, 1) := by decide +kernel
theorem dX8_stage_28 : decode cX8_stage 28 = .ok (.if_icmp .ne 15, 3) := by decide +kernel
theorem dX8_stage_31 : decode cX8_stage 31 = .ok (.aload_n 0, 1) := by decide +kernel
theorem dX8_stage_32 : decode cX8_stage 32 = .ok (.getfield 7, 3) := by decide +kernel
theorem dX8_stage_35 : decode cX8_stage 35 = .ok (.bipush 103, 2) := by decide +kernel
theorem dX8_stage_37 : decode cX8_stage 37 = .ok (.iload_n 1, 1) := by decide +kernel
theorem dX8_stage_38 : decode cX8_stage 38 = .ok (.iadd, 1) := by decide +kernel
theorem dX8_stage_39 : decode cX8_stage 39 = .ok (.iaload, 1) := by decide +kernel
theorem dX8_stage_40 : decode cX8_stage 40 = .ok (.goto 5, 3) := by decide +kernel
theorem dX8_stage_43 : decode cX8_stage 43 = .ok (.bipush (-5), 2) := by decide +kernel
theorem dX8_stage_45 : decode cX8_stage 45 = .ok (.ireturn, 1) := by decide +kernel
set_option maxRecDepth 20000 in
theorem ggX8_waiting_X8_isSender : GoodIn wsX8_waiting wsX8_isSender := goodIn_r _ [5, 6, 7, 4, 8] (by decide +kernel) (by decide +kernel)
set_option maxRecDepth 20000 in
theorem gX8_waiting_X8_isSender : GoodIn wsX8_waiting (va_wsS RX8 95 yX8_isSender wsX8_isSender) := goodIn_app (goodIn_of _ (by decide +kernel)) ggX8_waiting_X8_isSender
theorem dX8_waiting_0 : decode cX8_waiting 0 = .ok (.iload_n 1, 1) := by decide +kernel
theorem dX8_waiting_1 : decode cX8_waiting 1 = .ok (.invokestatic 95, 3) := by decide +kernel
theorem dX8_waiting_4 : decode cX8_waiting 4 = .ok (.ifCond .ne 5, 3) := by decide +kernel
theorem dX8_waiting_7 : decode cX8_waiting 7 = .ok (.iconst (-1), 1) := by decide +kernel
theorem dX8_waiting_8 : decode cX8_waiting 8 = .ok (.ireturn, 1) := by decide +kernel
theorem dX8_waiting_9 : decode cX8_waiting 9 = .ok (.iload_n 2, 1) := by decide +kernel
theorem dX8_waiting_10 : decode cX8_waiting 10 = .ok (.ifCond .ge 6, 3) := by decide +kernel
theorem dX8_waiting_13 : decode cX8_waiting 13 = .ok (.bipush (-2), 2) := by decide +kernel
theorem dX8_waiting_15 : decode cX8_waiting 15 = .ok (.ireturn, 1) := by decide +kernel
theorem dX8_waiting_16 : decode cX8_waiting 16 = .ok (.iload_n 2, 1) := by decide +kernel
theorem dX8_waiting_17 : decode cX8_waiting 17 = .ok (.aload_n 0, 1) := by decide +kernel
theorem dX8_waiting_18 : decode cX8_waiting 18 = .ok (.getfield 7, 3) := by decide +kernel
theorem dX8_waiting_21 : decode cX8_waiting 21 = .ok (.bipush 11, 2) := by decide +kernel
theorem dX8_waiting_23 : decode cX8_waiting 23 = .ok (.iload_n 1, 1) := by decide +kernel
theorem dX8_waiting_24 : decode cX8_waiting 24 = .ok (.iadd, 1) := by decide +kernel
theorem dX8_waiting_25 : decode cX8_waiting 25 = .ok (.iaload, 1) := by decide +kernel
theorem dX8_waiting_26 : decode cX8_waiting 26 = .ok (.if_icmp .ge 20, 3) := by decide +kernel
theorem dX8_waiting_29 : decode cX8_waiting 29 = .ok (.aload_n 0, 1) := by decide +kernel
theorem dX8_waiting_30 : decode cX8_waiting 30 = .ok (.getfield 7, 3) := by decide +kernel
theorem dX8_waiting_33 : decode cX8_waiting 33 = .ok (.bipush 109, 2) := by decide +kernel
theorem dX8_waiting_35 : decode cX8_waiting 35 = .ok (.bipush 20, 2) := by decide +kernel
theorem dX8_waiting_37 : decode cX8_waiting 37 = .ok (.iload_n 1, 1) := by decide +kernel
theorem dX8_waiting_38 : decode cX8_waiting 38 = .ok (.imul, 1) := by decide +kernel
theorem dX8_waiting_39 : decode cX8_waiting 39 = .ok (.iadd, 1) := by decide +kernel
theorem dX8_waiting_40 : decode cX8_waiting 40 = .ok (.iload_n 2, 1) := by decide +kernel
theorem dX8_waiting_41 : decode cX8_waiting 41 = .ok (.iadd, 1) := by decide +kernel
theorem dX8_waiting_42 : decode cX8_waiting 42 = .ok (.iaload, 1) := by decide +kernel
theorem dX8_waiting_43 : decode cX8_waiting 43 = .ok (.goto 5, 3) := by decide +kernel
theorem dX8_waiting_46 : decode cX8_waiting 46 = .ok (.bipush (-5), 2) := by decide +kernel
theorem dX8_waiting_48 : decode cX8_waiting 48 = .ok (.ireturn, 1) := by decide +kernel
set_option maxRecDepth 20000 in
theorem ggX8_noted_X8_within : GoodIn wsX8_noted wsX8_within := goodIn_r _ [5] (by decide +kernel) (by decide +kernel)
set_option maxRecDepth 20000 in
theorem gX8_noted_X8_within : GoodIn wsX8_noted (va_wsS RX8 29 yX8_within wsX8_within) := goodIn_app (goodIn_of _ (by decide +kernel)) ggX8_noted_X8_within
theorem dX8_noted_0 : decode cX8_noted 0 = .ok (.iload_n 1, 1) := by decide +kernel
theorem dX8_noted_1 : decode cX8_noted 1 = .ok (.ifCond .lt 12, 3) := by decide +kernel
theorem dX8_noted_4 : decode cX8_noted 4 = .ok (.iload_n 2, 1) := by decide +kernel
theorem dX8_noted_5 : decode cX8_noted 5 = .ok (.iconst 0, 1) := by decide +kernel
theorem dX8_noted_6 : decode cX8_noted 6 = .ok (.iconst 2, 1) := by decide +kernel
theorem dX8_noted_7 : decode cX8_noted 7 = .ok (.invokestatic 29, 3) := by decide +kernel
theorem dX8_noted_10 : decode cX8_noted 10 = .ok (.ifCond .ne 6, 3) := by decide +kernel
theorem dX8_noted_13 : decode cX8_noted 13 = .ok (.bipush (-2), 2) := by decide +kernel
theorem dX8_noted_15 : decode cX8_noted 15 = .ok (.ireturn, 1) := by decide +kernel
theorem dX8_noted_16 : decode cX8_noted 16 = .ok (.iload_n 1, 1) := by decide +kernel
theorem dX8_noted_17 : decode cX8_noted 17 = .ok (.bipush 50, 2) := by decide +kernel
theorem dX8_noted_19 : decode cX8_noted 19 = .ok (.if_icmp .ge 30, 3) := by decide +kernel
theorem dX8_noted_22 : decode cX8_noted 22 = .ok (.iload_n 1, 1) := by decide +kernel
theorem dX8_noted_23 : decode cX8_noted 23 = .ok (.aload_n 0, 1) := by decide +kernel
theorem dX8_noted_24 : decode cX8_noted 24 = .ok (.getfield 7, 3) := by decide +kernel
theorem dX8_noted_27 : decode cX8_noted 27 = .ok (.iconst 5, 1) := by decide +kernel
theorem dX8_noted_28 : decode cX8_noted 28 = .ok (.iaload, 1) := by decide +kernel
theorem dX8_noted_29 : decode cX8_noted 29 = .ok (.if_icmp .ge 20, 3) := by decide +kernel
theorem dX8_noted_32 : decode cX8_noted 32 = .ok (.aload_n 0, 1) := by decide +kernel
theorem dX8_noted_33 : decode cX8_noted 33 = .ok (.getfield 7, 3) := by decide +kernel
theorem dX8_noted_36 : decode cX8_noted 36 = .ok (.sipush 169, 3) := by decide +kernel
theorem dX8_noted_39 : decode cX8_noted 39 = .ok (.iconst 3, 1) := by decide +kernel
theorem dX8_noted_40 : decode cX8_noted 40 = .ok (.iload_n 1, 1) := by decide +kernel
theorem dX8_noted_41 : decode cX8_noted 41 = .ok (.imul, 1) := by decide +kernel
theorem dX8_noted_42 : decode cX8_noted 42 = .ok (.iadd, 1) := by decide +kernel
theorem dX8_noted_43 : decode cX8_noted 43 = .ok (.iload_n 2, 1) := by decide +kernel
theorem dX8_noted_44 : decode cX8_noted 44 = .ok (.iadd, 1) := by decide +kernel
theorem dX8_noted_45 : decode cX8_noted 45 = .ok (.iaload, 1) := by decide +kernel
theorem dX8_noted_46 : decode cX8_noted 46 = .ok (.goto 5, 3) := by decide +kernel
theorem dX8_noted_49 : decode cX8_noted 49 = .ok (.bipush (-5), 2) := by decide +kernel
theorem dX8_noted_51 : decode cX8_noted 51 = .ok (.ireturn, 1) := by decide +kernel
set_option maxRecDepth 20000 in
theorem ggX8_total_X8_fullStages : GoodIn wsX8_total wsX8_fullStages := goodIn_r _ [8, 1, 9, 10, 11, 12, 13, 14, 15, 16, 17, 18, 19, 20] (by decide +kernel) (by decide +kernel)
set_option maxRecDepth 20000 in
theorem gX8_total_X8_fullStages : GoodIn wsX8_total (wsV RX8 109 RX8 yX8_fullStages wsX8_fullStages) := goodIn_app (goodIn_of _ (by decide +kernel)) ggX8_total_X8_fullStages
theorem dX8_total_0 : decode cX8_total 0 = .ok (.iload_n 1, 1) := by decide +kernel
theorem dX8_total_1 : decode cX8_total 1 = .ok (.tableswitch 177 0 14 #[75, 82, 89, 105, 110, 118, 126, 133, 141, 149, 157, 157, 157, 167, 172], 75) := by decide +kernel
theorem dX8_total_76 : decode cX8_total 76 = .ok (.aload_n 0, 1) := by decide +kernel
theorem dX8_total_77 : decode cX8_total 77 = .ok (.getfield 7, 3) := by decide +kernel
theorem dX8_total_80 : decode cX8_total 80 = .ok (.iconst 3, 1) := by decide +kernel
theorem dX8_total_81 : decode cX8_total 81 = .ok (.iaload, 1) := by decide +kernel
theorem dX8_total_82 : decode cX8_total 82 = .ok (.ireturn, 1) := by decide +kernel
theorem dX8_total_83 : decode cX8_total 83 = .ok (.aload_n 0, 1) := by decide +kernel
theorem dX8_total_84 : decode cX8_total 84 = .ok (.getfield 7, 3) := by decide +kernel
theorem dX8_total_87 : decode cX8_total 87 = .ok (.iconst 4, 1) := by decide +kernel
theorem dX8_total_88 : decode cX8_total 88 = .ok (.iaload, 1) := by decide +kernel
theorem dX8_total_89 : decode cX8_total 89 = .ok (.ireturn, 1) := by decide +kernel
theorem dX8_total_90 : decode cX8_total 90 = .ok (.aload_n 0, 1) := by decide +kernel
theorem dX8_total_91 : decode cX8_total 91 = .ok (.getfield 7, 3) := by decide +kernel
theorem dX8_total_94 : decode cX8_total 94 = .ok (.bipush 11, 2) := by decide +kernel
theorem dX8_total_96 : decode cX8_total 96 = .ok (.iaload, 1) := by decide +kernel
theorem dX8_total_97 : decode cX8_total 97 = .ok (.aload_n 0, 1) := by decide +kernel
theorem dX8_total_98 : decode cX8_total 98 = .ok (.getfield 7, 3) := by decide +kernel
theorem dX8_total_101 : decode cX8_total 101 = .ok (.bipush 12, 2) := by decide +kernel
theorem dX8_total_103 : decode cX8_total 103 = .ok (.iaload, 1) := by decide +kernel
theorem dX8_total_104 : decode cX8_total 104 = .ok (.iadd, 1) := by decide +kernel
theorem dX8_total_105 : decode cX8_total 105 = .ok (.ireturn, 1) := by decide +kernel
theorem dX8_total_106 : decode cX8_total 106 = .ok (.aload_n 0, 1) := by decide +kernel
theorem dX8_total_107 : decode cX8_total 107 = .ok (.invokevirtual 109, 3) := by decide +kernel
theorem dX8_total_110 : decode cX8_total 110 = .ok (.ireturn, 1) := by decide +kernel
theorem dX8_total_111 : decode cX8_total 111 = .ok (.aload_n 0, 1) := by decide +kernel
theorem dX8_total_112 : decode cX8_total 112 = .ok (.getfield 7, 3) := by decide +kernel
theorem dX8_total_115 : decode cX8_total 115 = .ok (.bipush 10, 2) := by decide +kernel
theorem dX8_total_117 : decode cX8_total 117 = .ok (.iaload, 1) := by decide +kernel
theorem dX8_total_118 : decode cX8_total 118 = .ok (.ireturn, 1) := by decide +kernel
theorem dX8_total_119 : decode cX8_total 119 = .ok (.aload_n 0, 1) := by decide +kernel
theorem dX8_total_120 : decode cX8_total 120 = .ok (.getfield 7, 3) := by decide +kernel
theorem dX8_total_123 : decode cX8_total 123 = .ok (.bipush 90, 2) := by decide +kernel
theorem dX8_total_125 : decode cX8_total 125 = .ok (.iaload, 1) := by decide +kernel
theorem dX8_total_126 : decode cX8_total 126 = .ok (.ireturn, 1) := by decide +kernel
theorem dX8_total_127 : decode cX8_total 127 = .ok (.aload_n 0, 1) := by decide +kernel
theorem dX8_total_128 : decode cX8_total 128 = .ok (.getfield 7, 3) := by decide +kernel
theorem dX8_total_131 : decode cX8_total 131 = .ok (.iconst 5, 1) := by decide +kernel
theorem dX8_total_132 : decode cX8_total 132 = .ok (.iaload, 1) := by decide +kernel
theorem dX8_total_133 : decode cX8_total 133 = .ok (.ireturn, 1) := by decide +kernel
theorem dX8_total_134 : decode cX8_total 134 = .ok (.aload_n 0, 1) := by decide +kernel
theorem dX8_total_135 : decode cX8_total 135 = .ok (.getfield 7, 3) := by decide +kernel
theorem dX8_total_138 : decode cX8_total 138 = .ok (.bipush 6, 2) := by decide +kernel
theorem dX8_total_140 : decode cX8_total 140 = .ok (.iaload, 1) := by decide +kernel
theorem dX8_total_141 : decode cX8_total 141 = .ok (.ireturn, 1) := by decide +kernel
theorem dX8_total_142 : decode cX8_total 142 = .ok (.aload_n 0, 1) := by decide +kernel
theorem dX8_total_143 : decode cX8_total 143 = .ok (.getfield 7, 3) := by decide +kernel
theorem dX8_total_146 : decode cX8_total 146 = .ok (.bipush 7, 2) := by decide +kernel
theorem dX8_total_148 : decode cX8_total 148 = .ok (.iaload, 1) := by decide +kernel
theorem dX8_total_149 : decode cX8_total 149 = .ok (.ireturn, 1) := by decide +kernel
theorem dX8_total_150 : decode cX8_total 150 = .ok (.aload_n 0, 1) := by decide +kernel
theorem dX8_total_151 : decode cX8_total 151 = .ok (.getfield 7, 3) := by decide +kernel
theorem dX8_total_154 : decode cX8_total 154 = .ok (.bipush 8, 2) := by decide +kernel
theorem dX8_total_156 : decode cX8_total 156 = .ok (.iaload, 1) := by decide +kernel
theorem dX8_total_157 : decode cX8_total 157 = .ok (.ireturn, 1) := by decide +kernel
theorem dX8_total_158 : decode cX8_total 158 = .ok (.aload_n 0, 1) := by decide +kernel
theorem dX8_total_159 : decode cX8_total 159 = .ok (.getfield 7, 3) := by decide +kernel
theorem dX8_total_162 : decode cX8_total 162 = .ok (.iload_n 1, 1) := by decide +kernel
theorem dX8_total_163 : decode cX8_total 163 = .ok (.bipush 10, 2) := by decide +kernel
theorem dX8_total_165 : decode cX8_total 165 = .ok (.isub, 1) := by decide +kernel
theorem dX8_total_166 : decode cX8_total 166 = .ok (.iaload, 1) := by decide +kernel
theorem dX8_total_167 : decode cX8_total 167 = .ok (.ireturn, 1) := by decide +kernel
theorem dX8_total_168 : decode cX8_total 168 = .ok (.aload_n 0, 1) := by decide +kernel
theorem dX8_total_169 : decode cX8_total 169 = .ok (.getfield 33, 3) := by decide +kernel
theorem dX8_total_172 : decode cX8_total 172 = .ok (.ireturn, 1) := by decide +kernel
theorem dX8_total_173 : decode cX8_total 173 = .ok (.aload_n 0, 1) := by decide +kernel
theorem dX8_total_174 : decode cX8_total 174 = .ok (.getfield 131, 3) := by decide +kernel
theorem dX8_total_177 : decode cX8_total 177 = .ok (.ireturn, 1) := by decide +kernel
theorem dX8_total_178 : decode cX8_total 178 = .ok (.bipush (-2), 2) := by decide +kernel
theorem dX8_total_180 : decode cX8_total 180 = .ok (.ireturn, 1) := by decide +kernel
set_option maxRecDepth 20000 in
theorem ggX8_next_X8_nextChange : GoodIn wsX8_next wsX8_nextChange := goodIn_r _ [5, 6, 7, 8, 9, 4, 10, 11, 12, 13, 14, 15, 16, 17, 18, 19, 20, 21, 22] (by decide +kernel) (by decide +kernel)
set_option maxRecDepth 20000 in
theorem gX8_next_X8_nextChange : GoodIn wsX8_next (wsV RX8 88 RX8 yX8_nextChange wsX8_nextChange) := goodIn_app (goodIn_of _ (by decide +kernel)) ggX8_next_X8_nextChange
set_option maxRecDepth 20000 in
theorem ggX8_next_X8_whenOf : GoodIn wsX8_next wsX8_whenOf := goodIn_r _ [10, 6, 11, 12, 13, 14, 15, 16, 17, 18, 19, 20, 21, 22] (by decide +kernel) (by decide +kernel)
set_option maxRecDepth 20000 in
theorem gX8_next_X8_whenOf : GoodIn wsX8_next (wsV RX8 78 RX8 yX8_whenOf wsX8_whenOf) := goodIn_app (goodIn_of _ (by decide +kernel)) ggX8_next_X8_whenOf
theorem dX8_next_0 : decode cX8_next 0 = .ok (.aload_n 0, 1) := by decide +kernel
theorem dX8_next_1 : decode cX8_next 1 = .ok (.invokevirtual 88, 3) := by decide +kernel
theorem dX8_next_4 : decode cX8_next 4 = .ok (.istore_n 1, 1) := by decide +kernel
theorem dX8_next_5 : decode cX8_next 5 = .ok (.iload_n 1, 1) := by decide +kernel
theorem dX8_next_6 : decode cX8_next 6 = .ok (.bipush (-5), 2) := by decide +kernel
theorem dX8_next_8 : decode cX8_next 8 = .ok (.if_icmp .ne 8, 3) := by decide +kernel
theorem dX8_next_11 : decode cX8_next 11 = .ok (.bipush (-5), 2) := by decide +kernel
theorem dX8_next_13 : decode cX8_next 13 = .ok (.goto 8, 3) := by decide +kernel
theorem dX8_next_16 : decode cX8_next 16 = .ok (.aload_n 0, 1) := by decide +kernel
theorem dX8_next_17 : decode cX8_next 17 = .ok (.iload_n 1, 1) := by decide +kernel
theorem dX8_next_18 : decode cX8_next 18 = .ok (.invokevirtual 78, 3) := by decide +kernel
theorem dX8_next_21 : decode cX8_next 21 = .ok (.ireturn, 1) := by decide +kernel
set_option maxRecDepth 20000 in
theorem ggX8_quietIn_X8_putAside : GoodIn wsX8_quietIn wsX8_putAside := goodIn_r _ [5, 6, 7, 68, 69, 70, 71, 72, 73, 74, 75, 76, 77, 78, 79] (by decide +kernel) (by decide +kernel)
set_option maxRecDepth 20000 in
theorem gX8_quietIn_X8_putAside : GoodIn wsX8_quietIn (wsV RX8 37 RX8 yX8_putAside wsX8_putAside) := goodIn_app (goodIn_of _ (by decide +kernel)) ggX8_quietIn_X8_putAside
set_option maxRecDepth 20000 in
theorem ggX8_quietIn_X8_settle : GoodIn wsX8_quietIn wsX8_settle := goodIn_r _ [11, 7, 12, 13, 14, 4, 15, 16, 17, 18, 19, 20, 21, 22, 23, 24, 25, 26, 27, 28, 29, 30, 31, 32, 33, 34, 35, 36, 37, 38, 39, 40, 41, 42, 43, 44, 45, 46, 47, 48, 49, 50, 51, 52, 53, 54, 55, 56, 57, 58, 59, 60, 61, 62, 63, 68, 69, 70, 71, 72, 73, 74, 75, 76, 77, 78, 79] (by decide +kernel) (by decide +kernel)
set_option maxRecDepth 20000 in
theorem gX8_quietIn_X8_settle : GoodIn wsX8_quietIn (wsV RX8 121 RX8 yX8_settle wsX8_settle) := goodIn_app (goodIn_of _ (by decide +kernel)) ggX8_quietIn_X8_settle
set_option maxRecDepth 20000 in
theorem ggX8_quietIn_X8_takeBack : GoodIn wsX8_quietIn wsX8_takeBack := goodIn_r _ [67, 7, 6, 68, 69, 70, 71, 72, 73, 74, 75, 76, 77, 78, 79] (by decide +kernel) (by decide +kernel)
set_option maxRecDepth 20000 in
theorem gX8_quietIn_X8_takeBack : GoodIn wsX8_quietIn (wsV RX8 124 RX8 yX8_takeBack wsX8_takeBack) := goodIn_app (goodIn_of _ (by decide +kernel)) ggX8_quietIn_X8_takeBack
theorem dX8_quietIn_0 : decode cX8_quietIn 0 = .ok (.aload_n 0, 1) := by decide +kernel
theorem dX8_quietIn_1 : decode cX8_quietIn 1 = .ok (.invokevirtual 37, 3) := by decide +kernel
theorem dX8_quietIn_4 : decode cX8_quietIn 4 = .ok (.aload_n 0, 1) := by decide +kernel
theorem dX8_quietIn_5 : decode cX8_quietIn 5 = .ok (.invokevirtual 121, 3) := by decide +kernel
theorem dX8_quietIn_8 : decode cX8_quietIn 8 = .ok (.istore_n 1, 1) := by decide +kernel
theorem dX8_quietIn_9 : decode cX8_quietIn 9 = .ok (.aload_n 0, 1) := by decide +kernel
theorem dX8_quietIn_10 : decode cX8_quietIn 10 = .ok (.invokevirtual 124, 3) := by decide +kernel
theorem dX8_quietIn_13 : decode cX8_quietIn 13 = .ok (.iload_n 1, 1) := by decide +kernel
theorem dX8_quietIn_14 : decode cX8_quietIn 14 = .ok (.ireturn, 1) := by decide +kernel
set_option maxRecDepth 20000 in
theorem ggX8_withLead_X8_putAside : GoodIn wsX8_withLead wsX8_putAside := goodIn_r _ [7, 2, 1, 68, 69, 70, 71, 72, 73, 74, 75, 76, 77, 78, 79] (by decide +kernel) (by decide +kernel)
set_option maxRecDepth 20000 in
theorem gX8_withLead_X8_putAside : GoodIn wsX8_withLead (wsV RX8 37 RX8 yX8_putAside wsX8_putAside) := goodIn_app (goodIn_of _ (by decide +kernel)) ggX8_withLead_X8_putAside
set_option maxRecDepth 20000 in
theorem ggX8_withLead_X8_settle : GoodIn wsX8_withLead wsX8_settle := goodIn_r _ [11, 1, 12, 13, 14, 6, 15, 16, 17, 18, 19, 20, 21, 22, 23, 24, 25, 26, 27, 28, 29, 30, 31, 32, 33, 34, 35, 36, 37, 38, 39, 40, 41, 42, 43, 44, 45, 46, 47, 48, 49, 50, 51, 52, 53, 54, 55, 56, 57, 58, 59, 60, 61, 62, 63, 68, 69, 70, 71, 72, 73, 74, 75, 76, 77, 78, 79] (by decide +kernel) (by decide +kernel)
set_option maxRecDepth 20000 in
theorem gX8_withLead_X8_settle : GoodIn wsX8_withLead (wsV RX8 121 RX8 yX8_settle wsX8_settle) := goodIn_app (goodIn_of _ (by decide +kernel)) ggX8_withLead_X8_settle
set_option maxRecDepth 20000 in
theorem ggX8_withLead_X8_takeBack : GoodIn wsX8_withLead wsX8_takeBack := goodIn_r _ [67, 1, 2, 68, 69, 70, 71, 72, 73, 74, 75, 76, 77, 78, 79] (by decide +kernel) (by decide +kernel)
set_option maxRecDepth 20000 in
theorem gX8_withLead_X8_takeBack : GoodIn wsX8_withLead (wsV RX8 124 RX8 yX8_takeBack wsX8_takeBack) := goodIn_app (goodIn_of _ (by decide +kernel)) ggX8_withLead_X8_takeBack
theorem dX8_withLead_0 : decode cX8_withLead 0 = .ok (.aload_n 0, 1) := by decide +kernel
theorem dX8_withLead_1 : decode cX8_withLead 1 = .ok (.invokevirtual 37, 3) := by decide +kernel
theorem dX8_withLead_4 : decode cX8_withLead 4 = .ok (.aload_n 0, 1) := by decide +kernel
theorem dX8_withLead_5 : decode cX8_withLead 5 = .ok (.getfield 7, 3) := by decide +kernel
theorem dX8_withLead_8 : decode cX8_withLead 8 = .ok (.iconst 0, 1) := by decide +kernel
theorem dX8_withLead_9 : decode cX8_withLead 9 = .ok (.iload_n 1, 1) := by decide +kernel
theorem dX8_withLead_10 : decode cX8_withLead 10 = .ok (.iastore, 1) := by decide +kernel
theorem dX8_withLead_11 : decode cX8_withLead 11 = .ok (.aload_n 0, 1) := by decide +kernel
theorem dX8_withLead_12 : decode cX8_withLead 12 = .ok (.invokevirtual 121, 3) := by decide +kernel
theorem dX8_withLead_15 : decode cX8_withLead 15 = .ok (.istore_n 3, 1) := by decide +kernel
theorem dX8_withLead_16 : decode cX8_withLead 16 = .ok (.aload_n 0, 1) := by decide +kernel
theorem dX8_withLead_17 : decode cX8_withLead 17 = .ok (.getfield 7, 3) := by decide +kernel
theorem dX8_withLead_20 : decode cX8_withLead 20 = .ok (.iconst 5, 1) := by decide +kernel
theorem dX8_withLead_21 : decode cX8_withLead 21 = .ok (.iaload, 1) := by decide +kernel
theorem dX8_withLead_22 : decode cX8_withLead 22 = .ok (.aload_n 0, 1) := by decide +kernel
theorem dX8_withLead_23 : decode cX8_withLead 23 = .ok (.getfield 13, 3) := by decide +kernel
theorem dX8_withLead_26 : decode cX8_withLead 26 = .ok (.iconst 5, 1) := by decide +kernel
theorem dX8_withLead_27 : decode cX8_withLead 27 = .ok (.iaload, 1) := by decide +kernel
theorem dX8_withLead_28 : decode cX8_withLead 28 = .ok (.isub, 1) := by decide +kernel
theorem dX8_withLead_29 : decode cX8_withLead 29 = .ok (.istore 4, 2) := by decide +kernel
theorem dX8_withLead_31 : decode cX8_withLead 31 = .ok (.iload 4, 2) := by decide +kernel
theorem dX8_withLead_33 : decode cX8_withLead 33 = .ok (.aload_n 0, 1) := by decide +kernel
theorem dX8_withLead_34 : decode cX8_withLead 34 = .ok (.getfield 7, 3) := by decide +kernel
theorem dX8_withLead_37 : decode cX8_withLead 37 = .ok (.bipush 6, 2) := by decide +kernel
theorem dX8_withLead_39 : decode cX8_withLead 39 = .ok (.iaload, 1) := by decide +kernel
theorem dX8_withLead_40 : decode cX8_withLead 40 = .ok (.isub, 1) := by decide +kernel
theorem dX8_withLead_41 : decode cX8_withLead 41 = .ok (.aload_n 0, 1) := by decide +kernel
theorem dX8_withLead_42 : decode cX8_withLead 42 = .ok (.getfield 13, 3) := by decide +kernel
theorem dX8_withLead_45 : decode cX8_withLead 45 = .ok (.bipush 6, 2) := by decide +kernel
theorem dX8_withLead_47 : decode cX8_withLead 47 = .ok (.iaload, 1) := by decide +kernel
theorem dX8_withLead_48 : decode cX8_withLead 48 = .ok (.iadd, 1) := by decide +kernel
theorem dX8_withLead_49 : decode cX8_withLead 49 = .ok (.istore 5, 2) := by decide +kernel
theorem dX8_withLead_51 : decode cX8_withLead 51 = .ok (.aload_n 0, 1) := by decide +kernel
theorem dX8_withLead_52 : decode cX8_withLead 52 = .ok (.invokevirtual 124, 3) := by decide +kernel
theorem dX8_withLead_55 : decode cX8_withLead 55 = .ok (.iload_n 2, 1) := by decide +kernel
theorem dX8_withLead_56 : decode cX8_withLead 56 = .ok (.ifCond .ne 7, 3) := by decide +kernel
theorem dX8_withLead_59 : decode cX8_withLead 59 = .ok (.iload_n 3, 1) := by decide +kernel
theorem dX8_withLead_60 : decode cX8_withLead 60 = .ok (.goto 15, 3) := by decide +kernel
theorem dX8_withLead_63 : decode cX8_withLead 63 = .ok (.iload_n 2, 1) := by decide +kernel
theorem dX8_withLead_64 : decode cX8_withLead 64 = .ok (.iconst 1, 1) := by decide +kernel
theorem dX8_withLead_65 : decode cX8_withLead 65 = .ok (.if_icmp .ne 8, 3) := by decide +kernel
theorem dX8_withLead_68 : decode cX8_withLead 68 = .ok (.iload 4, 2) := by decide +kernel
theorem dX8_withLead_70 : decode cX8_withLead 70 = .ok (.goto 5, 3) := by decide +kernel
theorem dX8_withLead_73 : decode cX8_withLead 73 = .ok (.iload 5, 2) := by decide +kernel
theorem dX8_withLead_75 : decode cX8_withLead 75 = .ok (.ireturn, 1) := by decide +kernel
set_option maxRecDepth 20000 in
theorem ggX8_ifLead_X8_within : GoodIn wsX8_ifLead wsX8_within := goodIn_r _ [4] (by decide +kernel) (by decide +kernel)
set_option maxRecDepth 20000 in
theorem gX8_ifLead_X8_within : GoodIn wsX8_ifLead (va_wsS RX8 29 yX8_within wsX8_within) := goodIn_app (goodIn_of _ (by decide +kernel)) ggX8_ifLead_X8_within
set_option maxRecDepth 20000 in
theorem ggX8_ifLead_X8_withLead : GoodIn wsX8_ifLead wsX8_withLead := goodIn_r _ [8, 9, 10, 11, 12, 13, 3, 14, 15, 16, 17, 18, 19, 20, 21, 22, 23, 24, 25, 26, 27, 28, 29, 30, 31, 32, 33, 34, 35, 36, 37, 38, 39, 40, 41, 42, 43, 44, 45, 46, 47, 48, 49, 50, 51, 52, 53, 54, 55, 56, 57, 58, 59, 60, 61, 62, 63, 64, 65, 66, 67, 68, 69, 70, 71, 72, 73, 74, 75, 76, 77, 78, 79, 80, 81, 82, 83, 84, 85, 86] (by decide +kernel) (by decide +kernel)
set_option maxRecDepth 20000 in
theorem gX8_ifLead_X8_withLead : GoodIn wsX8_ifLead (wsV RX8 171 RX8 yX8_withLead wsX8_withLead) := goodIn_app (goodIn_of _ (by decide +kernel)) ggX8_ifLead_X8_withLead
theorem dX8_ifLead_0 : decode cX8_ifLead 0 = .ok (.iload_n 1, 1) := by decide +kernel
theorem dX8_ifLead_1 : decode cX8_ifLead 1 = .ok (.iconst 0, 1) := by decide +kernel
theorem dX8_ifLead_2 : decode cX8_ifLead 2 = .ok (.bipush 20, 2) := by decide +kernel
theorem dX8_ifLead_4 : decode cX8_ifLead 4 = .ok (.invokestatic 29, 3) := by decide +kernel
theorem dX8_ifLead_7 : decode cX8_ifLead 7 = .ok (.ifCond .eq 21, 3) := by decide +kernel
theorem dX8_ifLead_10 : decode cX8_ifLead 10 = .ok (.iload_n 2, 1) := by decide +kernel
theorem dX8_ifLead_11 : decode cX8_ifLead 11 = .ok (.iconst 0, 1) := by decide +kernel
theorem dX8_ifLead_12 : decode cX8_ifLead 12 = .ok (.iconst 2, 1) := by decide +kernel
theorem dX8_ifLead_13 : decode cX8_ifLead 13 = .ok (.invokestatic 29, 3) := by decide +kernel
theorem dX8_ifLead_16 : decode cX8_ifLead 16 = .ok (.ifCond .eq 12, 3) := by decide +kernel
theorem dX8_ifLead_19 : decode cX8_ifLead 19 = .ok (.aload_n 0, 1) := by decide +kernel
theorem dX8_ifLead_20 : decode cX8_ifLead 20 = .ok (.iload_n 1, 1) := by decide +kernel
theorem dX8_ifLead_21 : decode cX8_ifLead 21 = .ok (.iload_n 2, 1) := by decide +kernel
theorem dX8_ifLead_22 : decode cX8_ifLead 22 = .ok (.invokevirtual 171, 3) := by decide +kernel
theorem dX8_ifLead_25 : decode cX8_ifLead 25 = .ok (.goto 5, 3) := by decide +kernel
theorem dX8_ifLead_28 : decode cX8_ifLead 28 = .ok (.bipush (-2), 2) := by decide +kernel
theorem dX8_ifLead_30 : decode cX8_ifLead 30 = .ok (.ireturn, 1) := by decide +kernel
set_option maxRecDepth 20000 in
theorem ggX8_leastLead_X8_withLead : GoodIn wsX8_leastLead wsX8_withLead := goodIn_r _ [5, 6, 7, 8, 9, 10, 4, 11, 12, 13, 14, 15, 16, 17, 18, 19, 20, 21, 22, 23, 24, 25, 26, 27, 28, 29, 30, 31, 32, 33, 34, 35, 36, 37, 38, 39, 40, 41, 42, 43, 44, 45, 46, 47, 48, 49, 50, 51, 52, 53, 54, 55, 56, 57, 58, 59, 60, 61, 62, 63, 64, 65, 66, 67, 68, 69, 70, 71, 72, 73, 74, 75, 76, 77, 78, 79, 80, 81, 82, 83] (by decide +kernel) (by decide +kernel)
set_option maxRecDepth 20000 in
theorem gX8_leastLead_X8_withLead : GoodIn wsX8_leastLead (wsV RX8 171 RX8 yX8_withLead wsX8_withLead) := goodIn_app (goodIn_of _ (by decide +kernel)) ggX8_leastLead_X8_withLead
theorem dX8_leastLead_0 : decode cX8_leastLead 0 = .ok (.iconst 0, 1) := by decide +kernel
theorem dX8_leastLead_1 : decode cX8_leastLead 1 = .ok (.istore_n 1, 1) := by decide +kernel
theorem dX8_leastLead_2 : decode cX8_leastLead 2 = .ok (.iload_n 1, 1) := by decide +kernel
theorem dX8_leastLead_3 : decode cX8_leastLead 3 = .ok (.bipush 20, 2) := by decide +kernel
theorem dX8_leastLead_5 : decode cX8_leastLead 5 = .ok (.if_icmp .gt 20, 3) := by decide +kernel
theorem dX8_leastLead_8 : decode cX8_leastLead 8 = .ok (.aload_n 0, 1) := by decide +kernel
theorem dX8_leastLead_9 : decode cX8_leastLead 9 = .ok (.iload_n 1, 1) := by decide +kernel
theorem dX8_leastLead_10 : decode cX8_leastLead 10 = .ok (.iconst 2, 1) := by decide +kernel
theorem dX8_leastLead_11 : decode cX8_leastLead 11 = .ok (.invokevirtual 171, 3) := by decide +kernel
theorem dX8_leastLead_14 : decode cX8_leastLead 14 = .ok (.ifCond .ne 5, 3) := by decide +kernel
theorem dX8_leastLead_17 : decode cX8_leastLead 17 = .ok (.iload_n 1, 1) := by decide +kernel
theorem dX8_leastLead_18 : decode cX8_leastLead 18 = .ok (.ireturn, 1) := by decide +kernel
theorem dX8_leastLead_19 : decode cX8_leastLead 19 = .ok (.iinc 1 1, 3) := by decide +kernel
theorem dX8_leastLead_22 : decode cX8_leastLead 22 = .ok (.goto (-20), 3) := by decide +kernel
theorem dX8_leastLead_25 : decode cX8_leastLead 25 = .ok (.bipush (-5), 2) := by decide +kernel
theorem dX8_leastLead_27 : decode cX8_leastLead 27 = .ok (.ireturn, 1) := by decide +kernel
set_option maxRecDepth 20000 in
theorem ggX8_dearest_X8_putAside : GoodIn wsX8_dearest wsX8_putAside := goodIn_r _ [6, 7, 1, 68, 69, 70, 71, 72, 73, 74, 75, 76, 77, 78, 79] (by decide +kernel) (by decide +kernel)
set_option maxRecDepth 20000 in
theorem gX8_dearest_X8_putAside : GoodIn wsX8_dearest (wsV RX8 37 RX8 yX8_putAside wsX8_putAside) := goodIn_app (goodIn_of _ (by decide +kernel)) ggX8_dearest_X8_putAside
set_option maxRecDepth 20000 in
theorem ggX8_dearest_X8_settle : GoodIn wsX8_dearest wsX8_settle := goodIn_r _ [11, 1, 12, 13, 14, 5, 15, 16, 17, 18, 19, 20, 21, 22, 23, 24, 25, 26, 27, 28, 29, 30, 31, 32, 33, 34, 35, 36, 37, 38, 39, 40, 41, 42, 43, 44, 45, 46, 47, 48, 49, 50, 51, 52, 53, 54, 55, 56, 57, 58, 59, 60, 61, 62, 63, 68, 69, 70, 71, 72, 73, 74, 75, 76, 77, 78, 79] (by decide +kernel) (by decide +kernel)
set_option maxRecDepth 20000 in
theorem gX8_dearest_X8_settle : GoodIn wsX8_dearest (wsV RX8 121 RX8 yX8_settle wsX8_settle) := goodIn_app (goodIn_of _ (by decide +kernel)) ggX8_dearest_X8_settle
set_option maxRecDepth 20000 in
theorem ggX8_dearest_X8_takeBack : GoodIn wsX8_dearest wsX8_takeBack := goodIn_r _ [67, 1, 7, 68, 69, 70, 71, 72, 73, 74, 75, 76, 77, 78, 79] (by decide +kernel) (by decide +kernel)
set_option maxRecDepth 20000 in
theorem gX8_dearest_X8_takeBack : GoodIn wsX8_dearest (wsV RX8 124 RX8 yX8_takeBack wsX8_takeBack) := goodIn_app (goodIn_of _ (by decide +kernel)) ggX8_dearest_X8_takeBack
theorem dX8_dearest_0 : decode cX8_dearest 0 = .ok (.bipush (-5), 2) := by decide +kernel
theorem dX8_dearest_2 : decode cX8_dearest 2 = .ok (.istore_n 1, 1) := by decide +kernel
theorem dX8_dearest_3 : decode cX8_dearest 3 = .ok (.iconst 0, 1) := by decide +kernel
theorem dX8_dearest_4 : decode cX8_dearest 4 = .ok (.istore_n 2, 1) := by decide +kernel
theorem dX8_dearest_5 : decode cX8_dearest 5 = .ok (.iconst 0, 1) := by decide +kernel
theorem dX8_dearest_6 : decode cX8_dearest 6 = .ok (.istore_n 3, 1) := by decide +kernel
theorem dX8_dearest_7 : decode cX8_dearest 7 = .ok (.iload_n 3, 1) := by decide +kernel
theorem dX8_dearest_8 : decode cX8_dearest 8 = .ok (.iconst 3, 1) := by decide +kernel
theorem dX8_dearest_9 : decode cX8_dearest 9 = .ok (.aload_n 0, 1) := by decide +kernel
theorem dX8_dearest_10 : decode cX8_dearest 10 = .ok (.getfield 7, 3) := by decide +kernel
theorem dX8_dearest_13 : decode cX8_dearest 13 = .ok (.iconst 3, 1) := by decide +kernel
theorem dX8_dearest_14 : decode cX8_dearest 14 = .ok (.iaload, 1) := by decide +kernel
theorem dX8_dearest_15 : decode cX8_dearest 15 = .ok (.imul, 1) := by decide +kernel
theorem dX8_dearest_16 : decode cX8_dearest 16 = .ok (.iconst 3, 1) := by decide +kernel
theorem dX8_dearest_17 : decode cX8_dearest 17 = .ok (.iadd, 1) := by decide +kernel
theorem dX8_dearest_18 : decode cX8_dearest 18 = .ok (.if_icmp .ge 100, 3) := by decide +kernel
theorem dX8_dearest_21 : decode cX8_dearest 21 = .ok (.aload_n 0, 1) := by decide +kernel
theorem dX8_dearest_22 : decode cX8_dearest 22 = .ok (.getfield 7, 3) := by decide +kernel
theorem dX8_dearest_25 : decode cX8_dearest 25 = .ok (.bipush 13, 2) := by decide +kernel
theorem dX8_dearest_27 : decode cX8_dearest 27 = .ok (.iload_n 3, 1) := by decide +kernel
theorem dX8_dearest_28 : decode cX8_dearest 28 = .ok (.iadd, 1) := by decide +kernel
theorem dX8_dearest_29 : decode cX8_dearest 29 = .ok (.iaload, 1) := by decide +kernel
theorem dX8_dearest_30 : decode cX8_dearest 30 = .ok (.iconst 1, 1) := by decide +kernel
theorem dX8_dearest_31 : decode cX8_dearest 31 = .ok (.if_icmp .le 81, 3) := by decide +kernel
theorem dX8_dearest_34 : decode cX8_dearest 34 = .ok (.aload_n 0, 1) := by decide +kernel
theorem dX8_dearest_35 : decode cX8_dearest 35 = .ok (.invokevirtual 37, 3) := by decide +kernel
theorem dX8_dearest_38 : decode cX8_dearest 38 = .ok (.aload_n 0, 1) := by decide +kernel
theorem dX8_dearest_39 : decode cX8_dearest 39 = .ok (.getfield 7, 3) := by decide +kernel
theorem dX8_dearest_42 : decode cX8_dearest 42 = .ok (.bipush 13, 2) := by decide +kernel
theorem dX8_dearest_44 : decode cX8_dearest 44 = .ok (.iload_n 3, 1) := by decide +kernel
theorem dX8_dearest_45 : decode cX8_dearest 45 = .ok (.iadd, 1) := by decide +kernel
theorem dX8_dearest_46 : decode cX8_dearest 46 = .ok (.dup2, 1) := by decide +kernel
theorem dX8_dearest_47 : decode cX8_dearest 47 = .ok (.iaload, 1) := by decide +kernel
theorem dX8_dearest_48 : decode cX8_dearest 48 = .ok (.iconst 1, 1) := by decide +kernel
theorem dX8_dearest_49 : decode cX8_dearest 49 = .ok (.isub, 1) := by decide +kernel
theorem dX8_dearest_50 : decode cX8_dearest 50 = .ok (.iastore, 1) := by decide +kernel
theorem dX8_dearest_51 : decode cX8_dearest 51 = .ok (.aload_n 0, 1) := by decide +kernel
theorem dX8_dearest_52 : decode cX8_dearest 52 = .ok (.invokevirtual 121, 3) := by decide +kernel
theorem dX8_dearest_55 : decode cX8_dearest 55 = .ok (.istore 4, 2) := by decide +kernel
theorem dX8_dearest_57 : decode cX8_dearest 57 = .ok (.aload_n 0, 1) := by decide +kernel
theorem dX8_dearest_58 : decode cX8_dearest 58 = .ok (.invokevirtual 124, 3) := by decide +kernel
theorem dX8_dearest_61 : decode cX8_dearest 61 = .ok (.iload_n 1, 1) := by decide +kernel
theorem dX8_dearest_62 : decode cX8_dearest 62 = .ok (.bipush (-5), 2) := by decide +kernel
theorem dX8_dearest_64 : decode cX8_dearest 64 = .ok (.if_icmp .eq 9, 3) := by decide +kernel
theorem dX8_dearest_67 : decode cX8_dearest 67 = .ok (.iload 4, 2) := by decide +kernel
theorem dX8_dearest_69 : decode cX8_dearest 69 = .ok (.iload_n 2, 1) := by decide +kernel
theorem dX8_dearest_70 : decode cX8_dearest 70 = .ok (.if_icmp .ge 7, 3) := by decide +kernel
theorem dX8_dearest_73 : decode cX8_dearest 73 = .ok (.iconst 1, 1) := by decide +kernel
theorem dX8_dearest_74 : decode cX8_dearest 74 = .ok (.goto 4, 3) := by decide +kernel
theorem dX8_dearest_77 : decode cX8_dearest 77 = .ok (.iconst 0, 1) := by decide +kernel
theorem dX8_dearest_78 : decode cX8_dearest 78 = .ok (.istore 5, 2) := by decide +kernel
theorem dX8_dearest_80 : decode cX8_dearest 80 = .ok (.iload 5, 2) := by decide +kernel
theorem dX8_dearest_82 : decode cX8_dearest 82 = .ok (.ifCond .eq 16, 3) := by decide +kernel
theorem dX8_dearest_85 : decode cX8_dearest 85 = .ok (.bipush 10, 2) := by decide +kernel
theorem dX8_dearest_87 : decode cX8_dearest 87 = .ok (.iload_n 3, 1) := by decide +kernel
theorem dX8_dearest_88 : decode cX8_dearest 88 = .ok (.iconst 3, 1) := by decide +kernel
theorem dX8_dearest_89 : decode cX8_dearest 89 = .ok (.idiv, 1) := by decide +kernel
theorem dX8_dearest_90 : decode cX8_dearest 90 = .ok (.imul, 1) := by decide +kernel
theorem dX8_dearest_91 : decode cX8_dearest 91 = .ok (.iload_n 3, 1) := by decide +kernel
theorem dX8_dearest_92 : decode cX8_dearest 92 = .ok (.iconst 3, 1) := by decide +kernel
theorem dX8_dearest_93 : decode cX8_dearest 93 = .ok (.irem, 1) := by decide +kernel
theorem dX8_dearest_94 : decode cX8_dearest 94 = .ok (.iadd, 1) := by decide +kernel
theorem dX8_dearest_95 : decode cX8_dearest 95 = .ok (.goto 4, 3) := by decide +kernel
theorem dX8_dearest_98 : decode cX8_dearest 98 = .ok (.iload_n 1, 1) := by decide +kernel
theorem dX8_dearest_99 : decode cX8_dearest 99 = .ok (.istore_n 1, 1) := by decide +kernel
theorem dX8_dearest_100 : decode cX8_dearest 100 = .ok (.iload 5, 2) := by decide +kernel
theorem dX8_dearest_102 : decode cX8_dearest 102 = .ok (.ifCond .eq 8, 3) := by decide +kernel
theorem dX8_dearest_105 : decode cX8_dearest 105 = .ok (.iload 4, 2) := by decide +kernel
theorem dX8_dearest_107 : decode cX8_dearest 107 = .ok (.goto 4, 3) := by decide +kernel
theorem dX8_dearest_110 : decode cX8_dearest 110 = .ok (.iload_n 2, 1) := by decide +kernel
theorem dX8_dearest_111 : decode cX8_dearest 111 = .ok (.istore_n 2, 1) := by decide +kernel
theorem dX8_dearest_112 : decode cX8_dearest 112 = .ok (.iinc 3 1, 3) := by decide +kernel
theorem dX8_dearest_115 : decode cX8_dearest 115 = .ok (.goto (-108), 3) := by decide +kernel
theorem dX8_dearest_118 : decode cX8_dearest 118 = .ok (.iload_n 1, 1) := by decide +kernel
theorem dX8_dearest_119 : decode cX8_dearest 119 = .ok (.ireturn, 1) := by decide +kernel
