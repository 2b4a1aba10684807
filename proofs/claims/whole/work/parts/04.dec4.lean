theorem dX8_isSender_0 : decode cX8_isSender 0 = .ok (.iload_n 0, 1) := by decide +kernel
theorem dX8_isSender_1 : decode cX8_isSender 1 = .ok (.iconst 0, 1) := by decide +kernel
theorem dX8_isSender_2 : decode cX8_isSender 2 = .ok (.iconst 1, 1) := by decide +kernel
theorem dX8_isSender_3 : decode cX8_isSender 3 = .ok (.invokestatic 29, 3) := by decide +kernel
theorem dX8_isSender_6 : decode cX8_isSender 6 = .ok (.ireturn, 1) := by decide +kernel
theorem dX8_end_0 : decode cX8_end 0 = .ok (.aload_n 0, 1) := by decide +kernel
theorem dX8_end_1 : decode cX8_end 1 = .ok (.getfield 7, 3) := by decide +kernel
theorem dX8_end_4 : decode cX8_end 4 = .ok (.bipush 34, 2) := by decide +kernel
theorem dX8_end_6 : decode cX8_end 6 = .ok (.bipush 6, 2) := by decide +kernel
theorem dX8_end_8 : decode cX8_end 8 = .ok (.iload_n 1, 1) := by decide +kernel
theorem dX8_end_9 : decode cX8_end 9 = .ok (.imul, 1) := by decide +kernel
theorem dX8_end_10 : decode cX8_end 10 = .ok (.iadd, 1) := by decide +kernel
theorem dX8_end_11 : decode cX8_end 11 = .ok (.iload_n 2, 1) := by decide +kernel
theorem dX8_end_12 : decode cX8_end 12 = .ok (.iadd, 1) := by decide +kernel
theorem dX8_end_13 : decode cX8_end 13 = .ok (.iaload, 1) := by decide +kernel
theorem dX8_end_14 : decode cX8_end 14 = .ok (.ireturn, 1) := by decide +kernel
theorem dX8_setEnd_0 : decode cX8_setEnd 0 = .ok (.aload_n 0, 1) := by decide +kernel
theorem dX8_setEnd_1 : decode cX8_setEnd 1 = .ok (.getfield 7, 3) := by decide +kernel
theorem dX8_setEnd_4 : decode cX8_setEnd 4 = .ok (.bipush 34, 2) := by decide +kernel
theorem dX8_setEnd_6 : decode cX8_setEnd 6 = .ok (.bipush 6, 2) := by decide +kernel
theorem dX8_setEnd_8 : decode cX8_setEnd 8 = .ok (.iload_n 1, 1) := by decide +kernel
theorem dX8_setEnd_9 : decode cX8_setEnd 9 = .ok (.imul, 1) := by decide +kernel
theorem dX8_setEnd_10 : decode cX8_setEnd 10 = .ok (.iadd, 1) := by decide +kernel
theorem dX8_setEnd_11 : decode cX8_setEnd 11 = .ok (.iload_n 2, 1) := by decide +kernel
theorem dX8_setEnd_12 : decode cX8_setEnd 12 = .ok (.iadd, 1) := by decide +kernel
theorem dX8_setEnd_13 : decode cX8_setEnd 13 = .ok (.iload_n 3, 1) := by decide +kernel
theorem dX8_setEnd_14 : decode cX8_setEnd 14 = .ok (.iastore, 1) := by decide +kernel
theorem dX8_setEnd_15 : decode cX8_setEnd 15 = .ok (.return_, 1) := by decide +kernel
theorem dX8_clean_0 : decode cX8_clean 0 = .ok (.iconst 3, 1) := by decide +kernel
theorem dX8_clean_1 : decode cX8_clean 1 = .ok (.istore_n 2, 1) := by decide +kernel
theorem dX8_clean_2 : decode cX8_clean 2 = .ok (.iload_n 2, 1) := by decide +kernel
theorem dX8_clean_3 : decode cX8_clean 3 = .ok (.sipush 719, 3) := by decide +kernel
theorem dX8_clean_6 : decode cX8_clean 6 = .ok (.if_icmp .ge 16, 3) := by decide +kernel
theorem dX8_clean_9 : decode cX8_clean 9 = .ok (.aload_n 0, 1) := by decide +kernel
theorem dX8_clean_10 : decode cX8_clean 10 = .ok (.getfield 7, 3) := by decide +kernel
theorem dX8_clean_13 : decode cX8_clean 13 = .ok (.iload_n 2, 1) := by decide +kernel
theorem dX8_clean_14 : decode cX8_clean 14 = .ok (.iconst 0, 1) := by decide +kernel
theorem dX8_clean_15 : decode cX8_clean 15 = .ok (.iastore, 1) := by decide +kernel
theorem dX8_clean_16 : decode cX8_clean 16 = .ok (.iinc 2 1, 3) := by decide +kernel
theorem dX8_clean_19 : decode cX8_clean 19 = .ok (.goto (-17), 3) := by decide +kernel
theorem dX8_clean_22 : decode cX8_clean 22 = .ok (.aload_n 0, 1) := by decide +kernel
theorem dX8_clean_23 : decode cX8_clean 23 = .ok (.getfield 7, 3) := by decide +kernel
theorem dX8_clean_26 : decode cX8_clean 26 = .ok (.iconst 3, 1) := by decide +kernel
theorem dX8_clean_27 : decode cX8_clean 27 = .ok (.iload_n 1, 1) := by decide +kernel
theorem dX8_clean_28 : decode cX8_clean 28 = .ok (.iastore, 1) := by decide +kernel
theorem dX8_clean_29 : decode cX8_clean 29 = .ok (.aload_n 0, 1) := by decide +kernel
theorem dX8_clean_30 : decode cX8_clean 30 = .ok (.getfield 7, 3) := by decide +kernel
theorem dX8_clean_33 : decode cX8_clean 33 = .ok (.bipush 8, 2) := by decide +kernel
theorem dX8_clean_35 : decode cX8_clean 35 = .ok (.bipush (-5), 2) := by decide +kernel
theorem dX8_clean_37 : decode cX8_clean 37 = .ok (.iastore, 1) := by decide +kernel
theorem dX8_clean_38 : decode cX8_clean 38 = .ok (.iconst 0, 1) := by decide +kernel
theorem dX8_clean_39 : decode cX8_clean 39 = .ok (.istore_n 2, 1) := by decide +kernel
theorem dX8_clean_40 : decode cX8_clean 40 = .ok (.iload_n 2, 1) := by decide +kernel
theorem dX8_clean_41 : decode cX8_clean 41 = .ok (.bipush 6, 2) := by decide +kernel
theorem dX8_clean_43 : decode cX8_clean 43 = .ok (.if_icmp .gt 46, 3) := by decide +kernel
theorem dX8_clean_46 : decode cX8_clean 46 = .ok (.aload_n 0, 1) := by decide +kernel
theorem dX8_clean_47 : decode cX8_clean 47 = .ok (.getfield 7, 3) := by decide +kernel
theorem dX8_clean_50 : decode cX8_clean 50 = .ok (.bipush 76, 2) := by decide +kernel
theorem dX8_clean_52 : decode cX8_clean 52 = .ok (.iload_n 2, 1) := by decide +kernel
theorem dX8_clean_53 : decode cX8_clean 53 = .ok (.iadd, 1) := by decide +kernel
theorem dX8_clean_54 : decode cX8_clean 54 = .ok (.iconst 1, 1) := by decide +kernel
theorem dX8_clean_55 : decode cX8_clean 55 = .ok (.iastore, 1) := by decide +kernel
theorem dX8_clean_56 : decode cX8_clean 56 = .ok (.iconst 0, 1) := by decide +kernel
theorem dX8_clean_57 : decode cX8_clean 57 = .ok (.istore_n 3, 1) := by decide +kernel
theorem dX8_clean_58 : decode cX8_clean 58 = .ok (.iload_n 3, 1) := by decide +kernel
theorem dX8_clean_59 : decode cX8_clean 59 = .ok (.iconst 2, 1) := by decide +kernel
theorem dX8_clean_60 : decode cX8_clean 60 = .ok (.if_icmp .gt 23, 3) := by decide +kernel
theorem dX8_clean_63 : decode cX8_clean 63 = .ok (.aload_n 0, 1) := by decide +kernel
theorem dX8_clean_64 : decode cX8_clean 64 = .ok (.getfield 7, 3) := by decide +kernel
theorem dX8_clean_67 : decode cX8_clean 67 = .ok (.bipush 13, 2) := by decide +kernel
theorem dX8_clean_69 : decode cX8_clean 69 = .ok (.iconst 3, 1) := by decide +kernel
theorem dX8_clean_70 : decode cX8_clean 70 = .ok (.iload_n 2, 1) := by decide +kernel
theorem dX8_clean_71 : decode cX8_clean 71 = .ok (.imul, 1) := by decide +kernel
theorem dX8_clean_72 : decode cX8_clean 72 = .ok (.iadd, 1) := by decide +kernel
theorem dX8_clean_73 : decode cX8_clean 73 = .ok (.iload_n 3, 1) := by decide +kernel
theorem dX8_clean_74 : decode cX8_clean 74 = .ok (.iadd, 1) := by decide +kernel
theorem dX8_clean_75 : decode cX8_clean 75 = .ok (.iconst 2, 1) := by decide +kernel
theorem dX8_clean_76 : decode cX8_clean 76 = .ok (.iastore, 1) := by decide +kernel
theorem dX8_clean_77 : decode cX8_clean 77 = .ok (.iinc 3 1, 3) := by decide +kernel
theorem dX8_clean_80 : decode cX8_clean 80 = .ok (.goto (-22), 3) := by decide +kernel
theorem dX8_clean_83 : decode cX8_clean 83 = .ok (.iinc 2 1, 3) := by decide +kernel
theorem dX8_clean_86 : decode cX8_clean 86 = .ok (.goto (-46), 3) := by decide +kernel
theorem dX8_clean_89 : decode cX8_clean 89 = .ok (.return_, 1) := by decide +kernel
theorem dX8_putAside_0 : decode cX8_putAside 0 = .ok (.iconst 0, 1) := by decide +kernel
theorem dX8_putAside_1 : decode cX8_putAside 1 = .ok (.istore_n 1, 1) := by decide +kernel
theorem dX8_putAside_2 : decode cX8_putAside 2 = .ok (.iload_n 1, 1) := by decide +kernel
theorem dX8_putAside_3 : decode cX8_putAside 3 = .ok (.sipush 719, 3) := by decide +kernel
theorem dX8_putAside_6 : decode cX8_putAside 6 = .ok (.if_icmp .ge 21, 3) := by decide +kernel
theorem dX8_putAside_9 : decode cX8_putAside 9 = .ok (.aload_n 0, 1) := by decide +kernel
theorem dX8_putAside_10 : decode cX8_putAside 10 = .ok (.getfield 13, 3) := by decide +kernel
theorem dX8_putAside_13 : decode cX8_putAside 13 = .ok (.iload_n 1, 1) := by decide +kernel
theorem dX8_putAside_14 : decode cX8_putAside 14 = .ok (.aload_n 0, 1) := by decide +kernel
theorem dX8_putAside_15 : decode cX8_putAside 15 = .ok (.getfield 7, 3) := by decide +kernel
theorem dX8_putAside_18 : decode cX8_putAside 18 = .ok (.iload_n 1, 1) := by decide +kernel
theorem dX8_putAside_19 : decode cX8_putAside 19 = .ok (.iaload, 1) := by decide +kernel
theorem dX8_putAside_20 : decode cX8_putAside 20 = .ok (.iastore, 1) := by decide +kernel
theorem dX8_putAside_21 : decode cX8_putAside 21 = .ok (.iinc 1 1, 3) := by decide +kernel
theorem dX8_putAside_24 : decode cX8_putAside 24 = .ok (.goto (-22), 3) := by decide +kernel
theorem dX8_putAside_27 : decode cX8_putAside 27 = .ok (.return_, 1) := by decide +kernel
theorem dX8_takeBack_0 : decode cX8_takeBack 0 = .ok (.iconst 0, 1) := by decide +kernel
theorem dX8_takeBack_1 : decode cX8_takeBack 1 = .ok (.istore_n 1, 1) := by decide +kernel
theorem dX8_takeBack_2 : decode cX8_takeBack 2 = .ok (.iload_n 1, 1) := by decide +kernel
theorem dX8_takeBack_3 : decode cX8_takeBack 3 = .ok (.sipush 719, 3) := by decide +kernel
theorem dX8_takeBack_6 : decode cX8_takeBack 6 = .ok (.if_icmp .ge 21, 3) := by decide +kernel
theorem dX8_takeBack_9 : decode cX8_takeBack 9 = .ok (.aload_n 0, 1) := by decide +kernel
theorem dX8_takeBack_10 : decode cX8_takeBack 10 = .ok (.getfield 7, 3) := by decide +kernel
theorem dX8_takeBack_13 : decode cX8_takeBack 13 = .ok (.iload_n 1, 1) := by decide +kernel
theorem dX8_takeBack_14 : decode cX8_takeBack 14 = .ok (.aload_n 0, 1) := by decide +kernel
theorem dX8_takeBack_15 : decode cX8_takeBack 15 = .ok (.getfield 13, 3) := by decide +kernel
theorem dX8_takeBack_18 : decode cX8_takeBack 18 = .ok (.iload_n 1, 1) := by decide +kernel
theorem dX8_takeBack_19 : decode cX8_takeBack 19 = .ok (.iaload, 1) := by decide +kernel
theorem dX8_takeBack_20 : decode cX8_takeBack 20 = .ok (.iastore, 1) := by decide +kernel
theorem dX8_takeBack_21 : decode cX8_takeBack 21 = .ok (.iinc 1 1, 3) := by decide +kernel
theorem dX8_takeBack_24 : decode cX8_takeBack 24 = .ok (.goto (-22), 3) := by decide +kernel
theorem dX8_takeBack_27 : decode cX8_takeBack 27 = .ok (.return_, 1) := by decide +kernel
theorem dX8_push_0 : decode cX8_push 0 = .ok (.aload_n 0, 1) := by decide +kernel
theorem dX8_push_1 : decode cX8_push 1 = .ok (.getfield 33, 3) := by decide +kernel
theorem dX8_push_4 : decode cX8_push 4 = .ok (.iconst 4, 1) := by decide +kernel
theorem dX8_push_5 : decode cX8_push 5 = .ok (.if_icmp .ne 44, 3) := by decide +kernel
theorem dX8_push_8 : decode cX8_push 8 = .ok (.iconst 0, 1) := by decide +kernel
theorem dX8_push_9 : decode cX8_push 9 = .ok (.istore_n 1, 1) := by decide +kernel
theorem dX8_push_10 : decode cX8_push 10 = .ok (.iload_n 1, 1) := by decide +kernel
theorem dX8_push_11 : decode cX8_push 11 = .ok (.sipush 2157, 3) := by decide +kernel
theorem dX8_push_14 : decode cX8_push 14 = .ok (.if_icmp .ge 25, 3) := by decide +kernel
theorem dX8_push_17 : decode cX8_push 17 = .ok (.aload_n 0, 1) := by decide +kernel
theorem dX8_push_18 : decode cX8_push 18 = .ok (.getfield 16, 3) := by decide +kernel
theorem dX8_push_21 : decode cX8_push 21 = .ok (.iload_n 1, 1) := by decide +kernel
theorem dX8_push_22 : decode cX8_push 22 = .ok (.aload_n 0, 1) := by decide +kernel
theorem dX8_push_23 : decode cX8_push 23 = .ok (.getfield 16, 3) := by decide +kernel
theorem dX8_push_26 : decode cX8_push 26 = .ok (.iload_n 1, 1) := by decide +kernel
theorem dX8_push_27 : decode cX8_push 27 = .ok (.sipush 719, 3) := by decide +kernel
theorem dX8_push_30 : decode cX8_push 30 = .ok (.iadd, 1) := by decide +kernel
theorem dX8_push_31 : decode cX8_push 31 = .ok (.iaload, 1) := by decide +kernel
theorem dX8_push_32 : decode cX8_push 32 = .ok (.iastore, 1) := by decide +kernel
theorem dX8_push_33 : decode cX8_push 33 = .ok (.iinc 1 1, 3) := by decide +kernel
theorem dX8_push_36 : decode cX8_push 36 = .ok (.goto (-26), 3) := by decide +kernel
theorem dX8_push_39 : decode cX8_push 39 = .ok (.aload_n 0, 1) := by decide +kernel
theorem dX8_push_40 : decode cX8_push 40 = .ok (.dup, 1) := by decide +kernel
theorem dX8_push_41 : decode cX8_push 41 = .ok (.getfield 33, 3) := by decide +kernel
theorem dX8_push_44 : decode cX8_push 44 = .ok (.iconst 1, 1) := by decide +kernel
theorem dX8_push_45 : decode cX8_push 45 = .ok (.isub, 1) := by decide +kernel
theorem dX8_push_46 : decode cX8_push 46 = .ok (.putfield 33, 3) := by decide +kernel
theorem dX8_push_49 : decode cX8_push 49 = .ok (.iconst 0, 1) := by decide +kernel
theorem dX8_push_50 : decode cX8_push 50 = .ok (.istore_n 1, 1) := by decide +kernel
theorem dX8_push_51 : decode cX8_push 51 = .ok (.iload_n 1, 1) := by decide +kernel
theorem dX8_push_52 : decode cX8_push 52 = .ok (.sipush 719, 3) := by decide +kernel
theorem dX8_push_55 : decode cX8_push 55 = .ok (.if_icmp .ge 30, 3) := by decide +kernel
theorem dX8_push_58 : decode cX8_push 58 = .ok (.aload_n 0, 1) := by decide +kernel
theorem dX8_push_59 : decode cX8_push 59 = .ok (.getfield 16, 3) := by decide +kernel
theorem dX8_push_62 : decode cX8_push 62 = .ok (.aload_n 0, 1) := by decide +kernel
theorem dX8_push_63 : decode cX8_push 63 = .ok (.getfield 33, 3) := by decide +kernel
theorem dX8_push_66 : decode cX8_push 66 = .ok (.sipush 719, 3) := by decide +kernel
theorem dX8_push_69 : decode cX8_push 69 = .ok (.imul, 1) := by decide +kernel
theorem dX8_push_70 : decode cX8_push 70 = .ok (.iload_n 1, 1) := by decide +kernel
theorem dX8_push_71 : decode cX8_push 71 = .ok (.iadd, 1) := by decide +kernel
theorem dX8_push_72 : decode cX8_push 72 = .ok (.aload_n 0, 1) := by decide +kernel
theorem dX8_push_73 : decode cX8_push 73 = .ok (.getfield 13, 3) := by decide +kernel
theorem dX8_push_76 : decode cX8_push 76 = .ok (.iload_n 1, 1) := by decide +kernel
theorem dX8_push_77 : decode cX8_push 77 = .ok (.iaload, 1) := by decide +kernel
theorem dX8_push_78 : decode cX8_push 78 = .ok (.iastore, 1) := by decide +kernel
theorem dX8_push_79 : decode cX8_push 79 = .ok (.iinc 1 1, 3) := by decide +kernel
theorem dX8_push_82 : decode cX8_push 82 = .ok (.goto (-31), 3) := by decide +kernel
theorem dX8_push_85 : decode cX8_push 85 = .ok (.aload_n 0, 1) := by decide +kernel
theorem dX8_push_86 : decode cX8_push 86 = .ok (.dup, 1) := by decide +kernel
theorem dX8_push_87 : decode cX8_push 87 = .ok (.getfield 33, 3) := by decide +kernel
theorem dX8_push_90 : decode cX8_push 90 = .ok (.iconst 1, 1) := by decide +kernel
theorem dX8_push_91 : decode cX8_push 91 = .ok (.iadd, 1) := by decide +kernel
theorem dX8_push_92 : decode cX8_push 92 = .ok (.putfield 33, 3) := by decide +kernel
theorem dX8_push_95 : decode cX8_push 95 = .ok (.return_, 1) := by decide +kernel
set_option maxRecDepth 20000 in
theorem ggX8_record_X8_putAside : GoodIn wsX8_record wsX8_putAside := goodIn_r _ [5, 6, 7, 14, 15, 16, 17, 18, 19, 20, 21, 22, 23, 24, 25] (by decide +kernel) (by decide +kernel)
set_option maxRecDepth 20000 in
theorem gX8_record_X8_putAside : GoodIn wsX8_record (wsV RX8 37 RX8 yX8_putAside wsX8_putAside) := goodIn_app (goodIn_of _ (by decide +kernel)) ggX8_record_X8_putAside
set_option maxRecDepth 20000 in
theorem ggX8_record_X8_push : GoodIn wsX8_record wsX8_push := goodIn_r _ [11, 12, 13, 6, 14, 15, 16, 17, 18, 19, 20, 21, 22, 23, 24, 25] (by decide +kernel) (by decide +kernel)
set_option maxRecDepth 20000 in
theorem gX8_record_X8_push : GoodIn wsX8_record (wsV RX8 40 RX8 yX8_push wsX8_push) := goodIn_app (goodIn_of _ (by decide +kernel)) ggX8_record_X8_push
theorem dX8_record_0 : decode cX8_record 0 = .ok (.aload_n 0, 1) := by decide +kernel
theorem dX8_record_1 : decode cX8_record 1 = .ok (.invokevirtual 37, 3) := by decide +kernel
theorem dX8_record_4 : decode cX8_record 4 = .ok (.aload_n 0, 1) := by decide +kernel
theorem dX8_record_5 : decode cX8_record 5 = .ok (.invokevirtual 40, 3) := by decide +kernel
theorem dX8_record_8 : decode cX8_record 8 = .ok (.return_, 1) := by decide +kernel
theorem dX8_undo_0 : decode cX8_undo 0 = .ok (.aload_n 0, 1) := by decide +kernel
theorem dX8_undo_1 : decode cX8_undo 1 = .ok (.getfield 33, 3) := by decide +kernel
theorem dX8_undo_4 : decode cX8_undo 4 = .ok (.ifCond .ne 6, 3) := by decide +kernel
theorem dX8_undo_7 : decode cX8_undo 7 = .ok (.bipush (-5), 2) := by decide +kernel
theorem dX8_undo_9 : decode cX8_undo 9 = .ok (.ireturn, 1) := by decide +kernel
theorem dX8_undo_10 : decode cX8_undo 10 = .ok (.aload_n 0, 1) := by decide +kernel
theorem dX8_undo_11 : decode cX8_undo 11 = .ok (.dup, 1) := by decide +kernel
theorem dX8_undo_12 : decode cX8_undo 12 = .ok (.getfield 33, 3) := by decide +kernel
theorem dX8_undo_15 : decode cX8_undo 15 = .ok (.iconst 1, 1) := by decide +kernel
theorem dX8_undo_16 : decode cX8_undo 16 = .ok (.isub, 1) := by decide +kernel
theorem dX8_undo_17 : decode cX8_undo 17 = .ok (.putfield 33, 3) := by decide +kernel
theorem dX8_undo_20 : decode cX8_undo 20 = .ok (.iconst 0, 1) := by decide +kernel
theorem dX8_undo_21 : decode cX8_undo 21 = .ok (.istore_n 1, 1) := by decide +kernel
theorem dX8_undo_22 : decode cX8_undo 22 = .ok (.iload_n 1, 1) := by decide +kernel
theorem dX8_undo_23 : decode cX8_undo 23 = .ok (.sipush 719, 3) := by decide +kernel
theorem dX8_undo_26 : decode cX8_undo 26 = .ok (.if_icmp .ge 30, 3) := by decide +kernel
theorem dX8_undo_29 : decode cX8_undo 29 = .ok (.aload_n 0, 1) := by decide +kernel
theorem dX8_undo_30 : decode cX8_undo 30 = .ok (.getfield 7, 3) := by decide +kernel
theorem dX8_undo_33 : decode cX8_undo 33 = .ok (.iload_n 1, 1) := by decide +kernel
theorem dX8_undo_34 : decode cX8_undo 34 = .ok (.aload_n 0, 1) := by decide +kernel
theorem dX8_undo_35 : decode cX8_undo 35 = .ok (.getfield 16, 3) := by decide +kernel
theorem dX8_undo_38 : decode cX8_undo 38 = .ok (.aload_n 0, 1) := by decide +kernel
theorem dX8_undo_39 : decode cX8_undo 39 = .ok (.getfield 33, 3) := by decide +kernel
theorem dX8_undo_42 : decode cX8_undo 42 = .ok (.sipush 719, 3) := by decide +kernel
theorem dX8_undo_45 : decode cX8_undo 45 = .ok (.imul, 1) := by decide +kernel
theorem dX8_undo_46 : decode cX8_undo 46 = .ok (.iload_n 1, 1) := by decide +kernel
theorem dX8_undo_47 : decode cX8_undo 47 = .ok (.iadd, 1) := by decide +kernel
theorem dX8_undo_48 : decode cX8_undo 48 = .ok (.iaload, 1) := by decide +kernel
theorem dX8_undo_49 : decode cX8_undo 49 = .ok (.iastore, 1) := by decide +kernel
theorem dX8_undo_50 : decode cX8_undo 50 = .ok (.iinc 1 1, 3) := by decide +kernel
theorem dX8_undo_53 : decode cX8_undo 53 = .ok (.goto (-31), 3) := by decide +kernel
theorem dX8_undo_56 : decode cX8_undo 56 = .ok (.aload_n 0, 1) := by decide +kernel
theorem dX8_undo_57 : decode cX8_undo 57 = .ok (.getfield 33, 3) := by decide +kernel
theorem dX8_undo_60 : decode cX8_undo 60 = .ok (.ireturn, 1) := by decide +kernel
theorem dX8_keep_0 : decode cX8_keep 0 = .ok (.iconst 0, 1) := by decide +kernel
theorem dX8_keep_1 : decode cX8_keep 1 = .ok (.istore_n 1, 1) := by decide +kernel
theorem dX8_keep_2 : decode cX8_keep 2 = .ok (.iload_n 1, 1) := by decide +kernel
theorem dX8_keep_3 : decode cX8_keep 3 = .ok (.sipush 719, 3) := by decide +kernel
theorem dX8_keep_6 : decode cX8_keep 6 = .ok (.if_icmp .ge 21, 3) := by decide +kernel
theorem dX8_keep_9 : decode cX8_keep 9 = .ok (.aload_n 0, 1) := by decide +kernel
theorem dX8_keep_10 : decode cX8_keep 10 = .ok (.getfield 19, 3) := by decide +kernel
theorem dX8_keep_13 : decode cX8_keep 13 = .ok (.iload_n 1, 1) := by decide +kernel
theorem dX8_keep_14 : decode cX8_keep 14 = .ok (.aload_n 0, 1) := by decide +kernel
theorem dX8_keep_15 : decode cX8_keep 15 = .ok (.getfield 7, 3) := by decide +kernel
theorem dX8_keep_18 : decode cX8_keep 18 = .ok (.iload_n 1, 1) := by decide +kernel
theorem dX8_keep_19 : decode cX8_keep 19 = .ok (.iaload, 1) := by decide +kernel
theorem dX8_keep_20 : decode cX8_keep 20 = .ok (.iastore, 1) := by decide +kernel
theorem dX8_keep_21 : decode cX8_keep 21 = .ok (.iinc 1 1, 3) := by decide +kernel
theorem dX8_keep_24 : decode cX8_keep 24 = .ok (.goto (-22), 3) := by decide +kernel
theorem dX8_keep_27 : decode cX8_keep 27 = .ok (.aload_n 0, 1) := by decide +kernel
theorem dX8_keep_28 : decode cX8_keep 28 = .ok (.iconst 1, 1) := by decide +kernel
theorem dX8_keep_29 : decode cX8_keep 29 = .ok (.putfield 43, 3) := by decide +kernel
theorem dX8_keep_32 : decode cX8_keep 32 = .ok (.aload_n 0, 1) := by decide +kernel
theorem dX8_keep_33 : decode cX8_keep 33 = .ok (.getfield 7, 3) := by decide +kernel
theorem dX8_keep_36 : decode cX8_keep 36 = .ok (.iconst 4, 1) := by decide +kernel
theorem dX8_keep_37 : decode cX8_keep 37 = .ok (.iaload, 1) := by decide +kernel
theorem dX8_keep_38 : decode cX8_keep 38 = .ok (.ireturn, 1) := by decide +kernel
set_option maxRecDepth 20000 in
theorem ggX8_restore_X8_record : GoodIn wsX8_restore wsX8_record := goodIn_r _ [8, 9, 10, 11, 7, 12, 13, 2, 14, 15, 16, 17, 18, 19, 20, 21, 22, 23, 24, 25, 26, 27, 28, 29, 30, 31] (by decide +kernel) (by decide +kernel)
set_option maxRecDepth 20000 in
theorem gX8_restore_X8_record : GoodIn wsX8_restore (wsV RX8 47 RX8 yX8_record wsX8_record) := goodIn_app (goodIn_of _ (by decide +kernel)) ggX8_restore_X8_record
theorem dX8_restore_0 : decode cX8_restore 0 = .ok (.aload_n 0, 1) := by decide +kernel
theorem dX8_restore_1 : decode cX8_restore 1 = .ok (.getfield 43, 3) := by decide +kernel
theorem dX8_restore_4 : decode cX8_restore 4 = .ok (.ifCond .ne 6, 3) := by decide +kernel
theorem dX8_restore_7 : decode cX8_restore 7 = .ok (.bipush (-5), 2) := by decide +kernel
theorem dX8_restore_9 : decode cX8_restore 9 = .ok (.ireturn, 1) := by decide +kernel
theorem dX8_restore_10 : decode cX8_restore 10 = .ok (.aload_n 0, 1) := by decide +kernel
theorem dX8_restore_11 : decode cX8_restore 11 = .ok (.invokevirtual 47, 3) := by decide +kernel
theorem dX8_restore_14 : decode cX8_restore 14 = .ok (.iconst 0, 1) := by decide +kernel
theorem dX8_restore_15 : decode cX8_restore 15 = .ok (.istore_n 1, 1) := by decide +kernel
theorem dX8_restore_16 : decode cX8_restore 16 = .ok (.iload_n 1, 1) := by decide +kernel
theorem dX8_restore_17 : decode cX8_restore 17 = .ok (.sipush 719, 3) := by decide +kernel
theorem dX8_restore_20 : decode cX8_restore 20 = .ok (.if_icmp .ge 21, 3) := by decide +kernel
theorem dX8_restore_23 : decode cX8_restore 23 = .ok (.aload_n 0, 1) := by decide +kernel
theorem dX8_restore_24 : decode cX8_restore 24 = .ok (.getfield 7, 3) := by decide +kernel
theorem dX8_restore_27 : decode cX8_restore 27 = .ok (.iload_n 1, 1) := by decide +kernel
theorem dX8_restore_28 : decode cX8_restore 28 = .ok (.aload_n 0, 1) := by decide +kernel
theorem dX8_restore_29 : decode cX8_restore 29 = .ok (.getfield 19, 3) := by decide +kernel
theorem dX8_restore_32 : decode cX8_restore 32 = .ok (.iload_n 1, 1) := by decide +kernel
theorem dX8_restore_33 : decode cX8_restore 33 = .ok (.iaload, 1) := by decide +kernel
theorem dX8_restore_34 : decode cX8_restore 34 = .ok (.iastore, 1) := by decide +kernel
theorem dX8_restore_35 : decode cX8_restore 35 = .ok (.iinc 1 1, 3) := by decide +kernel
theorem dX8_restore_38 : decode cX8_restore 38 = .ok (.goto (-22), 3) := by decide +kernel
theorem dX8_restore_41 : decode cX8_restore 41 = .ok (.aload_n 0, 1) := by decide +kernel
theorem dX8_restore_42 : decode cX8_restore 42 = .ok (.getfield 7, 3) := by decide +kernel
theorem dX8_restore_45 : decode cX8_restore 45 = .ok (.iconst 4, 1) := by decide +kernel
theorem dX8_restore_46 : decode cX8_restore 46 = .ok (.iaload, 1) := by decide +kernel
theorem dX8_restore_47 : decode cX8_restore 47 = .ok (.ireturn, 1) := by decide +kernel
theorem dX8_make_0 : decode cX8_make 0 = .ok (.sipush 319, 3) := by decide +kernel
theorem dX8_make_3 : decode cX8_make 3 = .ok (.iconst 4, 1) := by decide +kernel
theorem dX8_make_4 : decode cX8_make 4 = .ok (.aload_n 0, 1) := by decide +kernel
theorem dX8_make_5 : decode cX8_make 5 = .ok (.getfield 7, 3) := by decide +kernel
theorem dX8_make_8 : decode cX8_make 8 = .ok (.bipush 10, 2) := by decide +kernel
theorem dX8_make_10 : decode cX8_make 10 = .ok (.iaload, 1) := by decide +kernel
theorem dX8_make_11 : decode cX8_make 11 = .ok (.imul, 1) := by decide +kernel
theorem dX8_make_12 : decode cX8_make 12 = .ok (.iadd, 1) := by decide +kernel
theorem dX8_make_13 : decode cX8_make 13 = .ok (.istore 5, 2) := by decide +kernel
theorem dX8_make_15 : decode cX8_make 15 = .ok (.aload_n 0, 1) := by decide +kernel
theorem dX8_make_16 : decode cX8_make 16 = .ok (.getfield 7, 3) := by decide +kernel
theorem dX8_make_19 : decode cX8_make 19 = .ok (.iload 5, 2) := by decide +kernel
theorem dX8_make_21 : decode cX8_make 21 = .ok (.iconst 0, 1) := by decide +kernel
theorem dX8_make_22 : decode cX8_make 22 = .ok (.iadd, 1) := by decide +kernel
theorem dX8_make_23 : decode cX8_make 23 = .ok (.aload_n 0, 1) := by decide +kernel
theorem dX8_make_24 : decode cX8_make 24 = .ok (.getfield 7, 3) := by decide +kernel
theorem dX8_make_27 : decode cX8_make 27 = .ok (.iconst 4, 1) := by decide +kernel
theorem dX8_make_28 : decode cX8_make 28 = .ok (.iaload, 1) := by decide +kernel
theorem dX8_make_29 : decode cX8_make 29 = .ok (.aload_n 0, 1) := by decide +kernel
theorem dX8_make_30 : decode cX8_make 30 = .ok (.getfield 7, 3) := by decide +kernel
theorem dX8_make_33 : decode cX8_make 33 = .ok (.bipush 13, 2) := by decide +kernel
theorem dX8_make_35 : decode cX8_make 35 = .ok (.iconst 3, 1) := by decide +kernel
theorem dX8_make_36 : decode cX8_make 36 = .ok (.iload_n 1, 1) := by decide +kernel
theorem dX8_make_37 : decode cX8_make 37 = .ok (.imul, 1) := by decide +kernel
theorem dX8_make_38 : decode cX8_make 38 = .ok (.iadd, 1) := by decide +kernel
theorem dX8_make_39 : decode cX8_make 39 = .ok (.iload_n 2, 1) := by decide +kernel
theorem dX8_make_40 : decode cX8_make 40 = .ok (.iadd, 1) := by decide +kernel
theorem dX8_make_41 : decode cX8_make 41 = .ok (.iaload, 1) := by decide +kernel
theorem dX8_make_42 : decode cX8_make 42 = .ok (.iadd, 1) := by decide +kernel
theorem dX8_make_43 : decode cX8_make 43 = .ok (.iload 4, 2) := by decide +kernel
theorem dX8_make_45 : decode cX8_make 45 = .ok (.iadd, 1) := by decide +kernel
theorem dX8_make_46 : decode cX8_make 46 = .ok (.iastore, 1) := by decide +kernel
theorem dX8_make_47 : decode cX8_make 47 = .ok (.aload_n 0, 1) := by decide +kernel
theorem dX8_make_48 : decode cX8_make 48 = .ok (.getfield 7, 3) := by decide +kernel
theorem dX8_make_51 : decode cX8_make 51 = .ok (.iload 5, 2) := by decide +kernel
theorem dX8_make_53 : decode cX8_make 53 = .ok (.iconst 1, 1) := by decide +kernel
theorem dX8_make_54 : decode cX8_make 54 = .ok (.iadd, 1) := by decide +kernel
theorem dX8_make_55 : decode cX8_make 55 = .ok (.iload_n 1, 1) := by decide +kernel
theorem dX8_make_56 : decode cX8_make 56 = .ok (.iastore, 1) := by decide +kernel
theorem dX8_make_57 : decode cX8_make 57 = .ok (.aload_n 0, 1) := by decide +kernel
theorem dX8_make_58 : decode cX8_make 58 = .ok (.getfield 7, 3) := by decide +kernel
theorem dX8_make_61 : decode cX8_make 61 = .ok (.iload 5, 2) := by decide +kernel
theorem dX8_make_63 : decode cX8_make 63 = .ok (.iconst 2, 1) := by decide +kernel
theorem dX8_make_64 : decode cX8_make 64 = .ok (.iadd, 1) := by decide +kernel
theorem dX8_make_65 : decode cX8_make 65 = .ok (.iload_n 2, 1) := by decide +kernel
theorem dX8_make_66 : decode cX8_make 66 = .ok (.iastore, 1) := by decide +kernel
theorem dX8_make_67 : decode cX8_make 67 = .ok (.aload_n 0, 1) := by decide +kernel
theorem dX8_make_68 : decode cX8_make 68 = .ok (.getfield 7, 3) := by decide +kernel
theorem dX8_make_71 : decode cX8_make 71 = .ok (.iload 5, 2) := by decide +kernel
theorem dX8_make_73 : decode cX8_make 73 = .ok (.iconst 3, 1) := by decide +kernel
theorem dX8_make_74 : decode cX8_make 74 = .ok (.iadd, 1) := by decide +kernel
theorem dX8_make_75 : decode cX8_make 75 = .ok (.iload_n 3, 1) := by decide +kernel
theorem dX8_make_76 : decode cX8_make 76 = .ok (.iastore, 1) := by decide +kernel
theorem dX8_make_77 : decode cX8_make 77 = .ok (.aload_n 0, 1) := by decide +kernel
theorem dX8_make_78 : decode cX8_make 78 = .ok (.getfield 7, 3) := by decide +kernel
theorem dX8_make_81 : decode cX8_make 81 = .ok (.bipush 10, 2) := by decide +kernel
theorem dX8_make_83 : decode cX8_make 83 = .ok (.dup2, 1) := by decide +kernel
theorem dX8_make_84 : decode cX8_make 84 = .ok (.iaload, 1) := by decide +kernel
theorem dX8_make_85 : decode cX8_make 85 = .ok (.iconst 1, 1) := by decide +kernel
theorem dX8_make_86 : decode cX8_make 86 = .ok (.iadd, 1) := by decide +kernel
theorem dX8_make_87 : decode cX8_make 87 = .ok (.iastore, 1) := by decide +kernel
theorem dX8_make_88 : decode cX8_make 88 = .ok (.return_, 1) := by decide +kernel
set_option maxRecDepth 20000 in
theorem ggX8_offer_X8_setEnd : GoodIn wsX8_offer wsX8_setEnd := goodIn_r _ [6, 1, 11, 12, 13, 14, 15, 16, 17, 18, 19, 20, 21, 22] (by decide +kernel) (by decide +kernel)
set_option maxRecDepth 20000 in
theorem gX8_offer_X8_setEnd : GoodIn wsX8_offer (wsV RX8 50 RX8 yX8_setEnd wsX8_setEnd) := goodIn_app (goodIn_of _ (by decide +kernel)) ggX8_offer_X8_setEnd
set_option maxRecDepth 20000 in
theorem ggX8_offer_X8_make : GoodIn wsX8_offer wsX8_make := goodIn_r _ [10, 1, 11, 12, 13, 14, 15, 16, 17, 18, 19, 20, 21, 22] (by decide +kernel) (by decide +kernel)
set_option maxRecDepth 20000 in
theorem gX8_offer_X8_make : GoodIn wsX8_offer (wsV RX8 54 RX8 yX8_make wsX8_make) := goodIn_app (goodIn_of _ (by decide +kernel)) ggX8_offer_X8_make
theorem dX8_offer_0 : decode cX8_offer 0 = .ok (.aload_n 0, 1) := by decide +kernel
theorem dX8_offer_1 : decode cX8_offer 1 = .ok (.iload_n 1, 1) := by decide +kernel
theorem dX8_offer_2 : decode cX8_offer 2 = .ok (.iconst 4, 1) := by decide +kernel
theorem dX8_offer_3 : decode cX8_offer 3 = .ok (.iload_n 2, 1) := by decide +kernel
theorem dX8_offer_4 : decode cX8_offer 4 = .ok (.invokevirtual 50, 3) := by decide +kernel
theorem dX8_offer_7 : decode cX8_offer 7 = .ok (.aload_n 0, 1) := by decide +kernel
theorem dX8_offer_8 : decode cX8_offer 8 = .ok (.iload_n 1, 1) := by decide +kernel
theorem dX8_offer_9 : decode cX8_offer 9 = .ok (.iconst 2, 1) := by decide +kernel
theorem dX8_offer_10 : decode cX8_offer 10 = .ok (.iload_n 2, 1) := by decide +kernel
theorem dX8_offer_11 : decode cX8_offer 11 = .ok (.iconst 0, 1) := by decide +kernel
theorem dX8_offer_12 : decode cX8_offer 12 = .ok (.invokevirtual 54, 3) := by decide +kernel
theorem dX8_offer_15 : decode cX8_offer 15 = .ok (.aload_n 0, 1) := by decide +kernel
theorem dX8_offer_16 : decode cX8_offer 16 = .ok (.iload_n 1, 1) := by decide +kernel
theorem dX8_offer_17 : decode cX8_offer 17 = .ok (.iconst 0, 1) := by decide +kernel
theorem dX8_offer_18 : decode cX8_offer 18 = .ok (.iconst 1, 1) := by decide +kernel
theorem dX8_offer_19 : decode cX8_offer 19 = .ok (.invokevirtual 50, 3) := by decide +kernel
theorem dX8_offer_22 : decode cX8_offer 22 = .ok (.aload_n 0, 1) := by decide +kernel
theorem dX8_offer_23 : decode cX8_offer 23 = .ok (.iload_n 1, 1) := by decide +kernel
theorem dX8_offer_24 : decode cX8_offer 24 = .ok (.iconst 0, 1) := by decide +kernel
theorem dX8_offer_25 : decode cX8_offer 25 = .ok (.iconst 1, 1) := by decide +kernel
theorem dX8_offer_26 : decode cX8_offer 26 = .ok (.aload_n 0, 1) := by decide +kernel
theorem dX8_offer_27 : decode cX8_offer 27 = .ok (.getfield 7, 3) := by decide +kernel
theorem dX8_offer_30 : decode cX8_offer 30 = .ok (.iconst 0, 1) := by decide +kernel
theorem dX8_offer_31 : decode cX8_offer 31 = .ok (.iaload, 1) := by decide +kernel
theorem dX8_offer_32 : decode cX8_offer 32 = .ok (.invokevirtual 54, 3) := by decide +kernel
theorem dX8_offer_35 : decode cX8_offer 35 = .ok (.aload_n 0, 1) := by decide +kernel
theorem dX8_offer_36 : decode cX8_offer 36 = .ok (.getfield 7, 3) := by decide +kernel
theorem dX8_offer_39 : decode cX8_offer 39 = .ok (.bipush 76, 2) := by decide +kernel
theorem dX8_offer_41 : decode cX8_offer 41 = .ok (.iload_n 1, 1) := by decide +kernel
theorem dX8_offer_42 : decode cX8_offer 42 = .ok (.iadd, 1) := by decide +kernel
theorem dX8_offer_43 : decode cX8_offer 43 = .ok (.iconst 0, 1) := by decide +kernel
theorem dX8_offer_44 : decode cX8_offer 44 = .ok (.iastore, 1) := by decide +kernel
theorem dX8_offer_45 : decode cX8_offer 45 = .ok (.aload_n 0, 1) := by decide +kernel
theorem dX8_offer_46 : decode cX8_offer 46 = .ok (.getfield 7, 3) := by decide +kernel
theorem dX8_offer_49 : decode cX8_offer 49 = .ok (.bipush 90, 2) := by decide +kernel
theorem dX8_offer_51 : decode cX8_offer 51 = .ok (.iload_n 1, 1) := by decide +kernel
theorem dX8_offer_52 : decode cX8_offer 52 = .ok (.iadd, 1) := by decide +kernel
theorem dX8_offer_53 : decode cX8_offer 53 = .ok (.dup2, 1) := by decide +kernel
theorem dX8_offer_54 : decode cX8_offer 54 = .ok (.iaload, 1) := by decide +kernel
theorem dX8_offer_55 : decode cX8_offer 55 = .ok (.iconst 1, 1) := by decide +kernel
theorem dX8_offer_56 : decode cX8_offer 56 = .ok (.iadd, 1) := by decide +kernel
theorem dX8_offer_57 : decode cX8_offer 57 = .ok (.iastore, 1) := by decide +kernel
theorem dX8_offer_58 : decode cX8_offer 58 = .ok (.return_, 1) := by decide +kernel
set_option maxRecDepth 20000 in
theorem ggX8_answer_X8_setEnd : GoodIn wsX8_answer wsX8_setEnd := goodIn_r _ [5, 6, 11, 12, 13, 14, 15, 16, 17, 18, 19, 20, 21, 22] (by decide +kernel) (by decide +kernel)
set_option maxRecDepth 20000 in
theorem gX8_answer_X8_setEnd : GoodIn wsX8_answer (wsV RX8 50 RX8 yX8_setEnd wsX8_setEnd) := goodIn_app (goodIn_of _ (by decide +kernel)) ggX8_answer_X8_setEnd
set_option maxRecDepth 20000 in
theorem ggX8_answer_X8_make : GoodIn wsX8_answer wsX8_make := goodIn_r _ [10, 6, 11, 12, 13, 14, 15, 16, 17, 18, 19, 20, 21, 22] (by decide +kernel) (by decide +kernel)
set_option maxRecDepth 20000 in
theorem gX8_answer_X8_make : GoodIn wsX8_answer (wsV RX8 54 RX8 yX8_make wsX8_make) := goodIn_app (goodIn_of _ (by decide +kernel)) ggX8_answer_X8_make
theorem dX8_answer_0 : decode cX8_answer 0 = .ok (.aload_n 0, 1) := by decide +kernel
theorem dX8_answer_1 : decode cX8_answer 1 = .ok (.iload_n 1, 1) := by decide +kernel
theorem dX8_answer_2 : decode cX8_answer 2 = .ok (.iconst 2, 1) := by decide +kernel
theorem dX8_answer_3 : decode cX8_answer 3 = .ok (.iload_n 2, 1) := by decide +kernel
theorem dX8_answer_4 : decode cX8_answer 4 = .ok (.invokevirtual 50, 3) := by decide +kernel
theorem dX8_answer_7 : decode cX8_answer 7 = .ok (.aload_n 0, 1) := by decide +kernel
theorem dX8_answer_8 : decode cX8_answer 8 = .ok (.iload_n 1, 1) := by decide +kernel
theorem dX8_answer_9 : decode cX8_answer 9 = .ok (.iconst 1, 1) := by decide +kernel
theorem dX8_answer_10 : decode cX8_answer 10 = .ok (.iload_n 2, 1) := by decide +kernel
theorem dX8_answer_11 : decode cX8_answer 11 = .ok (.iload_n 3, 1) := by decide +kernel
theorem dX8_answer_12 : decode cX8_answer 12 = .ok (.invokevirtual 54, 3) := by decide +kernel
theorem dX8_answer_15 : decode cX8_answer 15 = .ok (.return_, 1) := by decide +kernel
set_option maxRecDepth 20000 in
theorem ggX8_take_X8_end : GoodIn wsX8_take wsX8_end := goodIn_r _ [6, 1, 23, 24, 25, 26, 27, 28, 29, 30, 31, 32, 33, 34] (by decide +kernel) (by decide +kernel)
set_option maxRecDepth 20000 in
theorem gX8_take_X8_end : GoodIn wsX8_take (wsV RX8 58 RX8 yX8_end wsX8_end) := goodIn_app (goodIn_of _ (by decide +kernel)) ggX8_take_X8_end
set_option maxRecDepth 20000 in
theorem ggX8_take_X8_answer : GoodIn wsX8_take wsX8_answer := goodIn_r _ [10, 11, 12, 13, 5, 14, 1, 15, 16, 17, 18, 23, 24, 25, 26, 27, 28, 29, 30, 31, 32, 33, 34] (by decide +kernel) (by decide +kernel)
set_option maxRecDepth 20000 in
theorem gX8_take_X8_answer : GoodIn wsX8_take (wsV RX8 62 RX8 yX8_answer wsX8_answer) := goodIn_app (goodIn_of _ (by decide +kernel)) ggX8_take_X8_answer
set_option maxRecDepth 20000 in
theorem ggX8_take_X8_offer : GoodIn wsX8_take wsX8_offer := goodIn_r _ [22, 1, 11, 12, 13, 5, 14, 15, 16, 17, 18, 23, 24, 25, 26, 27, 28, 29, 30, 31, 32, 33, 34] (by decide +kernel) (by decide +kernel)
set_option maxRecDepth 20000 in
theorem gX8_take_X8_offer : GoodIn wsX8_take (wsV RX8 65 RX8 yX8_offer wsX8_offer) := goodIn_app (goodIn_of _ (by decide +kernel)) ggX8_take_X8_offer
theorem dX8_take_0 : decode cX8_take 0 = .ok (.aload_n 0, 1) := by decide +kernel
theorem dX8_take_1 : decode cX8_take 1 = .ok (.getfield 7, 3) := by decide +kernel
theorem dX8_take_4 : decode cX8_take 4 = .ok (.bipush 97, 2) := by decide +kernel
theorem dX8_take_6 : decode cX8_take 6 = .ok (.iload_n 1, 1) := by decide +kernel
theorem dX8_take_7 : decode cX8_take 7 = .ok (.iadd, 1) := by decide +kernel
theorem dX8_take_8 : decode cX8_take 8 = .ok (.iconst 1, 1) := by decide +kernel
theorem dX8_take_9 : decode cX8_take 9 = .ok (.iastore, 1) := by decide +kernel
theorem dX8_take_10 : decode cX8_take 10 = .ok (.aload_n 0, 1) := by decide +kernel
theorem dX8_take_11 : decode cX8_take 11 = .ok (.getfield 7, 3) := by decide +kernel
theorem dX8_take_14 : decode cX8_take 14 = .ok (.bipush 103, 2) := by decide +kernel
theorem dX8_take_16 : decode cX8_take 16 = .ok (.iload_n 1, 1) := by decide +kernel
theorem dX8_take_17 : decode cX8_take 17 = .ok (.iadd, 1) := by decide +kernel
theorem dX8_take_18 : decode cX8_take 18 = .ok (.aload_n 0, 1) := by decide +kernel
theorem dX8_take_19 : decode cX8_take 19 = .ok (.iload_n 1, 1) := by decide +kernel
theorem dX8_take_20 : decode cX8_take 20 = .ok (.iconst 5, 1) := by decide +kernel
theorem dX8_take_21 : decode cX8_take 21 = .ok (.invokevirtual 58, 3) := by decide +kernel
theorem dX8_take_24 : decode cX8_take 24 = .ok (.iastore, 1) := by decide +kernel
theorem dX8_take_25 : decode cX8_take 25 = .ok (.aload_n 0, 1) := by decide +kernel
theorem dX8_take_26 : decode cX8_take 26 = .ok (.iload_n 1, 1) := by decide +kernel
theorem dX8_take_27 : decode cX8_take 27 = .ok (.iconst 1, 1) := by decide +kernel
theorem dX8_take_28 : decode cX8_take 28 = .ok (.iconst 0, 1) := by decide +kernel
theorem dX8_take_29 : decode cX8_take 29 = .ok (.invokevirtual 62, 3) := by decide +kernel
theorem dX8_take_32 : decode cX8_take 32 = .ok (.aload_n 0, 1) := by decide +kernel
theorem dX8_take_33 : decode cX8_take 33 = .ok (.getfield 7, 3) := by decide +kernel
theorem dX8_take_36 : decode cX8_take 36 = .ok (.bipush 76, 2) := by decide +kernel
theorem dX8_take_38 : decode cX8_take 38 = .ok (.iload_n 1, 1) := by decide +kernel
theorem dX8_take_39 : decode cX8_take 39 = .ok (.iadd, 1) := by decide +kernel
theorem dX8_take_40 : decode cX8_take 40 = .ok (.iconst 1, 1) := by decide +kernel
theorem dX8_take_41 : decode cX8_take 41 = .ok (.iadd, 1) := by decide +kernel
theorem dX8_take_42 : decode cX8_take 42 = .ok (.iaload, 1) := by decide +kernel
theorem dX8_take_43 : decode cX8_take 43 = .ok (.iconst 1, 1) := by decide +kernel
theorem dX8_take_44 : decode cX8_take 44 = .ok (.if_icmp .ne 19, 3) := by decide +kernel
theorem dX8_take_47 : decode cX8_take 47 = .ok (.aload_n 0, 1) := by decide +kernel
theorem dX8_take_48 : decode cX8_take 48 = .ok (.iload_n 1, 1) := by decide +kernel
theorem dX8_take_49 : decode cX8_take 49 = .ok (.iconst 1, 1) := by decide +kernel
theorem dX8_take_50 : decode cX8_take 50 = .ok (.iadd, 1) := by decide +kernel
theorem dX8_take_51 : decode cX8_take 51 = .ok (.aload_n 0, 1) := by decide +kernel
theorem dX8_take_52 : decode cX8_take 52 = .ok (.getfield 7, 3) := by decide +kernel
theorem dX8_take_55 : decode cX8_take 55 = .ok (.bipush 103, 2) := by decide +kernel
theorem dX8_take_57 : decode cX8_take 57 = .ok (.iload_n 1, 1) := by decide +kernel
theorem dX8_take_58 : decode cX8_take 58 = .ok (.iadd, 1) := by decide +kernel
theorem dX8_take_59 : decode cX8_take 59 = .ok (.iaload, 1) := by decide +kernel
theorem dX8_take_60 : decode cX8_take 60 = .ok (.invokevirtual 65, 3) := by decide +kernel
theorem dX8_take_63 : decode cX8_take 63 = .ok (.return_, 1) := by decide +kernel
set_option maxRecDepth 20000 in
theorem ggX8_note_X8_end : GoodIn wsX8_note wsX8_end := goodIn_r _ [6, 1, 19, 20, 21, 22, 23, 24, 25, 26, 27, 28, 29, 30] (by decide +kernel) (by decide +kernel)
set_option maxRecDepth 20000 in
theorem gX8_note_X8_end : GoodIn wsX8_note (wsV RX8 58 RX8 yX8_end wsX8_end) := goodIn_app (goodIn_of _ (by decide +kernel)) ggX8_note_X8_end
set_option maxRecDepth 20000 in
theorem ggX8_note_X8_answer : GoodIn wsX8_note wsX8_answer := goodIn_r _ [10, 11, 12, 13, 5, 14, 1, 15, 16, 17, 18, 19, 20, 21, 22, 23, 24, 25, 26, 27, 28, 29, 30] (by decide +kernel) (by decide +kernel)
set_option maxRecDepth 20000 in
theorem gX8_note_X8_answer : GoodIn wsX8_note (wsV RX8 62 RX8 yX8_answer wsX8_answer) := goodIn_app (goodIn_of _ (by decide +kernel)) ggX8_note_X8_answer
theorem dX8_note_0 : decode cX8_note 0 = .ok (.aload_n 0, 1) := by decide +kernel
theorem dX8_note_1 : decode cX8_note 1 = .ok (.aload_n 0, 1) := by decide +kernel
theorem dX8_note_2 : decode cX8_note 2 = .ok (.getfield 7, 3) := by decide +kernel
theorem dX8_note_5 : decode cX8_note 5 = .ok (.iconst 3, 1) := by decide +kernel
theorem dX8_note_6 : decode cX8_note 6 = .ok (.iaload, 1) := by decide +kernel
theorem dX8_note_7 : decode cX8_note 7 = .ok (.iconst 5, 1) := by decide +kernel
theorem dX8_note_8 : decode cX8_note 8 = .ok (.invokevirtual 58, 3) := by decide +kernel
theorem dX8_note_11 : decode cX8_note 11 = .ok (.istore_n 1, 1) := by decide +kernel
theorem dX8_note_12 : decode cX8_note 12 = .ok (.iload_n 1, 1) := by decide +kernel
theorem dX8_note_13 : decode cX8_note 13 = .ok (.aload_n 0, 1) := by decide +kernel
theorem dX8_note_14 : decode cX8_note 14 = .ok (.getfield 7, 3) := by decide +kernel
theorem dX8_note_17 : decode cX8_note 17 = .ok (.sipush 149, 3) := by decide +kernel
theorem dX8_note_20 : decode cX8_note 20 = .ok (.iaload, 1) := by decide +kernel
theorem dX8_note_21 : decode cX8_note 21 = .ok (.if_icmp .ne 7, 3) := by decide +kernel
theorem dX8_note_24 : decode cX8_note 24 = .ok (.iconst 1, 1) := by decide +kernel
theorem dX8_note_25 : decode cX8_note 25 = .ok (.goto 4, 3) := by decide +kernel
theorem dX8_note_28 : decode cX8_note 28 = .ok (.iconst 0, 1) := by decide +kernel
theorem dX8_note_29 : decode cX8_note 29 = .ok (.istore_n 2, 1) := by decide +kernel
theorem dX8_note_30 : decode cX8_note 30 = .ok (.iconst 0, 1) := by decide +kernel
theorem dX8_note_31 : decode cX8_note 31 = .ok (.istore_n 3, 1) := by decide +kernel
theorem dX8_note_32 : decode cX8_note 32 = .ok (.iload_n 3, 1) := by decide +kernel
theorem dX8_note_33 : decode cX8_note 33 = .ok (.bipush 19, 2) := by decide +kernel
theorem dX8_note_35 : decode cX8_note 35 = .ok (.if_icmp .ge 31, 3) := by decide +kernel
theorem dX8_note_38 : decode cX8_note 38 = .ok (.aload_n 0, 1) := by decide +kernel
theorem dX8_note_39 : decode cX8_note 39 = .ok (.getfield 7, 3) := by decide +kernel
theorem dX8_note_42 : decode cX8_note 42 = .ok (.sipush 149, 3) := by decide +kernel
theorem dX8_note_45 : decode cX8_note 45 = .ok (.iload_n 3, 1) := by decide +kernel
theorem dX8_note_46 : decode cX8_note 46 = .ok (.iadd, 1) := by decide +kernel
theorem dX8_note_47 : decode cX8_note 47 = .ok (.aload_n 0, 1) := by decide +kernel
theorem dX8_note_48 : decode cX8_note 48 = .ok (.getfield 7, 3) := by decide +kernel
theorem dX8_note_51 : decode cX8_note 51 = .ok (.sipush 149, 3) := by decide +kernel
theorem dX8_note_54 : decode cX8_note 54 = .ok (.iload_n 3, 1) := by decide +kernel
theorem dX8_note_55 : decode cX8_note 55 = .ok (.iadd, 1) := by decide +kernel
theorem dX8_note_56 : decode cX8_note 56 = .ok (.iconst 1, 1) := by decide +kernel
theorem dX8_note_57 : decode cX8_note 57 = .ok (.iadd, 1) := by decide +kernel
theorem dX8_note_58 : decode cX8_note 58 = .ok (.iaload, 1) := by decide +kernel
theorem dX8_note_59 : decode cX8_note 59 = .ok (.iastore, 1) := by decide +kernel
theorem dX8_note_60 : decode cX8_note 60 = .ok (.iinc 3 1, 3) := by decide +kernel
theorem dX8_note_63 : decode cX8_note 63 = .ok (.goto (-31), 3) := by decide +kernel
theorem dX8_note_66 : decode cX8_note 66 = .ok (.aload_n 0, 1) := by decide +kernel
theorem dX8_note_67 : decode cX8_note 67 = .ok (.getfield 7, 3) := by decide +kernel
theorem dX8_note_70 : decode cX8_note 70 = .ok (.bipush 9, 2) := by decide +kernel
theorem dX8_note_72 : decode cX8_note 72 = .ok (.dup2, 1) := by decide +kernel
theorem dX8_note_73 : decode cX8_note 73 = .ok (.iaload, 1) := by decide +kernel
theorem dX8_note_74 : decode cX8_note 74 = .ok (.iconst 1, 1) := by decide +kernel
theorem dX8_note_75 : decode cX8_note 75 = .ok (.isub, 1) := by decide +kernel
theorem dX8_note_76 : decode cX8_note 76 = .ok (.iastore, 1) := by decide +kernel
theorem dX8_note_77 : decode cX8_note 77 = .ok (.sipush 149, 3) := by decide +kernel
theorem dX8_note_80 : decode cX8_note 80 = .ok (.istore_n 3, 1) := by decide +kernel
theorem dX8_note_81 : decode cX8_note 81 = .ok (.iload_n 3, 1) := by decide +kernel
theorem dX8_note_82 : decode cX8_note 82 = .ok (.iconst 2, 1) := by decide +kernel
theorem dX8_note_83 : decode cX8_note 83 = .ok (.if_icmp .le 31, 3) := by decide +kernel
theorem dX8_note_86 : decode cX8_note 86 = .ok (.aload_n 0, 1) := by decide +kernel
theorem dX8_note_87 : decode cX8_note 87 = .ok (.getfield 7, 3) := by decide +kernel
theorem dX8_note_90 : decode cX8_note 90 = .ok (.sipush 169, 3) := by decide +kernel
theorem dX8_note_93 : decode cX8_note 93 = .ok (.iload_n 3, 1) := by decide +kernel
theorem dX8_note_94 : decode cX8_note 94 = .ok (.iadd, 1) := by decide +kernel
theorem dX8_note_95 : decode cX8_note 95 = .ok (.aload_n 0, 1) := by decide +kernel
theorem dX8_note_96 : decode cX8_note 96 = .ok (.getfield 7, 3) := by decide +kernel
theorem dX8_note_99 : decode cX8_note 99 = .ok (.sipush 169, 3) := by decide +kernel
theorem dX8_note_102 : decode cX8_note 102 = .ok (.iload_n 3, 1) := by decide +kernel
theorem dX8_note_103 : decode cX8_note 103 = .ok (.iadd, 1) := by decide +kernel
theorem dX8_note_104 : decode cX8_note 104 = .ok (.iconst 3, 1) := by decide +kernel
theorem dX8_note_105 : decode cX8_note 105 = .ok (.isub, 1) := by decide +kernel
theorem dX8_note_106 : decode cX8_note 106 = .ok (.iaload, 1) := by decide +kernel
theorem dX8_note_107 : decode cX8_note 107 = .ok (.iastore, 1) := by decide +kernel
theorem dX8_note_108 : decode cX8_note 108 = .ok (.iinc 3 (-1), 3) := by decide +kernel
theorem dX8_note_111 : decode cX8_note 111 = .ok (.goto (-30), 3) := by decide +kernel
theorem dX8_note_114 : decode cX8_note 114 = .ok (.aload_n 0, 1) := by decide +kernel
theorem dX8_note_115 : decode cX8_note 115 = .ok (.getfield 7, 3) := by decide +kernel
theorem dX8_note_118 : decode cX8_note 118 = .ok (.sipush 169, 3) := by decide +kernel
theorem dX8_note_121 : decode cX8_note 121 = .ok (.iload_n 1, 1) := by decide +kernel
theorem dX8_note_122 : decode cX8_note 122 = .ok (.iastore, 1) := by decide +kernel
theorem dX8_note_123 : decode cX8_note 123 = .ok (.aload_n 0, 1) := by decide +kernel
theorem dX8_note_124 : decode cX8_note 124 = .ok (.getfield 7, 3) := by decide +kernel
theorem dX8_note_127 : decode cX8_note 127 = .ok (.sipush 170, 3) := by decide +kernel
theorem dX8_note_130 : decode cX8_note 130 = .ok (.aload_n 0, 1) := by decide +kernel
theorem dX8_note_131 : decode cX8_note 131 = .ok (.getfield 7, 3) := by decide +kernel
theorem dX8_note_134 : decode cX8_note 134 = .ok (.iconst 4, 1) := by decide +kernel
theorem dX8_note_135 : decode cX8_note 135 = .ok (.iaload, 1) := by decide +kernel
theorem dX8_note_136 : decode cX8_note 136 = .ok (.iastore, 1) := by decide +kernel
theorem dX8_note_137 : decode cX8_note 137 = .ok (.aload_n 0, 1) := by decide +kernel
theorem dX8_note_138 : decode cX8_note 138 = .ok (.getfield 7, 3) := by decide +kernel
theorem dX8_note_141 : decode cX8_note 141 = .ok (.sipush 171, 3) := by decide +kernel
theorem dX8_note_144 : decode cX8_note 144 = .ok (.iload_n 2, 1) := by decide +kernel
theorem dX8_note_145 : decode cX8_note 145 = .ok (.iastore, 1) := by decide +kernel
theorem dX8_note_146 : decode cX8_note 146 = .ok (.aload_n 0, 1) := by decide +kernel
theorem dX8_note_147 : decode cX8_note 147 = .ok (.getfield 7, 3) := by decide +kernel
theorem dX8_note_150 : decode cX8_note 150 = .ok (.iconst 5, 1) := by decide +kernel
theorem dX8_note_151 : decode cX8_note 151 = .ok (.dup2, 1) := by decide +kernel
theorem dX8_note_152 : decode cX8_note 152 = .ok (.iaload, 1) := by decide +kernel
theorem dX8_note_153 : decode cX8_note 153 = .ok (.iconst 1, 1) := by decide +kernel
theorem dX8_note_154 : decode cX8_note 154 = .ok (.iadd, 1) := by decide +kernel
theorem dX8_note_155 : decode cX8_note 155 = .ok (.iastore, 1) := by decide +kernel
theorem dX8_note_156 : decode cX8_note 156 = .ok (.aload_n 0, 1) := by decide +kernel
theorem dX8_note_157 : decode cX8_note 157 = .ok (.getfield 7, 3) := by decide +kernel
theorem dX8_note_160 : decode cX8_note 160 = .ok (.bipush 6, 2) := by decide +kernel
theorem dX8_note_162 : decode cX8_note 162 = .ok (.dup2, 1) := by decide +kernel
theorem dX8_note_163 : decode cX8_note 163 = .ok (.iaload, 1) := by decide +kernel
theorem dX8_note_164 : decode cX8_note 164 = .ok (.iload_n 2, 1) := by decide +kernel
theorem dX8_note_165 : decode cX8_note 165 = .ok (.iadd, 1) := by decide +kernel
theorem dX8_note_166 : decode cX8_note 166 = .ok (.iastore, 1) := by decide +kernel
theorem dX8_note_167 : decode cX8_note 167 = .ok (.aload_n 0, 1) := by decide +kernel
theorem dX8_note_168 : decode cX8_note 168 = .ok (.aload_n 0, 1) := by decide +kernel
theorem dX8_note_169 : decode cX8_note 169 = .ok (.getfield 7, 3) := by decide +kernel
theorem dX8_note_172 : decode cX8_note 172 = .ok (.iconst 3, 1) := by decide +kernel
theorem dX8_note_173 : decode cX8_note 173 = .ok (.iaload, 1) := by decide +kernel
theorem dX8_note_174 : decode cX8_note 174 = .ok (.iconst 1, 1) := by decide +kernel
theorem dX8_note_175 : decode cX8_note 175 = .ok (.aload_n 0, 1) := by decide +kernel
theorem dX8_note_176 : decode cX8_note 176 = .ok (.getfield 7, 3) := by decide +kernel
theorem dX8_note_179 : decode cX8_note 179 = .ok (.iconst 1, 1) := by decide +kernel
theorem dX8_note_180 : decode cX8_note 180 = .ok (.iaload, 1) := by decide +kernel
theorem dX8_note_181 : decode cX8_note 181 = .ok (.invokevirtual 62, 3) := by decide +kernel
theorem dX8_note_184 : decode cX8_note 184 = .ok (.return_, 1) := by decide +kernel
set_option maxRecDepth 20000 in
theorem ggX8_letGo_X8_offer : GoodIn wsX8_letGo wsX8_offer := goodIn_r _ [6, 1, 7, 8, 9, 5, 10, 11, 12, 13, 14, 15, 16, 17, 18, 19, 20, 21, 22, 23, 24, 25, 26] (by decide +kernel) (by decide +kernel)
set_option maxRecDepth 20000 in
theorem gX8_letGo_X8_offer : GoodIn wsX8_letGo (wsV RX8 65 RX8 yX8_offer wsX8_offer) := goodIn_app (goodIn_of _ (by decide +kernel)) ggX8_letGo_X8_offer
theorem dX8_letGo_0 : decode cX8_letGo 0 = .ok (.aload_n 0, 1) := by decide +kernel
theorem dX8_letGo_1 : decode cX8_letGo 1 = .ok (.getfield 7, 3) := by decide +kernel
theorem dX8_letGo_4 : decode cX8_letGo 4 = .ok (.bipush 11, 2) := by decide +kernel
theorem dX8_letGo_6 : decode cX8_letGo 6 = .ok (.iaload, 1) := by decide +kernel
theorem dX8_letGo_7 : decode cX8_letGo 7 = .ok (.istore_n 1, 1) := by decide +kernel
theorem dX8_letGo_8 : decode cX8_letGo 8 = .ok (.aload_n 0, 1) := by decide +kernel
theorem dX8_letGo_9 : decode cX8_letGo 9 = .ok (.getfield 7, 3) := by decide +kernel
theorem dX8_letGo_12 : decode cX8_letGo 12 = .ok (.bipush 12, 2) := by decide +kernel
theorem dX8_letGo_14 : decode cX8_letGo 14 = .ok (.iaload, 1) := by decide +kernel
theorem dX8_letGo_15 : decode cX8_letGo 15 = .ok (.istore_n 2, 1) := by decide +kernel
theorem dX8_letGo_16 : decode cX8_letGo 16 = .ok (.aload_n 0, 1) := by decide +kernel
theorem dX8_letGo_17 : decode cX8_letGo 17 = .ok (.getfield 7, 3) := by decide +kernel
theorem dX8_letGo_20 : decode cX8_letGo 20 = .ok (.bipush 76, 2) := by decide +kernel
theorem dX8_letGo_22 : decode cX8_letGo 22 = .ok (.iaload, 1) := by decide +kernel
theorem dX8_letGo_23 : decode cX8_letGo 23 = .ok (.ifCond .eq 9, 3) := by decide +kernel
theorem dX8_letGo_26 : decode cX8_letGo 26 = .ok (.iload_n 1, 1) := by decide +kernel
theorem dX8_letGo_27 : decode cX8_letGo 27 = .ok (.iload_n 2, 1) := by decide +kernel
theorem dX8_letGo_28 : decode cX8_letGo 28 = .ok (.iadd, 1) := by decide +kernel
theorem dX8_letGo_29 : decode cX8_letGo 29 = .ok (.ifCond .ne 4, 3) := by decide +kernel
theorem dX8_letGo_32 : decode cX8_letGo 32 = .ok (.return_, 1) := by decide +kernel
theorem dX8_letGo_33 : decode cX8_letGo 33 = .ok (.iload_n 1, 1) := by decide +kernel
theorem dX8_letGo_34 : decode cX8_letGo 34 = .ok (.ifCond .eq 26, 3) := by decide +kernel
theorem dX8_letGo_37 : decode cX8_letGo 37 = .ok (.iload_n 2, 1) := by decide +kernel
theorem dX8_letGo_38 : decode cX8_letGo 38 = .ok (.ifCond .le 26, 3) := by decide +kernel
theorem dX8_letGo_41 : decode cX8_letGo 41 = .ok (.aload_n 0, 1) := by decide +kernel
theorem dX8_letGo_42 : decode cX8_letGo 42 = .ok (.getfield 7, 3) := by decide +kernel
theorem dX8_letGo_45 : decode cX8_letGo 45 = .ok (.iconst 2, 1) := by decide +kernel
theorem dX8_letGo_46 : decode cX8_letGo 46 = .ok (.iaload, 1) := by decide +kernel
theorem dX8_letGo_47 : decode cX8_letGo 47 = .ok (.ifCond .ne 17, 3) := by decide +kernel
theorem dX8_letGo_50 : decode cX8_letGo 50 = .ok (.aload_n 0, 1) := by decide +kernel
theorem dX8_letGo_51 : decode cX8_letGo 51 = .ok (.getfield 7, 3) := by decide +kernel
theorem dX8_letGo_54 : decode cX8_letGo 54 = .ok (.bipush 8, 2) := by decide +kernel
theorem dX8_letGo_56 : decode cX8_letGo 56 = .ok (.iaload, 1) := by decide +kernel
theorem dX8_letGo_57 : decode cX8_letGo 57 = .ok (.ifCond .ne 7, 3) := by decide +kernel
theorem dX8_letGo_60 : decode cX8_letGo 60 = .ok (.iconst 1, 1) := by decide +kernel
theorem dX8_letGo_61 : decode cX8_letGo 61 = .ok (.goto 4, 3) := by decide +kernel
theorem dX8_letGo_64 : decode cX8_letGo 64 = .ok (.iconst 0, 1) := by decide +kernel
theorem dX8_letGo_65 : decode cX8_letGo 65 = .ok (.istore_n 3, 1) := by decide +kernel
theorem dX8_letGo_66 : decode cX8_letGo 66 = .ok (.iload_n 3, 1) := by decide +kernel
theorem dX8_letGo_67 : decode cX8_letGo 67 = .ok (.ifCond .eq 7, 3) := by decide +kernel
theorem dX8_letGo_70 : decode cX8_letGo 70 = .ok (.iconst 1, 1) := by decide +kernel
theorem dX8_letGo_71 : decode cX8_letGo 71 = .ok (.goto 4, 3) := by decide +kernel
theorem dX8_letGo_74 : decode cX8_letGo 74 = .ok (.iconst 0, 1) := by decide +kernel
theorem dX8_letGo_75 : decode cX8_letGo 75 = .ok (.istore 4, 2) := by decide +kernel
theorem dX8_letGo_77 : decode cX8_letGo 77 = .ok (.bipush 109, 2) := by decide +kernel
theorem dX8_letGo_79 : decode cX8_letGo 79 = .ok (.bipush 20, 2) := by decide +kernel
theorem dX8_letGo_81 : decode cX8_letGo 81 = .ok (.iload 4, 2) := by decide +kernel
theorem dX8_letGo_83 : decode cX8_letGo 83 = .ok (.imul, 1) := by decide +kernel
theorem dX8_letGo_84 : decode cX8_letGo 84 = .ok (.iadd, 1) := by decide +kernel
theorem dX8_letGo_85 : decode cX8_letGo 85 = .ok (.istore 5, 2) := by decide +kernel
theorem dX8_letGo_87 : decode cX8_letGo 87 = .ok (.bipush 16, 2) := by decide +kernel
theorem dX8_letGo_89 : decode cX8_letGo 89 = .ok (.iload 4, 2) := by decide +kernel
theorem dX8_letGo_91 : decode cX8_letGo 91 = .ok (.imul, 1) := by decide +kernel
theorem dX8_letGo_92 : decode cX8_letGo 92 = .ok (.aload_n 0, 1) := by decide +kernel
theorem dX8_letGo_93 : decode cX8_letGo 93 = .ok (.getfield 7, 3) := by decide +kernel
theorem dX8_letGo_96 : decode cX8_letGo 96 = .ok (.iload 5, 2) := by decide +kernel
theorem dX8_letGo_98 : decode cX8_letGo 98 = .ok (.iaload, 1) := by decide +kernel
theorem dX8_letGo_99 : decode cX8_letGo 99 = .ok (.iadd, 1) := by decide +kernel
theorem dX8_letGo_100 : decode cX8_letGo 100 = .ok (.istore 6, 2) := by decide +kernel
theorem dX8_letGo_102 : decode cX8_letGo 102 = .ok (.iconst 0, 1) := by decide +kernel
theorem dX8_letGo_103 : decode cX8_letGo 103 = .ok (.istore 7, 2) := by decide +kernel
theorem dX8_letGo_105 : decode cX8_letGo 105 = .ok (.iload 7, 2) := by decide +kernel
theorem dX8_letGo_107 : decode cX8_letGo 107 = .ok (.bipush 19, 2) := by decide +kernel
theorem dX8_letGo_109 : decode cX8_letGo 109 = .ok (.if_icmp .ge 31, 3) := by decide +kernel
theorem dX8_letGo_112 : decode cX8_letGo 112 = .ok (.aload_n 0, 1) := by decide +kernel
theorem dX8_letGo_113 : decode cX8_letGo 113 = .ok (.getfield 7, 3) := by decide +kernel
theorem dX8_letGo_116 : decode cX8_letGo 116 = .ok (.iload 5, 2) := by decide +kernel
theorem dX8_letGo_118 : decode cX8_letGo 118 = .ok (.iload 7, 2) := by decide +kernel
theorem dX8_letGo_120 : decode cX8_letGo 120 = .ok (.iadd, 1) := by decide +kernel
theorem dX8_letGo_121 : decode cX8_letGo 121 = .ok (.aload_n 0, 1) := by decide +kernel
theorem dX8_letGo_122 : decode cX8_letGo 122 = .ok (.getfield 7, 3) := by decide +kernel
theorem dX8_letGo_125 : decode cX8_letGo 125 = .ok (.iload 5, 2) := by decide +kernel
theorem dX8_letGo_127 : decode cX8_letGo 127 = .ok (.iload 7, 2) := by decide +kernel
theorem dX8_letGo_129 : decode cX8_letGo 129 = .ok (.iadd, 1) := by decide +kernel
theorem dX8_letGo_130 : decode cX8_letGo 130 = .ok (.iconst 1, 1) := by decide +kernel
theorem dX8_letGo_131 : decode cX8_letGo 131 = .ok (.iadd, 1) := by decide +kernel
theorem dX8_letGo_132 : decode cX8_letGo 132 = .ok (.iaload, 1) := by decide +kernel
theorem dX8_letGo_133 : decode cX8_letGo 133 = .ok (.iastore, 1) := by decide +kernel
theorem dX8_letGo_134 : decode cX8_letGo 134 = .ok (.iinc 7 1, 3) := by decide +kernel
theorem dX8_letGo_137 : decode cX8_letGo 137 = .ok (.goto (-32), 3) := by decide +kernel
theorem dX8_letGo_140 : decode cX8_letGo 140 = .ok (.aload_n 0, 1) := by decide +kernel
theorem dX8_letGo_141 : decode cX8_letGo 141 = .ok (.getfield 7, 3) := by decide +kernel
theorem dX8_letGo_144 : decode cX8_letGo 144 = .ok (.bipush 11, 2) := by decide +kernel
theorem dX8_letGo_146 : decode cX8_letGo 146 = .ok (.iload 4, 2) := by decide +kernel
theorem dX8_letGo_148 : decode cX8_letGo 148 = .ok (.iadd, 1) := by decide +kernel
theorem dX8_letGo_149 : decode cX8_letGo 149 = .ok (.dup2, 1) := by decide +kernel
theorem dX8_letGo_150 : decode cX8_letGo 150 = .ok (.iaload, 1) := by decide +kernel
theorem dX8_letGo_151 : decode cX8_letGo 151 = .ok (.iconst 1, 1) := by decide +kernel
theorem dX8_letGo_152 : decode cX8_letGo 152 = .ok (.isub, 1) := by decide +kernel
theorem dX8_letGo_153 : decode cX8_letGo 153 = .ok (.iastore, 1) := by decide +kernel
theorem dX8_letGo_154 : decode cX8_letGo 154 = .ok (.aload_n 0, 1) := by decide +kernel
theorem dX8_letGo_155 : decode cX8_letGo 155 = .ok (.getfield 7, 3) := by decide +kernel
theorem dX8_letGo_158 : decode cX8_letGo 158 = .ok (.bipush 8, 2) := by decide +kernel
theorem dX8_letGo_160 : decode cX8_letGo 160 = .ok (.iload 4, 2) := by decide +kernel
theorem dX8_letGo_162 : decode cX8_letGo 162 = .ok (.iastore, 1) := by decide +kernel
theorem dX8_letGo_163 : decode cX8_letGo 163 = .ok (.aload_n 0, 1) := by decide +kernel
theorem dX8_letGo_164 : decode cX8_letGo 164 = .ok (.getfield 7, 3) := by decide +kernel
theorem dX8_letGo_167 : decode cX8_letGo 167 = .ok (.sipush 149, 3) := by decide +kernel
theorem dX8_letGo_170 : decode cX8_letGo 170 = .ok (.aload_n 0, 1) := by decide +kernel
theorem dX8_letGo_171 : decode cX8_letGo 171 = .ok (.getfield 7, 3) := by decide +kernel
theorem dX8_letGo_174 : decode cX8_letGo 174 = .ok (.bipush 9, 2) := by decide +kernel
theorem dX8_letGo_176 : decode cX8_letGo 176 = .ok (.iaload, 1) := by decide +kernel
theorem dX8_letGo_177 : decode cX8_letGo 177 = .ok (.iadd, 1) := by decide +kernel
theorem dX8_letGo_178 : decode cX8_letGo 178 = .ok (.iload 6, 2) := by decide +kernel
theorem dX8_letGo_180 : decode cX8_letGo 180 = .ok (.iastore, 1) := by decide +kernel
theorem dX8_letGo_181 : decode cX8_letGo 181 = .ok (.aload_n 0, 1) := by decide +kernel
theorem dX8_letGo_182 : decode cX8_letGo 182 = .ok (.getfield 7, 3) := by decide +kernel
theorem dX8_letGo_185 : decode cX8_letGo 185 = .ok (.bipush 9, 2) := by decide +kernel
theorem dX8_letGo_187 : decode cX8_letGo 187 = .ok (.dup2, 1) := by decide +kernel
theorem dX8_letGo_188 : decode cX8_letGo 188 = .ok (.iaload, 1) := by decide +kernel
theorem dX8_letGo_189 : decode cX8_letGo 189 = .ok (.iconst 1, 1) := by decide +kernel
theorem dX8_letGo_190 : decode cX8_letGo 190 = .ok (.iadd, 1) := by decide +kernel
theorem dX8_letGo_191 : decode cX8_letGo 191 = .ok (.iastore, 1) := by decide +kernel
theorem dX8_letGo_192 : decode cX8_letGo 192 = .ok (.aload_n 0, 1) := by decide +kernel
theorem dX8_letGo_193 : decode cX8_letGo 193 = .ok (.iconst 0, 1) := by decide +kernel
theorem dX8_letGo_194 : decode cX8_letGo 194 = .ok (.iload 6, 2) := by decide +kernel
theorem dX8_letGo_196 : decode cX8_letGo 196 = .ok (.invokevirtual 65, 3) := by decide +kernel
theorem dX8_letGo_199 : decode cX8_letGo 199 = .ok (.return_, 1) := by decide +kernel
set_option maxRecDepth 20000 in
theorem ggX8_requestArrives_X8_setEnd : GoodIn wsX8_requestArrives wsX8_setEnd := goodIn_r _ [6, 1, 31, 32, 33, 34, 35, 36, 37, 38, 39, 40, 41, 42] (by decide +kernel) (by decide +kernel)
set_option maxRecDepth 20000 in
theorem gX8_requestArrives_X8_setEnd : GoodIn wsX8_requestArrives (wsV RX8 50 RX8 yX8_setEnd wsX8_setEnd) := goodIn_app (goodIn_of _ (by decide +kernel)) ggX8_requestArrives_X8_setEnd
set_option maxRecDepth 20000 in
theorem ggX8_requestArrives_X8_answer : GoodIn wsX8_requestArrives wsX8_answer := goodIn_r _ [10, 2, 3, 4, 5, 6, 1, 11, 12, 13, 14, 31, 32, 33, 34, 35, 36, 37, 38, 39, 40, 41, 42] (by decide +kernel) (by decide +kernel)
set_option maxRecDepth 20000 in
theorem gX8_requestArrives_X8_answer : GoodIn wsX8_requestArrives (wsV RX8 62 RX8 yX8_answer wsX8_answer) := goodIn_app (goodIn_of _ (by decide +kernel)) ggX8_requestArrives_X8_answer
set_option maxRecDepth 20000 in
theorem ggX8_requestArrives_X8_note : GoodIn wsX8_requestArrives wsX8_note := goodIn_r _ [18, 1, 19, 20, 21, 5, 22, 7, 8, 9, 10, 2, 3, 4, 6, 11, 12, 13, 14, 31, 32, 33, 34, 35, 36, 37, 38, 39, 40, 41, 42] (by decide +kernel) (by decide +kernel)
set_option maxRecDepth 20000 in
theorem gX8_requestArrives_X8_note : GoodIn wsX8_requestArrives (wsV RX8 69 RX8 yX8_note wsX8_note) := goodIn_app (goodIn_of _ (by decide +kernel)) ggX8_requestArrives_X8_note
set_option maxRecDepth 20000 in
theorem ggX8_requestArrives_X8_take : GoodIn wsX8_requestArrives wsX8_take := goodIn_r _ [26, 1, 19, 20, 21, 5, 22, 7, 8, 9, 10, 2, 3, 4, 6, 11, 12, 13, 14, 27, 28, 29, 30, 31, 32, 33, 34, 35, 36, 37, 38, 39, 40, 41, 42] (by decide +kernel) (by decide +kernel)
set_option maxRecDepth 20000 in
theorem gX8_requestArrives_X8_take : GoodIn wsX8_requestArrives (wsV RX8 72 RX8 yX8_take wsX8_take) := goodIn_app (goodIn_of _ (by decide +kernel)) ggX8_requestArrives_X8_take
theorem dX8_requestArrives_0 : decode cX8_requestArrives 0 = .ok (.aload_n 0, 1) := by decide +kernel
theorem dX8_requestArrives_1 : decode cX8_requestArrives 1 = .ok (.iload_n 1, 1) := by decide +kernel
theorem dX8_requestArrives_2 : decode cX8_requestArrives 2 = .ok (.iconst 1, 1) := by decide +kernel
theorem dX8_requestArrives_3 : decode cX8_requestArrives 3 = .ok (.iload_n 2, 1) := by decide +kernel
theorem dX8_requestArrives_4 : decode cX8_requestArrives 4 = .ok (.invokevirtual 50, 3) := by decide +kernel
theorem dX8_requestArrives_7 : decode cX8_requestArrives 7 = .ok (.iload_n 2, 1) := by decide +kernel
theorem dX8_requestArrives_8 : decode cX8_requestArrives 8 = .ok (.ifCond .ne 13, 3) := by decide +kernel
theorem dX8_requestArrives_11 : decode cX8_requestArrives 11 = .ok (.aload_n 0, 1) := by decide +kernel
theorem dX8_requestArrives_12 : decode cX8_requestArrives 12 = .ok (.iload_n 1, 1) := by decide +kernel
theorem dX8_requestArrives_13 : decode cX8_requestArrives 13 = .ok (.iconst 0, 1) := by decide +kernel
theorem dX8_requestArrives_14 : decode cX8_requestArrives 14 = .ok (.iconst 0, 1) := by decide +kernel
theorem dX8_requestArrives_15 : decode cX8_requestArrives 15 = .ok (.invokevirtual 62, 3) := by decide +kernel
theorem dX8_requestArrives_18 : decode cX8_requestArrives 18 = .ok (.goto 50, 3) := by decide +kernel
theorem dX8_requestArrives_21 : decode cX8_requestArrives 21 = .ok (.iload_n 1, 1) := by decide +kernel
theorem dX8_requestArrives_22 : decode cX8_requestArrives 22 = .ok (.aload_n 0, 1) := by decide +kernel
theorem dX8_requestArrives_23 : decode cX8_requestArrives 23 = .ok (.getfield 7, 3) := by decide +kernel
theorem dX8_requestArrives_26 : decode cX8_requestArrives 26 = .ok (.iconst 3, 1) := by decide +kernel
theorem dX8_requestArrives_27 : decode cX8_requestArrives 27 = .ok (.iaload, 1) := by decide +kernel
theorem dX8_requestArrives_28 : decode cX8_requestArrives 28 = .ok (.if_icmp .ne 10, 3) := by decide +kernel
theorem dX8_requestArrives_31 : decode cX8_requestArrives 31 = .ok (.aload_n 0, 1) := by decide +kernel
theorem dX8_requestArrives_32 : decode cX8_requestArrives 32 = .ok (.invokevirtual 69, 3) := by decide +kernel
theorem dX8_requestArrives_35 : decode cX8_requestArrives 35 = .ok (.goto 33, 3) := by decide +kernel
theorem dX8_requestArrives_38 : decode cX8_requestArrives 38 = .ok (.aload_n 0, 1) := by decide +kernel
theorem dX8_requestArrives_39 : decode cX8_requestArrives 39 = .ok (.getfield 7, 3) := by decide +kernel
theorem dX8_requestArrives_42 : decode cX8_requestArrives 42 = .ok (.bipush 97, 2) := by decide +kernel
theorem dX8_requestArrives_44 : decode cX8_requestArrives 44 = .ok (.iload_n 1, 1) := by decide +kernel
theorem dX8_requestArrives_45 : decode cX8_requestArrives 45 = .ok (.iadd, 1) := by decide +kernel
theorem dX8_requestArrives_46 : decode cX8_requestArrives 46 = .ok (.iaload, 1) := by decide +kernel
theorem dX8_requestArrives_47 : decode cX8_requestArrives 47 = .ok (.ifCond .ne 11, 3) := by decide +kernel
theorem dX8_requestArrives_50 : decode cX8_requestArrives 50 = .ok (.aload_n 0, 1) := by decide +kernel
theorem dX8_requestArrives_51 : decode cX8_requestArrives 51 = .ok (.iload_n 1, 1) := by decide +kernel
theorem dX8_requestArrives_52 : decode cX8_requestArrives 52 = .ok (.invokevirtual 72, 3) := by decide +kernel
theorem dX8_requestArrives_55 : decode cX8_requestArrives 55 = .ok (.goto 13, 3) := by decide +kernel
theorem dX8_requestArrives_58 : decode cX8_requestArrives 58 = .ok (.aload_n 0, 1) := by decide +kernel
theorem dX8_requestArrives_59 : decode cX8_requestArrives 59 = .ok (.getfield 7, 3) := by decide +kernel
theorem dX8_requestArrives_62 : decode cX8_requestArrives 62 = .ok (.bipush 83, 2) := by decide +kernel
theorem dX8_requestArrives_64 : decode cX8_requestArrives 64 = .ok (.iload_n 1, 1) := by decide +kernel
theorem dX8_requestArrives_65 : decode cX8_requestArrives 65 = .ok (.iadd, 1) := by decide +kernel
theorem dX8_requestArrives_66 : decode cX8_requestArrives 66 = .ok (.iconst 1, 1) := by decide +kernel
theorem dX8_requestArrives_67 : decode cX8_requestArrives 67 = .ok (.iastore, 1) := by decide +kernel
theorem dX8_requestArrives_68 : decode cX8_requestArrives 68 = .ok (.return_, 1) := by decide +kernel
set_option maxRecDepth 20000 in
theorem ggX8_answerArrives_X8_setEnd : GoodIn wsX8_answerArrives wsX8_setEnd := goodIn_r _ [6, 1, 31, 32, 33, 34, 35, 36, 37, 38, 39, 40, 41, 42] (by decide +kernel) (by decide +kernel)
set_option maxRecDepth 20000 in
theorem gX8_answerArrives_X8_setEnd : GoodIn wsX8_answerArrives (wsV RX8 50 RX8 yX8_setEnd wsX8_setEnd) := goodIn_app (goodIn_of _ (by decide +kernel)) ggX8_answerArrives_X8_setEnd
set_option maxRecDepth 20000 in
theorem ggX8_answerArrives_X8_make : GoodIn wsX8_answerArrives wsX8_make := goodIn_r _ [10, 1, 31, 32, 33, 34, 35, 36, 37, 38, 39, 40, 41, 42] (by decide +kernel) (by decide +kernel)
set_option maxRecDepth 20000 in
theorem gX8_answerArrives_X8_make : GoodIn wsX8_answerArrives (wsV RX8 54 RX8 yX8_make wsX8_make) := goodIn_app (goodIn_of _ (by decide +kernel)) ggX8_answerArrives_X8_make
set_option maxRecDepth 20000 in
theorem ggX8_answerArrives_X8_take : GoodIn wsX8_answerArrives wsX8_take := goodIn_r _ [14, 1, 15, 16, 17, 5, 18, 19, 20, 21, 22, 2, 3, 4, 6, 7, 8, 9, 10, 23, 24, 25, 26, 31, 32, 33, 34, 35, 36, 37, 38, 39, 40, 41, 42] (by decide +kernel) (by decide +kernel)
set_option maxRecDepth 20000 in
theorem gX8_answerArrives_X8_take : GoodIn wsX8_answerArrives (wsV RX8 72 RX8 yX8_take wsX8_take) := goodIn_app (goodIn_of _ (by decide +kernel)) ggX8_answerArrives_X8_take
set_option maxRecDepth 20000 in
theorem ggX8_answerArrives_X8_letGo : GoodIn wsX8_answerArrives wsX8_letGo := goodIn_r _ [30, 1, 23, 24, 25, 5, 26, 2, 3, 4, 6, 7, 8, 9, 10, 31, 32, 33, 34, 35, 36, 37, 38, 39, 40, 41, 42] (by decide +kernel) (by decide +kernel)
set_option maxRecDepth 20000 in
theorem gX8_answerArrives_X8_letGo : GoodIn wsX8_answerArrives (wsV RX8 75 RX8 yX8_letGo wsX8_letGo) := goodIn_app (goodIn_of _ (by decide +kernel)) ggX8_answerArrives_X8_letGo
set_option maxRecDepth 20000 in
theorem ggX8_answerArrives_X8_offer : GoodIn wsX8_answerArrives wsX8_offer := goodIn_r _ [26, 1, 2, 3, 4, 5, 6, 7, 8, 9, 10, 31, 32, 33, 34, 35, 36, 37, 38, 39, 40, 41, 42] (by decide +kernel) (by decide +kernel)
set_option maxRecDepth 20000 in
theorem gX8_answerArrives_X8_offer : GoodIn wsX8_answerArrives (wsV RX8 65 RX8 yX8_offer wsX8_offer) := goodIn_app (goodIn_of _ (by decide +kernel)) ggX8_answerArrives_X8_offer
theorem dX8_answerArrives_0 : decode cX8_answerArrives 0 = .ok (.aload_n 0, 1) := by decide +kernel
theorem dX8_answerArrives_1 : decode cX8_answerArrives 1 = .ok (.iload_n 1, 1) := by decide +kernel
theorem dX8_answerArrives_2 : decode cX8_answerArrives 2 = .ok (.iconst 3, 1) := by decide +kernel
theorem dX8_answerArrives_3 : decode cX8_answerArrives 3 = .ok (.iload_n 2, 1) := by decide +kernel
theorem dX8_answerArrives_4 : decode cX8_answerArrives 4 = .ok (.invokevirtual 50, 3) := by decide +kernel
theorem dX8_answerArrives_7 : decode cX8_answerArrives 7 = .ok (.iload_n 2, 1) := by decide +kernel
theorem dX8_answerArrives_8 : decode cX8_answerArrives 8 = .ok (.iconst 1, 1) := by decide +kernel
theorem dX8_answerArrives_9 : decode cX8_answerArrives 9 = .ok (.if_icmp .ne 73, 3) := by decide +kernel
theorem dX8_answerArrives_12 : decode cX8_answerArrives 12 = .ok (.aload_n 0, 1) := by decide +kernel
theorem dX8_answerArrives_13 : decode cX8_answerArrives 13 = .ok (.iload_n 1, 1) := by decide +kernel
theorem dX8_answerArrives_14 : decode cX8_answerArrives 14 = .ok (.iconst 0, 1) := by decide +kernel
theorem dX8_answerArrives_15 : decode cX8_answerArrives 15 = .ok (.iconst 0, 1) := by decide +kernel
theorem dX8_answerArrives_16 : decode cX8_answerArrives 16 = .ok (.invokevirtual 50, 3) := by decide +kernel
theorem dX8_answerArrives_19 : decode cX8_answerArrives 19 = .ok (.aload_n 0, 1) := by decide +kernel
theorem dX8_answerArrives_20 : decode cX8_answerArrives 20 = .ok (.iload_n 1, 1) := by decide +kernel
theorem dX8_answerArrives_21 : decode cX8_answerArrives 21 = .ok (.iconst 0, 1) := by decide +kernel
theorem dX8_answerArrives_22 : decode cX8_answerArrives 22 = .ok (.iconst 0, 1) := by decide +kernel
theorem dX8_answerArrives_23 : decode cX8_answerArrives 23 = .ok (.iconst 0, 1) := by decide +kernel
theorem dX8_answerArrives_24 : decode cX8_answerArrives 24 = .ok (.invokevirtual 54, 3) := by decide +kernel
theorem dX8_answerArrives_27 : decode cX8_answerArrives 27 = .ok (.iload_n 1, 1) := by decide +kernel
theorem dX8_answerArrives_28 : decode cX8_answerArrives 28 = .ok (.ifCond .le 15, 3) := by decide +kernel
theorem dX8_answerArrives_31 : decode cX8_answerArrives 31 = .ok (.aload_n 0, 1) := by decide +kernel
theorem dX8_answerArrives_32 : decode cX8_answerArrives 32 = .ok (.getfield 7, 3) := by decide +kernel
theorem dX8_answerArrives_35 : decode cX8_answerArrives 35 = .ok (.bipush 97, 2) := by decide +kernel
theorem dX8_answerArrives_37 : decode cX8_answerArrives 37 = .ok (.iload_n 1, 1) := by decide +kernel
theorem dX8_answerArrives_38 : decode cX8_answerArrives 38 = .ok (.iadd, 1) := by decide +kernel
theorem dX8_answerArrives_39 : decode cX8_answerArrives 39 = .ok (.iconst 1, 1) := by decide +kernel
theorem dX8_answerArrives_40 : decode cX8_answerArrives 40 = .ok (.isub, 1) := by decide +kernel
theorem dX8_answerArrives_41 : decode cX8_answerArrives 41 = .ok (.iconst 0, 1) := by decide +kernel
theorem dX8_answerArrives_42 : decode cX8_answerArrives 42 = .ok (.iastore, 1) := by decide +kernel
theorem dX8_answerArrives_43 : decode cX8_answerArrives 43 = .ok (.iload_n 1, 1) := by decide +kernel
theorem dX8_answerArrives_44 : decode cX8_answerArrives 44 = .ok (.ifCond .le 37, 3) := by decide +kernel
theorem dX8_answerArrives_47 : decode cX8_answerArrives 47 = .ok (.aload_n 0, 1) := by decide +kernel
theorem dX8_answerArrives_48 : decode cX8_answerArrives 48 = .ok (.getfield 7, 3) := by decide +kernel
theorem dX8_answerArrives_51 : decode cX8_answerArrives 51 = .ok (.bipush 83, 2) := by decide +kernel
theorem dX8_answerArrives_53 : decode cX8_answerArrives 53 = .ok (.iload_n 1, 1) := by decide +kernel
theorem dX8_answerArrives_54 : decode cX8_answerArrives 54 = .ok (.iadd, 1) := by decide +kernel
theorem dX8_answerArrives_55 : decode cX8_answerArrives 55 = .ok (.iconst 1, 1) := by decide +kernel
theorem dX8_answerArrives_56 : decode cX8_answerArrives 56 = .ok (.isub, 1) := by decide +kernel
theorem dX8_answerArrives_57 : decode cX8_answerArrives 57 = .ok (.iaload, 1) := by decide +kernel
theorem dX8_answerArrives_58 : decode cX8_answerArrives 58 = .ok (.iconst 1, 1) := by decide +kernel
theorem dX8_answerArrives_59 : decode cX8_answerArrives 59 = .ok (.if_icmp .ne 22, 3) := by decide +kernel
theorem dX8_answerArrives_62 : decode cX8_answerArrives 62 = .ok (.aload_n 0, 1) := by decide +kernel
theorem dX8_answerArrives_63 : decode cX8_answerArrives 63 = .ok (.getfield 7, 3) := by decide +kernel
theorem dX8_answerArrives_66 : decode cX8_answerArrives 66 = .ok (.bipush 83, 2) := by decide +kernel
theorem dX8_answerArrives_68 : decode cX8_answerArrives 68 = .ok (.iload_n 1, 1) := by decide +kernel
theorem dX8_answerArrives_69 : decode cX8_answerArrives 69 = .ok (.iadd, 1) := by decide +kernel
theorem dX8_answerArrives_70 : decode cX8_answerArrives 70 = .ok (.iconst 1, 1) := by decide +kernel
theorem dX8_answerArrives_71 : decode cX8_answerArrives 71 = .ok (.isub, 1) := by decide +kernel
theorem dX8_answerArrives_72 : decode cX8_answerArrives 72 = .ok (.iconst 0, 1) := by decide +kernel
theorem dX8_answerArrives_73 : decode cX8_answerArrives 73 = .ok (.iastore, 1) := by decide +kernel
theorem dX8_answerArrives_74 : decode cX8_answerArrives 74 = .ok (.aload_n 0, 1) := by decide +kernel
theorem dX8_answerArrives_75 : decode cX8_answerArrives 75 = .ok (.iload_n 1, 1) := by decide +kernel
theorem dX8_answerArrives_76 : decode cX8_answerArrives 76 = .ok (.iconst 1, 1) := by decide +kernel
theorem dX8_answerArrives_77 : decode cX8_answerArrives 77 = .ok (.isub, 1) := by decide +kernel
theorem dX8_answerArrives_78 : decode cX8_answerArrives 78 = .ok (.invokevirtual 72, 3) := by decide +kernel
theorem dX8_answerArrives_81 : decode cX8_answerArrives 81 = .ok (.return_, 1) := by decide +kernel
theorem dX8_answerArrives_82 : decode cX8_answerArrives 82 = .ok (.aload_n 0, 1) := by decide +kernel
theorem dX8_answerArrives_83 : decode cX8_answerArrives 83 = .ok (.getfield 7, 3) := by decide +kernel
theorem dX8_answerArrives_86 : decode cX8_answerArrives 86 = .ok (.bipush 76, 2) := by decide +kernel
theorem dX8_answerArrives_88 : decode cX8_answerArrives 88 = .ok (.iload_n 1, 1) := by decide +kernel
theorem dX8_answerArrives_89 : decode cX8_answerArrives 89 = .ok (.iadd, 1) := by decide +kernel
theorem dX8_answerArrives_90 : decode cX8_answerArrives 90 = .ok (.iconst 1, 1) := by decide +kernel
theorem dX8_answerArrives_91 : decode cX8_answerArrives 91 = .ok (.iastore, 1) := by decide +kernel
theorem dX8_answerArrives_92 : decode cX8_answerArrives 92 = .ok (.iload_n 1, 1) := by decide +kernel
theorem dX8_answerArrives_93 : decode cX8_answerArrives 93 = .ok (.ifCond .ne 10, 3) := by decide +kernel
theorem dX8_answerArrives_96 : decode cX8_answerArrives 96 = .ok (.aload_n 0, 1) := by decide +kernel
theorem dX8_answerArrives_97 : decode cX8_answerArrives 97 = .ok (.invokevirtual 75, 3) := by decide +kernel
theorem dX8_answerArrives_100 : decode cX8_answerArrives 100 = .ok (.goto 34, 3) := by decide +kernel
theorem dX8_answerArrives_103 : decode cX8_answerArrives 103 = .ok (.aload_n 0, 1) := by decide +kernel
theorem dX8_answerArrives_104 : decode cX8_answerArrives 104 = .ok (.getfield 7, 3) := by decide +kernel
theorem dX8_answerArrives_107 : decode cX8_answerArrives 107 = .ok (.bipush 97, 2) := by decide +kernel
theorem dX8_answerArrives_109 : decode cX8_answerArrives 109 = .ok (.iload_n 1, 1) := by decide +kernel
theorem dX8_answerArrives_110 : decode cX8_answerArrives 110 = .ok (.iadd, 1) := by decide +kernel
theorem dX8_answerArrives_111 : decode cX8_answerArrives 111 = .ok (.iconst 1, 1) := by decide +kernel
theorem dX8_answerArrives_112 : decode cX8_answerArrives 112 = .ok (.isub, 1) := by decide +kernel
theorem dX8_answerArrives_113 : decode cX8_answerArrives 113 = .ok (.iaload, 1) := by decide +kernel
theorem dX8_answerArrives_114 : decode cX8_answerArrives 114 = .ok (.iconst 1, 1) := by decide +kernel
theorem dX8_answerArrives_115 : decode cX8_answerArrives 115 = .ok (.if_icmp .ne 19, 3) := by decide +kernel
theorem dX8_answerArrives_118 : decode cX8_answerArrives 118 = .ok (.aload_n 0, 1) := by decide +kernel
theorem dX8_answerArrives_119 : decode cX8_answerArrives 119 = .ok (.iload_n 1, 1) := by decide +kernel
theorem dX8_answerArrives_120 : decode cX8_answerArrives 120 = .ok (.aload_n 0, 1) := by decide +kernel
theorem dX8_answerArrives_121 : decode cX8_answerArrives 121 = .ok (.getfield 7, 3) := by decide +kernel
theorem dX8_answerArrives_124 : decode cX8_answerArrives 124 = .ok (.bipush 103, 2) := by decide +kernel
theorem dX8_answerArrives_126 : decode cX8_answerArrives 126 = .ok (.iload_n 1, 1) := by decide +kernel
theorem dX8_answerArrives_127 : decode cX8_answerArrives 127 = .ok (.iadd, 1) := by decide +kernel
theorem dX8_answerArrives_128 : decode cX8_answerArrives 128 = .ok (.iconst 1, 1) := by decide +kernel
theorem dX8_answerArrives_129 : decode cX8_answerArrives 129 = .ok (.isub, 1) := by decide +kernel
theorem dX8_answerArrives_130 : decode cX8_answerArrives 130 = .ok (.iaload, 1) := by decide +kernel
theorem dX8_answerArrives_131 : decode cX8_answerArrives 131 = .ok (.invokevirtual 65, 3) := by decide +kernel
theorem dX8_answerArrives_134 : decode cX8_answerArrives 134 = .ok (.return_, 1) := by decide +kernel
theorem dX8_whenOf_0 : decode cX8_whenOf 0 = .ok (.aload_n 0, 1) := by decide +kernel
theorem dX8_whenOf_1 : decode cX8_whenOf 1 = .ok (.getfield 7, 3) := by decide +kernel
theorem dX8_whenOf_4 : decode cX8_whenOf 4 = .ok (.sipush 319, 3) := by decide +kernel
theorem dX8_whenOf_7 : decode cX8_whenOf 7 = .ok (.iconst 4, 1) := by decide +kernel
theorem dX8_whenOf_8 : decode cX8_whenOf 8 = .ok (.iload_n 1, 1) := by decide +kernel
theorem dX8_whenOf_9 : decode cX8_whenOf 9 = .ok (.imul, 1) := by decide +kernel
theorem dX8_whenOf_10 : decode cX8_whenOf 10 = .ok (.iadd, 1) := by decide +kernel
theorem dX8_whenOf_11 : decode cX8_whenOf 11 = .ok (.iconst 0, 1) := by decide +kernel
theorem dX8_whenOf_12 : decode cX8_whenOf 12 = .ok (.iadd, 1) := by decide +kernel
theorem dX8_whenOf_13 : decode cX8_whenOf 13 = .ok (.iaload, 1) := by decide +kernel
theorem dX8_whenOf_14 : decode cX8_whenOf 14 = .ok (.ireturn, 1) := by decide +kernel
set_option maxRecDepth 20000 in
theorem ggX8_nextChange_X8_whenOf : GoodIn wsX8_nextChange wsX8_whenOf := goodIn_r _ [6, 1, 7, 8, 9, 10, 11, 12, 13, 14, 15, 16, 17, 18] (by decide +kernel) (by decide +kernel)
set_option maxRecDepth 20000 in
theorem gX8_nextChange_X8_whenOf : GoodIn wsX8_nextChange (wsV RX8 78 RX8 yX8_whenOf wsX8_whenOf) := goodIn_app (goodIn_of _ (by decide +kernel)) ggX8_nextChange_X8_whenOf
theorem dX8_nextChange_0 : decode cX8_nextChange 0 = .ok (.bipush (-5), 2) := by decide +kernel
theorem dX8_nextChange_2 : decode cX8_nextChange 2 = .ok (.istore_n 1, 1) := by decide +kernel
theorem dX8_nextChange_3 : decode cX8_nextChange 3 = .ok (.iconst 0, 1) := by decide +kernel
theorem dX8_nextChange_4 : decode cX8_nextChange 4 = .ok (.istore_n 2, 1) := by decide +kernel
theorem dX8_nextChange_5 : decode cX8_nextChange 5 = .ok (.iload_n 2, 1) := by decide +kernel
theorem dX8_nextChange_6 : decode cX8_nextChange 6 = .ok (.aload_n 0, 1) := by decide +kernel
theorem dX8_nextChange_7 : decode cX8_nextChange 7 = .ok (.getfield 7, 3) := by decide +kernel
theorem dX8_nextChange_10 : decode cX8_nextChange 10 = .ok (.bipush 10, 2) := by decide +kernel
theorem dX8_nextChange_12 : decode cX8_nextChange 12 = .ok (.iaload, 1) := by decide +kernel
theorem dX8_nextChange_13 : decode cX8_nextChange 13 = .ok (.if_icmp .ge 34, 3) := by decide +kernel
theorem dX8_nextChange_16 : decode cX8_nextChange 16 = .ok (.iload_n 1, 1) := by decide +kernel
theorem dX8_nextChange_17 : decode cX8_nextChange 17 = .ok (.bipush (-5), 2) := by decide +kernel
theorem dX8_nextChange_19 : decode cX8_nextChange 19 = .ok (.if_icmp .eq 16, 3) := by decide +kernel
theorem dX8_nextChange_22 : decode cX8_nextChange 22 = .ok (.aload_n 0, 1) := by decide +kernel
theorem dX8_nextChange_23 : decode cX8_nextChange 23 = .ok (.iload_n 2, 1) := by decide +kernel
theorem dX8_nextChange_24 : decode cX8_nextChange 24 = .ok (.invokevirtual 78, 3) := by decide +kernel
theorem dX8_nextChange_27 : decode cX8_nextChange 27 = .ok (.aload_n 0, 1) := by decide +kernel
theorem dX8_nextChange_28 : decode cX8_nextChange 28 = .ok (.iload_n 1, 1) := by decide +kernel
theorem dX8_nextChange_29 : decode cX8_nextChange 29 = .ok (.invokevirtual 78, 3) := by decide +kernel
theorem dX8_nextChange_32 : decode cX8_nextChange 32 = .ok (.if_icmp .ge 7, 3) := by decide +kernel
theorem dX8_nextChange_35 : decode cX8_nextChange 35 = .ok (.iload_n 2, 1) := by decide +kernel
theorem dX8_nextChange_36 : decode cX8_nextChange 36 = .ok (.goto 4, 3) := by decide +kernel
theorem dX8_nextChange_39 : decode cX8_nextChange 39 = .ok (.iload_n 1, 1) := by decide +kernel
theorem dX8_nextChange_40 : decode cX8_nextChange 40 = .ok (.istore_n 1, 1) := by decide +kernel
theorem dX8_nextChange_41 : decode cX8_nextChange 41 = .ok (.iinc 2 1, 3) := by decide +kernel
theorem dX8_nextChange_44 : decode cX8_nextChange 44 = .ok (.goto (-39), 3) := by decide +kernel
theorem dX8_nextChange_47 : decode cX8_nextChange 47 = .ok (.iload_n 1, 1) := by decide +kernel
theorem dX8_nextChange_48 : decode cX8_nextChange 48 = .ok (.ireturn, 1) := by decide +kernel
set_option maxRecDepth 20000 in
theorem ggX8_arrive_X8_requestArrives : GoodIn wsX8_arrive wsX8_requestArrives := goodIn_r _ [6, 1, 7, 8, 9, 5, 10, 11, 12, 13, 14, 15, 16, 17, 18, 19, 20, 21, 22, 23, 24, 25, 26, 27, 28, 29, 30, 31, 32, 33, 34, 43, 44, 45, 46, 47, 48, 49, 50, 51, 52, 53, 54] (by decide +kernel) (by decide +kernel)
set_option maxRecDepth 20000 in
theorem gX8_arrive_X8_requestArrives : GoodIn wsX8_arrive (wsV RX8 82 RX8 yX8_requestArrives wsX8_requestArrives) := goodIn_app (goodIn_of _ (by decide +kernel)) ggX8_arrive_X8_requestArrives
set_option maxRecDepth 20000 in
theorem ggX8_arrive_X8_answerArrives : GoodIn wsX8_arrive wsX8_answerArrives := goodIn_r _ [38, 1, 7, 8, 9, 5, 10, 15, 16, 17, 18, 27, 28, 29, 30, 23, 24, 25, 26, 11, 12, 13, 14, 31, 32, 33, 34, 39, 40, 41, 42, 43, 44, 45, 46, 47, 48, 49, 50, 51, 52, 53, 54] (by decide +kernel) (by decide +kernel)
set_option maxRecDepth 20000 in
theorem gX8_arrive_X8_answerArrives : GoodIn wsX8_arrive (wsV RX8 85 RX8 yX8_answerArrives wsX8_answerArrives) := goodIn_app (goodIn_of _ (by decide +kernel)) ggX8_arrive_X8_answerArrives
set_option maxRecDepth 20000 in
theorem ggX8_arrive_X8_setEnd : GoodIn wsX8_arrive wsX8_setEnd := goodIn_r _ [10, 1, 43, 44, 45, 46, 47, 48, 49, 50, 51, 52, 53, 54] (by decide +kernel) (by decide +kernel)
set_option maxRecDepth 20000 in
theorem gX8_arrive_X8_setEnd : GoodIn wsX8_arrive (wsV RX8 50 RX8 yX8_setEnd wsX8_setEnd) := goodIn_app (goodIn_of _ (by decide +kernel)) ggX8_arrive_X8_setEnd
theorem dX8_arrive_0 : decode cX8_arrive 0 = .ok (.sipush 319, 3) := by decide +kernel
theorem dX8_arrive_3 : decode cX8_arrive 3 = .ok (.iconst 4, 1) := by decide +kernel
theorem dX8_arrive_4 : decode cX8_arrive 4 = .ok (.iload_n 1, 1) := by decide +kernel
theorem dX8_arrive_5 : decode cX8_arrive 5 = .ok (.imul, 1) := by decide +kernel
theorem dX8_arrive_6 : decode cX8_arrive 6 = .ok (.iadd, 1) := by decide +kernel
theorem dX8_arrive_7 : decode cX8_arrive 7 = .ok (.istore_n 2, 1) := by decide +kernel
theorem dX8_arrive_8 : decode cX8_arrive 8 = .ok (.aload_n 0, 1) := by decide +kernel
theorem dX8_arrive_9 : decode cX8_arrive 9 = .ok (.getfield 7, 3) := by decide +kernel
theorem dX8_arrive_12 : decode cX8_arrive 12 = .ok (.iload_n 2, 1) := by decide +kernel
theorem dX8_arrive_13 : decode cX8_arrive 13 = .ok (.iconst 1, 1) := by decide +kernel
theorem dX8_arrive_14 : decode cX8_arrive 14 = .ok (.iadd, 1) := by decide +kernel
theorem dX8_arrive_15 : decode cX8_arrive 15 = .ok (.iaload, 1) := by decide +kernel
theorem dX8_arrive_16 : decode cX8_arrive 16 = .ok (.istore_n 3, 1) := by decide +kernel
theorem dX8_arrive_17 : decode cX8_arrive 17 = .ok (.aload_n 0, 1) := by decide +kernel
theorem dX8_arrive_18 : decode cX8_arrive 18 = .ok (.getfield 7, 3) := by decide +kernel
theorem dX8_arrive_21 : decode cX8_arrive 21 = .ok (.iload_n 2, 1) := by decide +kernel
theorem dX8_arrive_22 : decode cX8_arrive 22 = .ok (.iconst 2, 1) := by decide +kernel
theorem dX8_arrive_23 : decode cX8_arrive 23 = .ok (.iadd, 1) := by decide +kernel
theorem dX8_arrive_24 : decode cX8_arrive 24 = .ok (.iaload, 1) := by decide +kernel
theorem dX8_arrive_25 : decode cX8_arrive 25 = .ok (.istore 4, 2) := by decide +kernel
theorem dX8_arrive_27 : decode cX8_arrive 27 = .ok (.aload_n 0, 1) := by decide +kernel
theorem dX8_arrive_28 : decode cX8_arrive 28 = .ok (.getfield 7, 3) := by decide +kernel
theorem dX8_arrive_31 : decode cX8_arrive 31 = .ok (.iload_n 2, 1) := by decide +kernel
theorem dX8_arrive_32 : decode cX8_arrive 32 = .ok (.iconst 3, 1) := by decide +kernel
theorem dX8_arrive_33 : decode cX8_arrive 33 = .ok (.iadd, 1) := by decide +kernel
theorem dX8_arrive_34 : decode cX8_arrive 34 = .ok (.iaload, 1) := by decide +kernel
theorem dX8_arrive_35 : decode cX8_arrive 35 = .ok (.istore 5, 2) := by decide +kernel
theorem dX8_arrive_37 : decode cX8_arrive 37 = .ok (.aload_n 0, 1) := by decide +kernel
theorem dX8_arrive_38 : decode cX8_arrive 38 = .ok (.getfield 7, 3) := by decide +kernel
theorem dX8_arrive_41 : decode cX8_arrive 41 = .ok (.iconst 4, 1) := by decide +kernel
theorem dX8_arrive_42 : decode cX8_arrive 42 = .ok (.aload_n 0, 1) := by decide +kernel
theorem dX8_arrive_43 : decode cX8_arrive 43 = .ok (.getfield 7, 3) := by decide +kernel
theorem dX8_arrive_46 : decode cX8_arrive 46 = .ok (.iload_n 2, 1) := by decide +kernel
theorem dX8_arrive_47 : decode cX8_arrive 47 = .ok (.iconst 0, 1) := by decide +kernel
theorem dX8_arrive_48 : decode cX8_arrive 48 = .ok (.iadd, 1) := by decide +kernel
theorem dX8_arrive_49 : decode cX8_arrive 49 = .ok (.iaload, 1) := by decide +kernel
theorem dX8_arrive_50 : decode cX8_arrive 50 = .ok (.iastore, 1) := by decide +kernel
theorem dX8_arrive_51 : decode cX8_arrive 51 = .ok (.aload_n 0, 1) := by decide +kernel
theorem dX8_arrive_52 : decode cX8_arrive 52 = .ok (.getfield 7, 3) := by decide +kernel
theorem dX8_arrive_55 : decode cX8_arrive 55 = .ok (.bipush 10, 2) := by decide +kernel
theorem dX8_arrive_57 : decode cX8_arrive 57 = .ok (.dup2, 1) := by decide +kernel
theorem dX8_arrive_58 : decode cX8_arrive 58 = .ok (.iaload, 1) := by decide +kernel
theorem dX8_arrive_59 : decode cX8_arrive 59 = .ok (.iconst 1, 1) := by decide +kernel
theorem dX8_arrive_60 : decode cX8_arrive 60 = .ok (.isub, 1) := by decide +kernel
theorem dX8_arrive_61 : decode cX8_arrive 61 = .ok (.iastore, 1) := by decide +kernel
theorem dX8_arrive_62 : decode cX8_arrive 62 = .ok (.iload_n 2, 1) := by decide +kernel
theorem dX8_arrive_63 : decode cX8_arrive 63 = .ok (.istore 6, 2) := by decide +kernel
theorem dX8_arrive_65 : decode cX8_arrive 65 = .ok (.iload 6, 2) := by decide +kernel
theorem dX8_arrive_67 : decode cX8_arrive 67 = .ok (.sipush 319, 3) := by decide +kernel
theorem dX8_arrive_70 : decode cX8_arrive 70 = .ok (.iconst 4, 1) := by decide +kernel
theorem dX8_arrive_71 : decode cX8_arrive 71 = .ok (.aload_n 0, 1) := by decide +kernel
theorem dX8_arrive_72 : decode cX8_arrive 72 = .ok (.getfield 7, 3) := by decide +kernel
theorem dX8_arrive_75 : decode cX8_arrive 75 = .ok (.bipush 10, 2) := by decide +kernel
theorem dX8_arrive_77 : decode cX8_arrive 77 = .ok (.iaload, 1) := by decide +kernel
theorem dX8_arrive_78 : decode cX8_arrive 78 = .ok (.imul, 1) := by decide +kernel
theorem dX8_arrive_79 : decode cX8_arrive 79 = .ok (.iadd, 1) := by decide +kernel
theorem dX8_arrive_80 : decode cX8_arrive 80 = .ok (.if_icmp .ge 25, 3) := by decide +kernel
theorem dX8_arrive_83 : decode cX8_arrive 83 = .ok (.aload_n 0, 1) := by decide +kernel
theorem dX8_arrive_84 : decode cX8_arrive 84 = .ok (.getfield 7, 3) := by decide +kernel
theorem dX8_arrive_87 : decode cX8_arrive 87 = .ok (.iload 6, 2) := by decide +kernel
theorem dX8_arrive_89 : decode cX8_arrive 89 = .ok (.aload_n 0, 1) := by decide +kernel
theorem dX8_arrive_90 : decode cX8_arrive 90 = .ok (.getfield 7, 3) := by decide +kernel
theorem dX8_arrive_93 : decode cX8_arrive 93 = .ok (.iload 6, 2) := by decide +kernel
theorem dX8_arrive_95 : decode cX8_arrive 95 = .ok (.iconst 4, 1) := by decide +kernel
theorem dX8_arrive_96 : decode cX8_arrive 96 = .ok (.iadd, 1) := by decide +kernel
theorem dX8_arrive_97 : decode cX8_arrive 97 = .ok (.iaload, 1) := by decide +kernel
theorem dX8_arrive_98 : decode cX8_arrive 98 = .ok (.iastore, 1) := by decide +kernel
theorem dX8_arrive_99 : decode cX8_arrive 99 = .ok (.iinc 6 1, 3) := by decide +kernel
