theorem dX7_accept_7 : decode cX7_accept 7 = .ok (.getfield 29, 3) := by decide +kernel
theorem dX7_accept_10 : decode cX7_accept 10 = .ok (.aload_n 0, 1) := by decide +kernel
theorem dX7_accept_11 : decode cX7_accept 11 = .ok (.getfield 12, 3) := by decide +kernel
theorem dX7_accept_14 : decode cX7_accept 14 = .ok (.invokevirtual 186, 3) := by decide +kernel
theorem dX7_accept_17 : decode cX7_accept 17 = .ok (.aload_n 0, 1) := by decide +kernel
theorem dX7_accept_18 : decode cX7_accept 18 = .ok (.getfield 12, 3) := by decide +kernel
theorem dX7_accept_21 : decode cX7_accept 21 = .ok (.aload_n 0, 1) := by decide +kernel
theorem dX7_accept_22 : decode cX7_accept 22 = .ok (.getfield 16, 3) := by decide +kernel
theorem dX7_accept_25 : decode cX7_accept 25 = .ok (.invokevirtual 40, 3) := by decide +kernel
theorem dX7_accept_28 : decode cX7_accept 28 = .ok (.iload_n 1, 1) := by decide +kernel
theorem dX7_accept_29 : decode cX7_accept 29 = .ok (.ireturn, 1) := by decide +kernel
theorem dL_cell_0 : decode cL_cell 0 = .ok (.iload_n 1, 1) := by decide +kernel
theorem dL_cell_1 : decode cL_cell 1 = .ok (.aload_n 0, 1) := by decide +kernel
theorem dL_cell_2 : decode cL_cell 2 = .ok (.arraylength, 1) := by decide +kernel
theorem dL_cell_3 : decode cL_cell 3 = .ok (.if_icmp .ge 9, 3) := by decide +kernel
theorem dL_cell_6 : decode cL_cell 6 = .ok (.aload_n 0, 1) := by decide +kernel
theorem dL_cell_7 : decode cL_cell 7 = .ok (.iload_n 1, 1) := by decide +kernel
theorem dL_cell_8 : decode cL_cell 8 = .ok (.iaload, 1) := by decide +kernel
theorem dL_cell_9 : decode cL_cell 9 = .ok (.goto 13, 3) := by decide +kernel
theorem dL_cell_12 : decode cL_cell 12 = .ok (.ldc 7, 2) := by decide +kernel
theorem dL_cell_14 : decode cL_cell 14 = .ok (.iload_n 1, 1) := by decide +kernel
theorem dL_cell_15 : decode cL_cell 15 = .ok (.bipush 7, 2) := by decide +kernel
theorem dL_cell_17 : decode cL_cell 17 = .ok (.iadd, 1) := by decide +kernel
theorem dL_cell_18 : decode cL_cell 18 = .ok (.imul, 1) := by decide +kernel
theorem dL_cell_19 : decode cL_cell 19 = .ok (.ldc 8, 2) := by decide +kernel
theorem dL_cell_21 : decode cL_cell 21 = .ok (.iadd, 1) := by decide +kernel
theorem dL_cell_22 : decode cL_cell 22 = .ok (.ireturn, 1) := by decide +kernel
theorem dL_low_0 : decode cL_low 0 = .ok (.iload_n 0, 1) := by decide +kernel
theorem dL_low_1 : decode cL_low 1 = .ok (.ldc 9, 2) := by decide +kernel
theorem dL_low_3 : decode cL_low 3 = .ok (.iand, 1) := by decide +kernel
theorem dL_low_4 : decode cL_low 4 = .ok (.iload_n 1, 1) := by decide +kernel
theorem dL_low_5 : decode cL_low 5 = .ok (.irem, 1) := by decide +kernel
theorem dL_low_6 : decode cL_low 6 = .ok (.ireturn, 1) := by decide +kernel
theorem dL_makes_0 : decode cL_makes 0 = .ok (.aload 6, 2) := by decide +kernel
theorem dL_makes_2 : decode cL_makes 2 = .ok (.aload 4, 2) := by decide +kernel
theorem dL_makes_4 : decode cL_makes 4 = .ok (.bipush 10, 2) := by decide +kernel
theorem dL_makes_6 : decode cL_makes 6 = .ok (.iaload, 1) := by decide +kernel
theorem dL_makes_7 : decode cL_makes 7 = .ok (.aload 4, 2) := by decide +kernel
theorem dL_makes_9 : decode cL_makes 9 = .ok (.iconst 4, 1) := by decide +kernel
theorem dL_makes_10 : decode cL_makes 10 = .ok (.iaload, 1) := by decide +kernel
theorem dL_makes_11 : decode cL_makes 11 = .ok (.aload 5, 2) := by decide +kernel
theorem dL_makes_13 : decode cL_makes 13 = .ok (.iconst 3, 1) := by decide +kernel
theorem dL_makes_14 : decode cL_makes 14 = .ok (.iload_n 0, 1) := by decide +kernel
theorem dL_makes_15 : decode cL_makes 15 = .ok (.imul, 1) := by decide +kernel
theorem dL_makes_16 : decode cL_makes 16 = .ok (.iload_n 1, 1) := by decide +kernel
theorem dL_makes_17 : decode cL_makes 17 = .ok (.iadd, 1) := by decide +kernel
theorem dL_makes_18 : decode cL_makes 18 = .ok (.iaload, 1) := by decide +kernel
theorem dL_makes_19 : decode cL_makes 19 = .ok (.iadd, 1) := by decide +kernel
theorem dL_makes_20 : decode cL_makes 20 = .ok (.iload_n 3, 1) := by decide +kernel
theorem dL_makes_21 : decode cL_makes 21 = .ok (.iadd, 1) := by decide +kernel
theorem dL_makes_22 : decode cL_makes 22 = .ok (.iastore, 1) := by decide +kernel
theorem dL_makes_23 : decode cL_makes 23 = .ok (.aload 7, 2) := by decide +kernel
theorem dL_makes_25 : decode cL_makes 25 = .ok (.aload 4, 2) := by decide +kernel
theorem dL_makes_27 : decode cL_makes 27 = .ok (.bipush 10, 2) := by decide +kernel
theorem dL_makes_29 : decode cL_makes 29 = .ok (.iaload, 1) := by decide +kernel
theorem dL_makes_30 : decode cL_makes 30 = .ok (.bipush 96, 2) := by decide +kernel
theorem dL_makes_32 : decode cL_makes 32 = .ok (.iload_n 0, 1) := by decide +kernel
theorem dL_makes_33 : decode cL_makes 33 = .ok (.imul, 1) := by decide +kernel
theorem dL_makes_34 : decode cL_makes 34 = .ok (.bipush 32, 2) := by decide +kernel
theorem dL_makes_36 : decode cL_makes 36 = .ok (.iload_n 1, 1) := by decide +kernel
theorem dL_makes_37 : decode cL_makes 37 = .ok (.imul, 1) := by decide +kernel
theorem dL_makes_38 : decode cL_makes 38 = .ok (.iadd, 1) := by decide +kernel
theorem dL_makes_39 : decode cL_makes 39 = .ok (.iload_n 2, 1) := by decide +kernel
theorem dL_makes_40 : decode cL_makes 40 = .ok (.iadd, 1) := by decide +kernel
theorem dL_makes_41 : decode cL_makes 41 = .ok (.iastore, 1) := by decide +kernel
theorem dL_makes_42 : decode cL_makes 42 = .ok (.aload 4, 2) := by decide +kernel
theorem dL_makes_44 : decode cL_makes 44 = .ok (.bipush 10, 2) := by decide +kernel
theorem dL_makes_46 : decode cL_makes 46 = .ok (.dup2, 1) := by decide +kernel
theorem dL_makes_47 : decode cL_makes 47 = .ok (.iaload, 1) := by decide +kernel
theorem dL_makes_48 : decode cL_makes 48 = .ok (.iconst 1, 1) := by decide +kernel
theorem dL_makes_49 : decode cL_makes 49 = .ok (.iadd, 1) := by decide +kernel
theorem dL_makes_50 : decode cL_makes 50 = .ok (.iastore, 1) := by decide +kernel
theorem dL_makes_51 : decode cL_makes 51 = .ok (.return_, 1) := by decide +kernel
theorem dL_offers_0 : decode cL_offers 0 = .ok (.aload 4, 2) := by decide +kernel
theorem dL_offers_2 : decode cL_offers 2 = .ok (.bipush 6, 2) := by decide +kernel
theorem dL_offers_4 : decode cL_offers 4 = .ok (.iload_n 0, 1) := by decide +kernel
theorem dL_offers_5 : decode cL_offers 5 = .ok (.imul, 1) := by decide +kernel
theorem dL_offers_6 : decode cL_offers 6 = .ok (.iconst 2, 1) := by decide +kernel
theorem dL_offers_7 : decode cL_offers 7 = .ok (.iadd, 1) := by decide +kernel
theorem dL_offers_8 : decode cL_offers 8 = .ok (.iload_n 1, 1) := by decide +kernel
theorem dL_offers_9 : decode cL_offers 9 = .ok (.iastore, 1) := by decide +kernel
theorem dL_offers_10 : decode cL_offers 10 = .ok (.iload_n 0, 1) := by decide +kernel
theorem dL_offers_11 : decode cL_offers 11 = .ok (.iconst 2, 1) := by decide +kernel
theorem dL_offers_12 : decode cL_offers 12 = .ok (.iload_n 1, 1) := by decide +kernel
theorem dL_offers_13 : decode cL_offers 13 = .ok (.iconst 0, 1) := by decide +kernel
theorem dL_offers_14 : decode cL_offers 14 = .ok (.aload_n 2, 1) := by decide +kernel
theorem dL_offers_15 : decode cL_offers 15 = .ok (.aload_n 3, 1) := by decide +kernel
theorem dL_offers_16 : decode cL_offers 16 = .ok (.aload 6, 2) := by decide +kernel
theorem dL_offers_18 : decode cL_offers 18 = .ok (.aload 7, 2) := by decide +kernel
theorem dL_offers_20 : decode cL_offers 20 = .ok (.invokestatic 10, 3) := by decide +kernel
theorem dL_offers_23 : decode cL_offers 23 = .ok (.aload 4, 2) := by decide +kernel
theorem dL_offers_25 : decode cL_offers 25 = .ok (.bipush 6, 2) := by decide +kernel
theorem dL_offers_27 : decode cL_offers 27 = .ok (.iload_n 0, 1) := by decide +kernel
theorem dL_offers_28 : decode cL_offers 28 = .ok (.imul, 1) := by decide +kernel
theorem dL_offers_29 : decode cL_offers 29 = .ok (.iconst 1, 1) := by decide +kernel
theorem dL_offers_30 : decode cL_offers 30 = .ok (.iastore, 1) := by decide +kernel
theorem dL_offers_31 : decode cL_offers 31 = .ok (.iload_n 0, 1) := by decide +kernel
theorem dL_offers_32 : decode cL_offers 32 = .ok (.iconst 0, 1) := by decide +kernel
theorem dL_offers_33 : decode cL_offers 33 = .ok (.iconst 1, 1) := by decide +kernel
theorem dL_offers_34 : decode cL_offers 34 = .ok (.aload_n 2, 1) := by decide +kernel
theorem dL_offers_35 : decode cL_offers 35 = .ok (.iconst 0, 1) := by decide +kernel
theorem dL_offers_36 : decode cL_offers 36 = .ok (.iaload, 1) := by decide +kernel
theorem dL_offers_37 : decode cL_offers 37 = .ok (.aload_n 2, 1) := by decide +kernel
theorem dL_offers_38 : decode cL_offers 38 = .ok (.aload_n 3, 1) := by decide +kernel
theorem dL_offers_39 : decode cL_offers 39 = .ok (.aload 6, 2) := by decide +kernel
theorem dL_offers_41 : decode cL_offers 41 = .ok (.aload 7, 2) := by decide +kernel
theorem dL_offers_43 : decode cL_offers 43 = .ok (.invokestatic 10, 3) := by decide +kernel
theorem dL_offers_46 : decode cL_offers 46 = .ok (.aload 5, 2) := by decide +kernel
theorem dL_offers_48 : decode cL_offers 48 = .ok (.iconst 3, 1) := by decide +kernel
theorem dL_offers_49 : decode cL_offers 49 = .ok (.iload_n 0, 1) := by decide +kernel
theorem dL_offers_50 : decode cL_offers 50 = .ok (.imul, 1) := by decide +kernel
theorem dL_offers_51 : decode cL_offers 51 = .ok (.iconst 0, 1) := by decide +kernel
theorem dL_offers_52 : decode cL_offers 52 = .ok (.iastore, 1) := by decide +kernel
theorem dL_offers_53 : decode cL_offers 53 = .ok (.aload 5, 2) := by decide +kernel
theorem dL_offers_55 : decode cL_offers 55 = .ok (.iconst 3, 1) := by decide +kernel
theorem dL_offers_56 : decode cL_offers 56 = .ok (.iload_n 0, 1) := by decide +kernel
theorem dL_offers_57 : decode cL_offers 57 = .ok (.imul, 1) := by decide +kernel
theorem dL_offers_58 : decode cL_offers 58 = .ok (.iconst 2, 1) := by decide +kernel
theorem dL_offers_59 : decode cL_offers 59 = .ok (.iadd, 1) := by decide +kernel
theorem dL_offers_60 : decode cL_offers 60 = .ok (.dup2, 1) := by decide +kernel
theorem dL_offers_61 : decode cL_offers 61 = .ok (.iaload, 1) := by decide +kernel
theorem dL_offers_62 : decode cL_offers 62 = .ok (.iconst 1, 1) := by decide +kernel
theorem dL_offers_63 : decode cL_offers 63 = .ok (.iadd, 1) := by decide +kernel
theorem dL_offers_64 : decode cL_offers 64 = .ok (.iastore, 1) := by decide +kernel
theorem dL_offers_65 : decode cL_offers 65 = .ok (.return_, 1) := by decide +kernel
theorem dL_takes_0 : decode cL_takes 0 = .ok (.aload 4, 2) := by decide +kernel
theorem dL_takes_2 : decode cL_takes 2 = .ok (.bipush 21, 2) := by decide +kernel
theorem dL_takes_4 : decode cL_takes 4 = .ok (.iload_n 0, 1) := by decide +kernel
theorem dL_takes_5 : decode cL_takes 5 = .ok (.iadd, 1) := by decide +kernel
theorem dL_takes_6 : decode cL_takes 6 = .ok (.aload_n 3, 1) := by decide +kernel
theorem dL_takes_7 : decode cL_takes 7 = .ok (.bipush 6, 2) := by decide +kernel
theorem dL_takes_9 : decode cL_takes 9 = .ok (.iload_n 0, 1) := by decide +kernel
theorem dL_takes_10 : decode cL_takes 10 = .ok (.imul, 1) := by decide +kernel
theorem dL_takes_11 : decode cL_takes 11 = .ok (.iconst 5, 1) := by decide +kernel
theorem dL_takes_12 : decode cL_takes 12 = .ok (.iadd, 1) := by decide +kernel
theorem dL_takes_13 : decode cL_takes 13 = .ok (.iaload, 1) := by decide +kernel
theorem dL_takes_14 : decode cL_takes 14 = .ok (.iastore, 1) := by decide +kernel
theorem dL_takes_15 : decode cL_takes 15 = .ok (.aload_n 3, 1) := by decide +kernel
theorem dL_takes_16 : decode cL_takes 16 = .ok (.bipush 6, 2) := by decide +kernel
theorem dL_takes_18 : decode cL_takes 18 = .ok (.iload_n 0, 1) := by decide +kernel
theorem dL_takes_19 : decode cL_takes 19 = .ok (.imul, 1) := by decide +kernel
theorem dL_takes_20 : decode cL_takes 20 = .ok (.iconst 4, 1) := by decide +kernel
theorem dL_takes_21 : decode cL_takes 21 = .ok (.iadd, 1) := by decide +kernel
theorem dL_takes_22 : decode cL_takes 22 = .ok (.iconst 1, 1) := by decide +kernel
theorem dL_takes_23 : decode cL_takes 23 = .ok (.iastore, 1) := by decide +kernel
theorem dL_takes_24 : decode cL_takes 24 = .ok (.iload_n 0, 1) := by decide +kernel
theorem dL_takes_25 : decode cL_takes 25 = .ok (.iconst 1, 1) := by decide +kernel
theorem dL_takes_26 : decode cL_takes 26 = .ok (.iconst 1, 1) := by decide +kernel
theorem dL_takes_27 : decode cL_takes 27 = .ok (.iconst 0, 1) := by decide +kernel
theorem dL_takes_28 : decode cL_takes 28 = .ok (.aload_n 1, 1) := by decide +kernel
theorem dL_takes_29 : decode cL_takes 29 = .ok (.aload_n 2, 1) := by decide +kernel
theorem dL_takes_30 : decode cL_takes 30 = .ok (.aload 5, 2) := by decide +kernel
theorem dL_takes_32 : decode cL_takes 32 = .ok (.aload 6, 2) := by decide +kernel
theorem dL_takes_34 : decode cL_takes 34 = .ok (.invokestatic 10, 3) := by decide +kernel
theorem dL_takes_37 : decode cL_takes 37 = .ok (.aload 4, 2) := by decide +kernel
theorem dL_takes_39 : decode cL_takes 39 = .ok (.iconst 3, 1) := by decide +kernel
theorem dL_takes_40 : decode cL_takes 40 = .ok (.iload_n 0, 1) := by decide +kernel
theorem dL_takes_41 : decode cL_takes 41 = .ok (.imul, 1) := by decide +kernel
theorem dL_takes_42 : decode cL_takes 42 = .ok (.iconst 3, 1) := by decide +kernel
theorem dL_takes_43 : decode cL_takes 43 = .ok (.iadd, 1) := by decide +kernel
theorem dL_takes_44 : decode cL_takes 44 = .ok (.iaload, 1) := by decide +kernel
theorem dL_takes_45 : decode cL_takes 45 = .ok (.iconst 1, 1) := by decide +kernel
theorem dL_takes_46 : decode cL_takes 46 = .ok (.if_icmp .ne 25, 3) := by decide +kernel
theorem dL_takes_49 : decode cL_takes 49 = .ok (.iload_n 0, 1) := by decide +kernel
theorem dL_takes_50 : decode cL_takes 50 = .ok (.iconst 1, 1) := by decide +kernel
theorem dL_takes_51 : decode cL_takes 51 = .ok (.iadd, 1) := by decide +kernel
theorem dL_takes_52 : decode cL_takes 52 = .ok (.aload 4, 2) := by decide +kernel
theorem dL_takes_54 : decode cL_takes 54 = .ok (.bipush 21, 2) := by decide +kernel
theorem dL_takes_56 : decode cL_takes 56 = .ok (.iload_n 0, 1) := by decide +kernel
theorem dL_takes_57 : decode cL_takes 57 = .ok (.iadd, 1) := by decide +kernel
theorem dL_takes_58 : decode cL_takes 58 = .ok (.iaload, 1) := by decide +kernel
theorem dL_takes_59 : decode cL_takes 59 = .ok (.aload_n 1, 1) := by decide +kernel
theorem dL_takes_60 : decode cL_takes 60 = .ok (.aload_n 2, 1) := by decide +kernel
theorem dL_takes_61 : decode cL_takes 61 = .ok (.aload_n 3, 1) := by decide +kernel
theorem dL_takes_62 : decode cL_takes 62 = .ok (.aload 4, 2) := by decide +kernel
theorem dL_takes_64 : decode cL_takes 64 = .ok (.aload 5, 2) := by decide +kernel
theorem dL_takes_66 : decode cL_takes 66 = .ok (.aload 6, 2) := by decide +kernel
theorem dL_takes_68 : decode cL_takes 68 = .ok (.invokestatic 16, 3) := by decide +kernel
theorem dL_takes_71 : decode cL_takes 71 = .ok (.return_, 1) := by decide +kernel
theorem dL_serves_0 : decode cL_serves 0 = .ok (.aload_n 3, 1) := by decide +kernel
theorem dL_serves_1 : decode cL_serves 1 = .ok (.iconst 0, 1) := by decide +kernel
theorem dL_serves_2 : decode cL_serves 2 = .ok (.iaload, 1) := by decide +kernel
theorem dL_serves_3 : decode cL_serves 3 = .ok (.ifCond .eq 17, 3) := by decide +kernel
theorem dL_serves_6 : decode cL_serves 6 = .ok (.aload_n 0, 1) := by decide +kernel
theorem dL_serves_7 : decode cL_serves 7 = .ok (.bipush 11, 2) := by decide +kernel
theorem dL_serves_9 : decode cL_serves 9 = .ok (.iaload, 1) := by decide +kernel
theorem dL_serves_10 : decode cL_serves 10 = .ok (.ifCond .ne 11, 3) := by decide +kernel
theorem dL_serves_13 : decode cL_serves 13 = .ok (.aload_n 0, 1) := by decide +kernel
theorem dL_serves_14 : decode cL_serves 14 = .ok (.bipush 12, 2) := by decide +kernel
theorem dL_serves_16 : decode cL_serves 16 = .ok (.iaload, 1) := by decide +kernel
theorem dL_serves_17 : decode cL_serves 17 = .ok (.ifCond .ne 4, 3) := by decide +kernel
theorem dL_serves_20 : decode cL_serves 20 = .ok (.return_, 1) := by decide +kernel
theorem dL_serves_21 : decode cL_serves 21 = .ok (.aload_n 0, 1) := by decide +kernel
theorem dL_serves_22 : decode cL_serves 22 = .ok (.bipush 11, 2) := by decide +kernel
theorem dL_serves_24 : decode cL_serves 24 = .ok (.iaload, 1) := by decide +kernel
theorem dL_serves_25 : decode cL_serves 25 = .ok (.ifCond .ne 7, 3) := by decide +kernel
theorem dL_serves_28 : decode cL_serves 28 = .ok (.iconst 1, 1) := by decide +kernel
theorem dL_serves_29 : decode cL_serves 29 = .ok (.goto 33, 3) := by decide +kernel
theorem dL_serves_32 : decode cL_serves 32 = .ok (.aload_n 0, 1) := by decide +kernel
theorem dL_serves_33 : decode cL_serves 33 = .ok (.bipush 12, 2) := by decide +kernel
theorem dL_serves_35 : decode cL_serves 35 = .ok (.iaload, 1) := by decide +kernel
theorem dL_serves_36 : decode cL_serves 36 = .ok (.ifCond .eq 10, 3) := by decide +kernel
theorem dL_serves_39 : decode cL_serves 39 = .ok (.aload_n 0, 1) := by decide +kernel
theorem dL_serves_40 : decode cL_serves 40 = .ok (.iconst 2, 1) := by decide +kernel
theorem dL_serves_41 : decode cL_serves 41 = .ok (.iaload, 1) := by decide +kernel
theorem dL_serves_42 : decode cL_serves 42 = .ok (.iconst 1, 1) := by decide +kernel
theorem dL_serves_43 : decode cL_serves 43 = .ok (.if_icmp .ne 7, 3) := by decide +kernel
theorem dL_serves_46 : decode cL_serves 46 = .ok (.iconst 0, 1) := by decide +kernel
theorem dL_serves_47 : decode cL_serves 47 = .ok (.goto 15, 3) := by decide +kernel
theorem dL_serves_50 : decode cL_serves 50 = .ok (.aload_n 0, 1) := by decide +kernel
theorem dL_serves_51 : decode cL_serves 51 = .ok (.bipush 8, 2) := by decide +kernel
theorem dL_serves_53 : decode cL_serves 53 = .ok (.iaload, 1) := by decide +kernel
theorem dL_serves_54 : decode cL_serves 54 = .ok (.ifCond .ne 7, 3) := by decide +kernel
theorem dL_serves_57 : decode cL_serves 57 = .ok (.iconst 1, 1) := by decide +kernel
theorem dL_serves_58 : decode cL_serves 58 = .ok (.goto 4, 3) := by decide +kernel
theorem dL_serves_61 : decode cL_serves 61 = .ok (.iconst 0, 1) := by decide +kernel
theorem dL_serves_62 : decode cL_serves 62 = .ok (.istore 8, 2) := by decide +kernel
theorem dL_serves_64 : decode cL_serves 64 = .ok (.bipush 16, 2) := by decide +kernel
theorem dL_serves_66 : decode cL_serves 66 = .ok (.iload 8, 2) := by decide +kernel
theorem dL_serves_68 : decode cL_serves 68 = .ok (.imul, 1) := by decide +kernel
theorem dL_serves_69 : decode cL_serves 69 = .ok (.aload 4, 2) := by decide +kernel
theorem dL_serves_71 : decode cL_serves 71 = .ok (.bipush 20, 2) := by decide +kernel
theorem dL_serves_73 : decode cL_serves 73 = .ok (.iload 8, 2) := by decide +kernel
theorem dL_serves_75 : decode cL_serves 75 = .ok (.imul, 1) := by decide +kernel
theorem dL_serves_76 : decode cL_serves 76 = .ok (.iaload, 1) := by decide +kernel
theorem dL_serves_77 : decode cL_serves 77 = .ok (.iadd, 1) := by decide +kernel
theorem dL_serves_78 : decode cL_serves 78 = .ok (.istore 9, 2) := by decide +kernel
theorem dL_serves_80 : decode cL_serves 80 = .ok (.iconst 0, 1) := by decide +kernel
theorem dL_serves_81 : decode cL_serves 81 = .ok (.istore 10, 2) := by decide +kernel
theorem dL_serves_83 : decode cL_serves 83 = .ok (.iload 10, 2) := by decide +kernel
theorem dL_serves_85 : decode cL_serves 85 = .ok (.bipush 19, 2) := by decide +kernel
theorem dL_serves_87 : decode cL_serves 87 = .ok (.if_icmp .ge 33, 3) := by decide +kernel
theorem dL_serves_90 : decode cL_serves 90 = .ok (.aload 4, 2) := by decide +kernel
theorem dL_serves_92 : decode cL_serves 92 = .ok (.bipush 20, 2) := by decide +kernel
theorem dL_serves_94 : decode cL_serves 94 = .ok (.iload 8, 2) := by decide +kernel
theorem dL_serves_96 : decode cL_serves 96 = .ok (.imul, 1) := by decide +kernel
theorem dL_serves_97 : decode cL_serves 97 = .ok (.iload 10, 2) := by decide +kernel
theorem dL_serves_99 : decode cL_serves 99 = .ok (.iadd, 1) := by decide +kernel
theorem dL_serves_100 : decode cL_serves 100 = .ok (.aload 4, 2) := by decide +kernel
theorem dL_serves_102 : decode cL_serves 102 = .ok (.bipush 20, 2) := by decide +kernel
theorem dL_serves_104 : decode cL_serves 104 = .ok (.iload 8, 2) := by decide +kernel
theorem dL_serves_106 : decode cL_serves 106 = .ok (.imul, 1) := by decide +kernel
theorem dL_serves_107 : decode cL_serves 107 = .ok (.iload 10, 2) := by decide +kernel
theorem dL_serves_109 : decode cL_serves 109 = .ok (.iadd, 1) := by decide +kernel
theorem dL_serves_110 : decode cL_serves 110 = .ok (.iconst 1, 1) := by decide +kernel
theorem dL_serves_111 : decode cL_serves 111 = .ok (.iadd, 1) := by decide +kernel
theorem dL_serves_112 : decode cL_serves 112 = .ok (.iaload, 1) := by decide +kernel
theorem dL_serves_113 : decode cL_serves 113 = .ok (.iastore, 1) := by decide +kernel
theorem dL_serves_114 : decode cL_serves 114 = .ok (.iinc 10 1, 3) := by decide +kernel
theorem dL_serves_117 : decode cL_serves 117 = .ok (.goto (-34), 3) := by decide +kernel
theorem dL_serves_120 : decode cL_serves 120 = .ok (.aload_n 0, 1) := by decide +kernel
theorem dL_serves_121 : decode cL_serves 121 = .ok (.bipush 11, 2) := by decide +kernel
theorem dL_serves_123 : decode cL_serves 123 = .ok (.iload 8, 2) := by decide +kernel
theorem dL_serves_125 : decode cL_serves 125 = .ok (.iadd, 1) := by decide +kernel
theorem dL_serves_126 : decode cL_serves 126 = .ok (.dup2, 1) := by decide +kernel
theorem dL_serves_127 : decode cL_serves 127 = .ok (.iaload, 1) := by decide +kernel
theorem dL_serves_128 : decode cL_serves 128 = .ok (.iconst 1, 1) := by decide +kernel
theorem dL_serves_129 : decode cL_serves 129 = .ok (.isub, 1) := by decide +kernel
theorem dL_serves_130 : decode cL_serves 130 = .ok (.iastore, 1) := by decide +kernel
theorem dL_serves_131 : decode cL_serves 131 = .ok (.aload_n 0, 1) := by decide +kernel
theorem dL_serves_132 : decode cL_serves 132 = .ok (.bipush 8, 2) := by decide +kernel
theorem dL_serves_134 : decode cL_serves 134 = .ok (.iload 8, 2) := by decide +kernel
theorem dL_serves_136 : decode cL_serves 136 = .ok (.iastore, 1) := by decide +kernel
theorem dL_serves_137 : decode cL_serves 137 = .ok (.aload 5, 2) := by decide +kernel
theorem dL_serves_139 : decode cL_serves 139 = .ok (.aload_n 0, 1) := by decide +kernel
theorem dL_serves_140 : decode cL_serves 140 = .ok (.bipush 9, 2) := by decide +kernel
theorem dL_serves_142 : decode cL_serves 142 = .ok (.iaload, 1) := by decide +kernel
theorem dL_serves_143 : decode cL_serves 143 = .ok (.iload 9, 2) := by decide +kernel
theorem dL_serves_145 : decode cL_serves 145 = .ok (.iastore, 1) := by decide +kernel
theorem dL_serves_146 : decode cL_serves 146 = .ok (.aload_n 0, 1) := by decide +kernel
theorem dL_serves_147 : decode cL_serves 147 = .ok (.bipush 9, 2) := by decide +kernel
theorem dL_serves_149 : decode cL_serves 149 = .ok (.dup2, 1) := by decide +kernel
theorem dL_serves_150 : decode cL_serves 150 = .ok (.iaload, 1) := by decide +kernel
theorem dL_serves_151 : decode cL_serves 151 = .ok (.iconst 1, 1) := by decide +kernel
theorem dL_serves_152 : decode cL_serves 152 = .ok (.iadd, 1) := by decide +kernel
theorem dL_serves_153 : decode cL_serves 153 = .ok (.iastore, 1) := by decide +kernel
theorem dL_serves_154 : decode cL_serves 154 = .ok (.iconst 0, 1) := by decide +kernel
theorem dL_serves_155 : decode cL_serves 155 = .ok (.iload 9, 2) := by decide +kernel
theorem dL_serves_157 : decode cL_serves 157 = .ok (.aload_n 0, 1) := by decide +kernel
theorem dL_serves_158 : decode cL_serves 158 = .ok (.aload_n 1, 1) := by decide +kernel
theorem dL_serves_159 : decode cL_serves 159 = .ok (.aload_n 2, 1) := by decide +kernel
theorem dL_serves_160 : decode cL_serves 160 = .ok (.aload_n 3, 1) := by decide +kernel
theorem dL_serves_161 : decode cL_serves 161 = .ok (.aload 6, 2) := by decide +kernel
theorem dL_serves_163 : decode cL_serves 163 = .ok (.aload 7, 2) := by decide +kernel
theorem dL_serves_165 : decode cL_serves 165 = .ok (.invokestatic 16, 3) := by decide +kernel
theorem dL_serves_168 : decode cL_serves 168 = .ok (.return_, 1) := by decide +kernel
theorem dL_notes_0 : decode cL_notes 0 = .ok (.aload_n 0, 1) := by decide +kernel
theorem dL_notes_1 : decode cL_notes 1 = .ok (.iconst 3, 1) := by decide +kernel
theorem dL_notes_2 : decode cL_notes 2 = .ok (.iaload, 1) := by decide +kernel
theorem dL_notes_3 : decode cL_notes 3 = .ok (.istore 7, 2) := by decide +kernel
theorem dL_notes_5 : decode cL_notes 5 = .ok (.aload 6, 2) := by decide +kernel
theorem dL_notes_7 : decode cL_notes 7 = .ok (.iconst 0, 1) := by decide +kernel
theorem dL_notes_8 : decode cL_notes 8 = .ok (.aload_n 2, 1) := by decide +kernel
theorem dL_notes_9 : decode cL_notes 9 = .ok (.bipush 6, 2) := by decide +kernel
theorem dL_notes_11 : decode cL_notes 11 = .ok (.iload 7, 2) := by decide +kernel
theorem dL_notes_13 : decode cL_notes 13 = .ok (.imul, 1) := by decide +kernel
theorem dL_notes_14 : decode cL_notes 14 = .ok (.iconst 5, 1) := by decide +kernel
theorem dL_notes_15 : decode cL_notes 15 = .ok (.iadd, 1) := by decide +kernel
theorem dL_notes_16 : decode cL_notes 16 = .ok (.iaload, 1) := by decide +kernel
theorem dL_notes_17 : decode cL_notes 17 = .ok (.iastore, 1) := by decide +kernel
theorem dL_notes_18 : decode cL_notes 18 = .ok (.aload 6, 2) := by decide +kernel
theorem dL_notes_20 : decode cL_notes 20 = .ok (.iconst 1, 1) := by decide +kernel
theorem dL_notes_21 : decode cL_notes 21 = .ok (.aload_n 0, 1) := by decide +kernel
theorem dL_notes_22 : decode cL_notes 22 = .ok (.iconst 4, 1) := by decide +kernel
theorem dL_notes_23 : decode cL_notes 23 = .ok (.iaload, 1) := by decide +kernel
theorem dL_notes_24 : decode cL_notes 24 = .ok (.iastore, 1) := by decide +kernel
theorem dL_notes_25 : decode cL_notes 25 = .ok (.aload 6, 2) := by decide +kernel
theorem dL_notes_27 : decode cL_notes 27 = .ok (.iconst 2, 1) := by decide +kernel
theorem dL_notes_28 : decode cL_notes 28 = .ok (.aload_n 3, 1) := by decide +kernel
theorem dL_notes_29 : decode cL_notes 29 = .ok (.iconst 0, 1) := by decide +kernel
theorem dL_notes_30 : decode cL_notes 30 = .ok (.iaload, 1) := by decide +kernel
theorem dL_notes_31 : decode cL_notes 31 = .ok (.aload 6, 2) := by decide +kernel
theorem dL_notes_33 : decode cL_notes 33 = .ok (.iconst 0, 1) := by decide +kernel
theorem dL_notes_34 : decode cL_notes 34 = .ok (.iaload, 1) := by decide +kernel
theorem dL_notes_35 : decode cL_notes 35 = .ok (.if_icmp .ne 7, 3) := by decide +kernel
theorem dL_notes_38 : decode cL_notes 38 = .ok (.iconst 1, 1) := by decide +kernel
theorem dL_notes_39 : decode cL_notes 39 = .ok (.goto 4, 3) := by decide +kernel
theorem dL_notes_42 : decode cL_notes 42 = .ok (.iconst 0, 1) := by decide +kernel
theorem dL_notes_43 : decode cL_notes 43 = .ok (.iastore, 1) := by decide +kernel
theorem dL_notes_44 : decode cL_notes 44 = .ok (.iconst 0, 1) := by decide +kernel
theorem dL_notes_45 : decode cL_notes 45 = .ok (.istore 8, 2) := by decide +kernel
theorem dL_notes_47 : decode cL_notes 47 = .ok (.iload 8, 2) := by decide +kernel
theorem dL_notes_49 : decode cL_notes 49 = .ok (.bipush 19, 2) := by decide +kernel
theorem dL_notes_51 : decode cL_notes 51 = .ok (.if_icmp .ge 19, 3) := by decide +kernel
theorem dL_notes_54 : decode cL_notes 54 = .ok (.aload_n 3, 1) := by decide +kernel
theorem dL_notes_55 : decode cL_notes 55 = .ok (.iload 8, 2) := by decide +kernel
theorem dL_notes_57 : decode cL_notes 57 = .ok (.aload_n 3, 1) := by decide +kernel
theorem dL_notes_58 : decode cL_notes 58 = .ok (.iload 8, 2) := by decide +kernel
theorem dL_notes_60 : decode cL_notes 60 = .ok (.iconst 1, 1) := by decide +kernel
theorem dL_notes_61 : decode cL_notes 61 = .ok (.iadd, 1) := by decide +kernel
theorem dL_notes_62 : decode cL_notes 62 = .ok (.iaload, 1) := by decide +kernel
theorem dL_notes_63 : decode cL_notes 63 = .ok (.iastore, 1) := by decide +kernel
theorem dL_notes_64 : decode cL_notes 64 = .ok (.iinc 8 1, 3) := by decide +kernel
theorem dL_notes_67 : decode cL_notes 67 = .ok (.goto (-20), 3) := by decide +kernel
theorem dL_notes_70 : decode cL_notes 70 = .ok (.aload_n 0, 1) := by decide +kernel
theorem dL_notes_71 : decode cL_notes 71 = .ok (.bipush 9, 2) := by decide +kernel
theorem dL_notes_73 : decode cL_notes 73 = .ok (.dup2, 1) := by decide +kernel
theorem dL_notes_74 : decode cL_notes 74 = .ok (.iaload, 1) := by decide +kernel
theorem dL_notes_75 : decode cL_notes 75 = .ok (.iconst 1, 1) := by decide +kernel
theorem dL_notes_76 : decode cL_notes 76 = .ok (.isub, 1) := by decide +kernel
theorem dL_notes_77 : decode cL_notes 77 = .ok (.iastore, 1) := by decide +kernel
theorem dL_notes_78 : decode cL_notes 78 = .ok (.aload_n 0, 1) := by decide +kernel
theorem dL_notes_79 : decode cL_notes 79 = .ok (.iconst 5, 1) := by decide +kernel
theorem dL_notes_80 : decode cL_notes 80 = .ok (.dup2, 1) := by decide +kernel
theorem dL_notes_81 : decode cL_notes 81 = .ok (.iaload, 1) := by decide +kernel
theorem dL_notes_82 : decode cL_notes 82 = .ok (.iconst 1, 1) := by decide +kernel
theorem dL_notes_83 : decode cL_notes 83 = .ok (.iadd, 1) := by decide +kernel
theorem dL_notes_84 : decode cL_notes 84 = .ok (.iastore, 1) := by decide +kernel
theorem dL_notes_85 : decode cL_notes 85 = .ok (.aload_n 0, 1) := by decide +kernel
theorem dL_notes_86 : decode cL_notes 86 = .ok (.bipush 6, 2) := by decide +kernel
theorem dL_notes_88 : decode cL_notes 88 = .ok (.dup2, 1) := by decide +kernel
theorem dL_notes_89 : decode cL_notes 89 = .ok (.iaload, 1) := by decide +kernel
theorem dL_notes_90 : decode cL_notes 90 = .ok (.aload 6, 2) := by decide +kernel
theorem dL_notes_92 : decode cL_notes 92 = .ok (.iconst 2, 1) := by decide +kernel
theorem dL_notes_93 : decode cL_notes 93 = .ok (.iaload, 1) := by decide +kernel
theorem dL_notes_94 : decode cL_notes 94 = .ok (.iadd, 1) := by decide +kernel
theorem dL_notes_95 : decode cL_notes 95 = .ok (.iastore, 1) := by decide +kernel
theorem dL_notes_96 : decode cL_notes 96 = .ok (.aload_n 2, 1) := by decide +kernel
theorem dL_notes_97 : decode cL_notes 97 = .ok (.bipush 6, 2) := by decide +kernel
theorem dL_notes_99 : decode cL_notes 99 = .ok (.iload 7, 2) := by decide +kernel
theorem dL_notes_101 : decode cL_notes 101 = .ok (.imul, 1) := by decide +kernel
theorem dL_notes_102 : decode cL_notes 102 = .ok (.iconst 4, 1) := by decide +kernel
theorem dL_notes_103 : decode cL_notes 103 = .ok (.iadd, 1) := by decide +kernel
theorem dL_notes_104 : decode cL_notes 104 = .ok (.iconst 1, 1) := by decide +kernel
theorem dL_notes_105 : decode cL_notes 105 = .ok (.iastore, 1) := by decide +kernel
theorem dL_notes_106 : decode cL_notes 106 = .ok (.iload 7, 2) := by decide +kernel
theorem dL_notes_108 : decode cL_notes 108 = .ok (.iconst 1, 1) := by decide +kernel
theorem dL_notes_109 : decode cL_notes 109 = .ok (.iconst 1, 1) := by decide +kernel
theorem dL_notes_110 : decode cL_notes 110 = .ok (.aload_n 0, 1) := by decide +kernel
theorem dL_notes_111 : decode cL_notes 111 = .ok (.iconst 1, 1) := by decide +kernel
theorem dL_notes_112 : decode cL_notes 112 = .ok (.iaload, 1) := by decide +kernel
theorem dL_notes_113 : decode cL_notes 113 = .ok (.aload_n 0, 1) := by decide +kernel
theorem dL_notes_114 : decode cL_notes 114 = .ok (.aload_n 1, 1) := by decide +kernel
theorem dL_notes_115 : decode cL_notes 115 = .ok (.aload 4, 2) := by decide +kernel
theorem dL_notes_117 : decode cL_notes 117 = .ok (.aload 5, 2) := by decide +kernel
theorem dL_notes_119 : decode cL_notes 119 = .ok (.invokestatic 10, 3) := by decide +kernel
theorem dL_notes_122 : decode cL_notes 122 = .ok (.return_, 1) := by decide +kernel
theorem dL_answered_0 : decode cL_answered 0 = .ok (.iload_n 1, 1) := by decide +kernel
theorem dL_answered_1 : decode cL_answered 1 = .ok (.ifCond .ne 66, 3) := by decide +kernel
theorem dL_answered_4 : decode cL_answered 4 = .ok (.aload 5, 2) := by decide +kernel
theorem dL_answered_6 : decode cL_answered 6 = .ok (.iconst 3, 1) := by decide +kernel
theorem dL_answered_7 : decode cL_answered 7 = .ok (.iload_n 0, 1) := by decide +kernel
theorem dL_answered_8 : decode cL_answered 8 = .ok (.imul, 1) := by decide +kernel
theorem dL_answered_9 : decode cL_answered 9 = .ok (.iconst 1, 1) := by decide +kernel
theorem dL_answered_10 : decode cL_answered 10 = .ok (.iastore, 1) := by decide +kernel
theorem dL_answered_11 : decode cL_answered 11 = .ok (.iload_n 0, 1) := by decide +kernel
theorem dL_answered_12 : decode cL_answered 12 = .ok (.ifCond .ne 23, 3) := by decide +kernel
theorem dL_answered_15 : decode cL_answered 15 = .ok (.aload_n 2, 1) := by decide +kernel
theorem dL_answered_16 : decode cL_answered 16 = .ok (.aload_n 3, 1) := by decide +kernel
theorem dL_answered_17 : decode cL_answered 17 = .ok (.aload 4, 2) := by decide +kernel
theorem dL_answered_19 : decode cL_answered 19 = .ok (.aload 5, 2) := by decide +kernel
theorem dL_answered_21 : decode cL_answered 21 = .ok (.aload 6, 2) := by decide +kernel
theorem dL_answered_23 : decode cL_answered 23 = .ok (.aload 7, 2) := by decide +kernel
theorem dL_answered_25 : decode cL_answered 25 = .ok (.aload 8, 2) := by decide +kernel
theorem dL_answered_27 : decode cL_answered 27 = .ok (.aload 9, 2) := by decide +kernel
theorem dL_answered_29 : decode cL_answered 29 = .ok (.invokestatic 20, 3) := by decide +kernel
theorem dL_answered_32 : decode cL_answered 32 = .ok (.goto 34, 3) := by decide +kernel
theorem dL_answered_35 : decode cL_answered 35 = .ok (.aload 5, 2) := by decide +kernel
theorem dL_answered_37 : decode cL_answered 37 = .ok (.bipush 20, 2) := by decide +kernel
theorem dL_answered_39 : decode cL_answered 39 = .ok (.iload_n 0, 1) := by decide +kernel
theorem dL_answered_40 : decode cL_answered 40 = .ok (.iadd, 1) := by decide +kernel
theorem dL_answered_41 : decode cL_answered 41 = .ok (.iaload, 1) := by decide +kernel
theorem dL_answered_42 : decode cL_answered 42 = .ok (.ifCond .lt 24, 3) := by decide +kernel
theorem dL_answered_45 : decode cL_answered 45 = .ok (.iload_n 0, 1) := by decide +kernel
theorem dL_answered_46 : decode cL_answered 46 = .ok (.aload 5, 2) := by decide +kernel
theorem dL_answered_48 : decode cL_answered 48 = .ok (.bipush 20, 2) := by decide +kernel
theorem dL_answered_50 : decode cL_answered 50 = .ok (.iload_n 0, 1) := by decide +kernel
theorem dL_answered_51 : decode cL_answered 51 = .ok (.iadd, 1) := by decide +kernel
theorem dL_answered_52 : decode cL_answered 52 = .ok (.iaload, 1) := by decide +kernel
theorem dL_answered_53 : decode cL_answered 53 = .ok (.aload_n 2, 1) := by decide +kernel
theorem dL_answered_54 : decode cL_answered 54 = .ok (.aload_n 3, 1) := by decide +kernel
theorem dL_answered_55 : decode cL_answered 55 = .ok (.aload 4, 2) := by decide +kernel
theorem dL_answered_57 : decode cL_answered 57 = .ok (.aload 5, 2) := by decide +kernel
theorem dL_answered_59 : decode cL_answered 59 = .ok (.aload 8, 2) := by decide +kernel
theorem dL_answered_61 : decode cL_answered 61 = .ok (.aload 9, 2) := by decide +kernel
theorem dL_answered_63 : decode cL_answered 63 = .ok (.invokestatic 16, 3) := by decide +kernel
theorem dL_answered_66 : decode cL_answered 66 = .ok (.return_, 1) := by decide +kernel
theorem dL_answered_67 : decode cL_answered 67 = .ok (.aload 4, 2) := by decide +kernel
theorem dL_answered_69 : decode cL_answered 69 = .ok (.bipush 6, 2) := by decide +kernel
theorem dL_answered_71 : decode cL_answered 71 = .ok (.iload_n 0, 1) := by decide +kernel
theorem dL_answered_72 : decode cL_answered 72 = .ok (.imul, 1) := by decide +kernel
theorem dL_answered_73 : decode cL_answered 73 = .ok (.iconst 0, 1) := by decide +kernel
theorem dL_answered_74 : decode cL_answered 74 = .ok (.iastore, 1) := by decide +kernel
theorem dL_answered_75 : decode cL_answered 75 = .ok (.iload_n 0, 1) := by decide +kernel
theorem dL_answered_76 : decode cL_answered 76 = .ok (.iconst 0, 1) := by decide +kernel
theorem dL_answered_77 : decode cL_answered 77 = .ok (.iconst 0, 1) := by decide +kernel
theorem dL_answered_78 : decode cL_answered 78 = .ok (.iconst 0, 1) := by decide +kernel
theorem dL_answered_79 : decode cL_answered 79 = .ok (.aload_n 2, 1) := by decide +kernel
theorem dL_answered_80 : decode cL_answered 80 = .ok (.aload_n 3, 1) := by decide +kernel
theorem dL_answered_81 : decode cL_answered 81 = .ok (.aload 8, 2) := by decide +kernel
theorem dL_answered_83 : decode cL_answered 83 = .ok (.aload 9, 2) := by decide +kernel
theorem dL_answered_85 : decode cL_answered 85 = .ok (.invokestatic 10, 3) := by decide +kernel
theorem dL_answered_88 : decode cL_answered 88 = .ok (.iload_n 0, 1) := by decide +kernel
theorem dL_answered_89 : decode cL_answered 89 = .ok (.ifCond .le 48, 3) := by decide +kernel
theorem dL_answered_92 : decode cL_answered 92 = .ok (.aload 5, 2) := by decide +kernel
theorem dL_answered_94 : decode cL_answered 94 = .ok (.bipush 20, 2) := by decide +kernel
theorem dL_answered_96 : decode cL_answered 96 = .ok (.iload_n 0, 1) := by decide +kernel
theorem dL_answered_97 : decode cL_answered 97 = .ok (.iadd, 1) := by decide +kernel
theorem dL_answered_98 : decode cL_answered 98 = .ok (.iconst (-1), 1) := by decide +kernel
theorem dL_answered_99 : decode cL_answered 99 = .ok (.iastore, 1) := by decide +kernel
theorem dL_answered_100 : decode cL_answered 100 = .ok (.aload 5, 2) := by decide +kernel
theorem dL_answered_102 : decode cL_answered 102 = .ok (.iconst 3, 1) := by decide +kernel
theorem dL_answered_103 : decode cL_answered 103 = .ok (.iload_n 0, 1) := by decide +kernel
theorem dL_answered_104 : decode cL_answered 104 = .ok (.imul, 1) := by decide +kernel
theorem dL_answered_105 : decode cL_answered 105 = .ok (.iconst 2, 1) := by decide +kernel
theorem dL_answered_106 : decode cL_answered 106 = .ok (.isub, 1) := by decide +kernel
theorem dL_answered_107 : decode cL_answered 107 = .ok (.iaload, 1) := by decide +kernel
theorem dL_answered_108 : decode cL_answered 108 = .ok (.iconst 1, 1) := by decide +kernel
theorem dL_answered_109 : decode cL_answered 109 = .ok (.if_icmp .ne 28, 3) := by decide +kernel
theorem dL_answered_112 : decode cL_answered 112 = .ok (.aload 5, 2) := by decide +kernel
theorem dL_answered_114 : decode cL_answered 114 = .ok (.iconst 3, 1) := by decide +kernel
theorem dL_answered_115 : decode cL_answered 115 = .ok (.iload_n 0, 1) := by decide +kernel
theorem dL_answered_116 : decode cL_answered 116 = .ok (.imul, 1) := by decide +kernel
theorem dL_answered_117 : decode cL_answered 117 = .ok (.iconst 2, 1) := by decide +kernel
theorem dL_answered_118 : decode cL_answered 118 = .ok (.isub, 1) := by decide +kernel
theorem dL_answered_119 : decode cL_answered 119 = .ok (.iconst 0, 1) := by decide +kernel
theorem dL_answered_120 : decode cL_answered 120 = .ok (.iastore, 1) := by decide +kernel
theorem dL_answered_121 : decode cL_answered 121 = .ok (.iload_n 0, 1) := by decide +kernel
theorem dL_answered_122 : decode cL_answered 122 = .ok (.iconst 1, 1) := by decide +kernel
theorem dL_answered_123 : decode cL_answered 123 = .ok (.isub, 1) := by decide +kernel
theorem dL_answered_124 : decode cL_answered 124 = .ok (.aload_n 2, 1) := by decide +kernel
theorem dL_answered_125 : decode cL_answered 125 = .ok (.aload_n 3, 1) := by decide +kernel
theorem dL_answered_126 : decode cL_answered 126 = .ok (.aload 4, 2) := by decide +kernel
theorem dL_answered_128 : decode cL_answered 128 = .ok (.aload 5, 2) := by decide +kernel
theorem dL_answered_130 : decode cL_answered 130 = .ok (.aload 8, 2) := by decide +kernel
theorem dL_answered_132 : decode cL_answered 132 = .ok (.aload 9, 2) := by decide +kernel
theorem dL_answered_134 : decode cL_answered 134 = .ok (.invokestatic 24, 3) := by decide +kernel
theorem dL_answered_137 : decode cL_answered 137 = .ok (.return_, 1) := by decide +kernel
theorem dL_arrives_0 : decode cL_arrives 0 = .ok (.iconst (-1), 1) := by decide +kernel
theorem dL_arrives_1 : decode cL_arrives 1 = .ok (.istore 10, 2) := by decide +kernel
theorem dL_arrives_3 : decode cL_arrives 3 = .ok (.aload_n 1, 1) := by decide +kernel
theorem dL_arrives_4 : decode cL_arrives 4 = .ok (.bipush 10, 2) := by decide +kernel
theorem dL_arrives_6 : decode cL_arrives 6 = .ok (.iaload, 1) := by decide +kernel
theorem dL_arrives_7 : decode cL_arrives 7 = .ok (.iconst 1, 1) := by decide +kernel
theorem dL_arrives_8 : decode cL_arrives 8 = .ok (.isub, 1) := by decide +kernel
theorem dL_arrives_9 : decode cL_arrives 9 = .ok (.istore 11, 2) := by decide +kernel
theorem dL_arrives_11 : decode cL_arrives 11 = .ok (.iload 11, 2) := by decide +kernel
theorem dL_arrives_13 : decode cL_arrives 13 = .ok (.ifCond .lt 36, 3) := by decide +kernel
theorem dL_arrives_16 : decode cL_arrives 16 = .ok (.iload 10, 2) := by decide +kernel
theorem dL_arrives_18 : decode cL_arrives 18 = .ok (.ifCond .lt 16, 3) := by decide +kernel
theorem dL_arrives_21 : decode cL_arrives 21 = .ok (.aload 7, 2) := by decide +kernel
theorem dL_arrives_23 : decode cL_arrives 23 = .ok (.iload 11, 2) := by decide +kernel
theorem dL_arrives_25 : decode cL_arrives 25 = .ok (.iaload, 1) := by decide +kernel
theorem dL_arrives_26 : decode cL_arrives 26 = .ok (.aload 7, 2) := by decide +kernel
theorem dL_arrives_28 : decode cL_arrives 28 = .ok (.iload 10, 2) := by decide +kernel
theorem dL_arrives_30 : decode cL_arrives 30 = .ok (.iaload, 1) := by decide +kernel
theorem dL_arrives_31 : decode cL_arrives 31 = .ok (.if_icmp .gt 8, 3) := by decide +kernel
theorem dL_arrives_34 : decode cL_arrives 34 = .ok (.iload 11, 2) := by decide +kernel
theorem dL_arrives_36 : decode cL_arrives 36 = .ok (.goto 5, 3) := by decide +kernel
theorem dL_arrives_39 : decode cL_arrives 39 = .ok (.iload 10, 2) := by decide +kernel
theorem dL_arrives_41 : decode cL_arrives 41 = .ok (.istore 10, 2) := by decide +kernel
theorem dL_arrives_43 : decode cL_arrives 43 = .ok (.iinc 11 (-1), 3) := by decide +kernel
theorem dL_arrives_46 : decode cL_arrives 46 = .ok (.goto (-35), 3) := by decide +kernel
theorem dL_arrives_49 : decode cL_arrives 49 = .ok (.iload 10, 2) := by decide +kernel
theorem dL_arrives_51 : decode cL_arrives 51 = .ok (.ifCond .lt 12, 3) := by decide +kernel
theorem dL_arrives_54 : decode cL_arrives 54 = .ok (.aload 7, 2) := by decide +kernel
theorem dL_arrives_56 : decode cL_arrives 56 = .ok (.iload 10, 2) := by decide +kernel
theorem dL_arrives_58 : decode cL_arrives 58 = .ok (.iaload, 1) := by decide +kernel
theorem dL_arrives_59 : decode cL_arrives 59 = .ok (.iload_n 0, 1) := by decide +kernel
theorem dL_arrives_60 : decode cL_arrives 60 = .ok (.if_icmp .le 5, 3) := by decide +kernel
theorem dL_arrives_63 : decode cL_arrives 63 = .ok (.iconst 0, 1) := by decide +kernel
theorem dL_arrives_64 : decode cL_arrives 64 = .ok (.ireturn, 1) := by decide +kernel
theorem dL_arrives_65 : decode cL_arrives 65 = .ok (.aload_n 1, 1) := by decide +kernel
theorem dL_arrives_66 : decode cL_arrives 66 = .ok (.iconst 4, 1) := by decide +kernel
theorem dL_arrives_67 : decode cL_arrives 67 = .ok (.aload 7, 2) := by decide +kernel
theorem dL_arrives_69 : decode cL_arrives 69 = .ok (.iload 10, 2) := by decide +kernel
theorem dL_arrives_71 : decode cL_arrives 71 = .ok (.iaload, 1) := by decide +kernel
theorem dL_arrives_72 : decode cL_arrives 72 = .ok (.iastore, 1) := by decide +kernel
theorem dL_arrives_73 : decode cL_arrives 73 = .ok (.aload 8, 2) := by decide +kernel
theorem dL_arrives_75 : decode cL_arrives 75 = .ok (.iload 10, 2) := by decide +kernel
theorem dL_arrives_77 : decode cL_arrives 77 = .ok (.iaload, 1) := by decide +kernel
theorem dL_arrives_78 : decode cL_arrives 78 = .ok (.bipush 96, 2) := by decide +kernel
theorem dL_arrives_80 : decode cL_arrives 80 = .ok (.idiv, 1) := by decide +kernel
theorem dL_arrives_81 : decode cL_arrives 81 = .ok (.istore 11, 2) := by decide +kernel
theorem dL_arrives_83 : decode cL_arrives 83 = .ok (.aload 8, 2) := by decide +kernel
theorem dL_arrives_85 : decode cL_arrives 85 = .ok (.iload 10, 2) := by decide +kernel
theorem dL_arrives_87 : decode cL_arrives 87 = .ok (.iaload, 1) := by decide +kernel
theorem dL_arrives_88 : decode cL_arrives 88 = .ok (.bipush 32, 2) := by decide +kernel
theorem dL_arrives_90 : decode cL_arrives 90 = .ok (.idiv, 1) := by decide +kernel
theorem dL_arrives_91 : decode cL_arrives 91 = .ok (.iconst 3, 1) := by decide +kernel
theorem dL_arrives_92 : decode cL_arrives 92 = .ok (.irem, 1) := by decide +kernel
theorem dL_arrives_93 : decode cL_arrives 93 = .ok (.istore 12, 2) := by decide +kernel
theorem dL_arrives_95 : decode cL_arrives 95 = .ok (.aload 8, 2) := by decide +kernel
theorem dL_arrives_97 : decode cL_arrives 97 = .ok (.iload 10, 2) := by decide +kernel
theorem dL_arrives_99 : decode cL_arrives 99 = .ok (.iaload, 1) := by decide +kernel
theorem dL_arrives_100 : decode cL_arrives 100 = .ok (.bipush 32, 2) := by decide +kernel
theorem dL_arrives_102 : decode cL_arrives 102 = .ok (.irem, 1) := by decide +kernel
theorem dL_arrives_103 : decode cL_arrives 103 = .ok (.istore 13, 2) := by decide +kernel
theorem dL_arrives_105 : decode cL_arrives 105 = .ok (.aload_n 1, 1) := by decide +kernel
theorem dL_arrives_106 : decode cL_arrives 106 = .ok (.bipush 10, 2) := by decide +kernel
theorem dL_arrives_108 : decode cL_arrives 108 = .ok (.dup2, 1) := by decide +kernel
theorem dL_arrives_109 : decode cL_arrives 109 = .ok (.iaload, 1) := by decide +kernel
theorem dL_arrives_110 : decode cL_arrives 110 = .ok (.iconst 1, 1) := by decide +kernel
theorem dL_arrives_111 : decode cL_arrives 111 = .ok (.isub, 1) := by decide +kernel
theorem dL_arrives_112 : decode cL_arrives 112 = .ok (.iastore, 1) := by decide +kernel
theorem dL_arrives_113 : decode cL_arrives 113 = .ok (.iload 10, 2) := by decide +kernel
theorem dL_arrives_115 : decode cL_arrives 115 = .ok (.istore 14, 2) := by decide +kernel
theorem dL_arrives_117 : decode cL_arrives 117 = .ok (.iload 14, 2) := by decide +kernel
theorem dL_arrives_119 : decode cL_arrives 119 = .ok (.aload_n 1, 1) := by decide +kernel
theorem dL_arrives_120 : decode cL_arrives 120 = .ok (.bipush 10, 2) := by decide +kernel
theorem dL_arrives_122 : decode cL_arrives 122 = .ok (.iaload, 1) := by decide +kernel
theorem dL_arrives_123 : decode cL_arrives 123 = .ok (.if_icmp .ge 33, 3) := by decide +kernel
theorem dL_arrives_126 : decode cL_arrives 126 = .ok (.aload 7, 2) := by decide +kernel
theorem dL_arrives_128 : decode cL_arrives 128 = .ok (.iload 14, 2) := by decide +kernel
theorem dL_arrives_130 : decode cL_arrives 130 = .ok (.aload 7, 2) := by decide +kernel
theorem dL_arrives_132 : decode cL_arrives 132 = .ok (.iload 14, 2) := by decide +kernel
theorem dL_arrives_134 : decode cL_arrives 134 = .ok (.iconst 1, 1) := by decide +kernel
theorem dL_arrives_135 : decode cL_arrives 135 = .ok (.iadd, 1) := by decide +kernel
theorem dL_arrives_136 : decode cL_arrives 136 = .ok (.iaload, 1) := by decide +kernel
theorem dL_arrives_137 : decode cL_arrives 137 = .ok (.iastore, 1) := by decide +kernel
theorem dL_arrives_138 : decode cL_arrives 138 = .ok (.aload 8, 2) := by decide +kernel
theorem dL_arrives_140 : decode cL_arrives 140 = .ok (.iload 14, 2) := by decide +kernel
theorem dL_arrives_142 : decode cL_arrives 142 = .ok (.aload 8, 2) := by decide +kernel
theorem dL_arrives_144 : decode cL_arrives 144 = .ok (.iload 14, 2) := by decide +kernel
theorem dL_arrives_146 : decode cL_arrives 146 = .ok (.iconst 1, 1) := by decide +kernel
theorem dL_arrives_147 : decode cL_arrives 147 = .ok (.iadd, 1) := by decide +kernel
theorem dL_arrives_148 : decode cL_arrives 148 = .ok (.iaload, 1) := by decide +kernel
theorem dL_arrives_149 : decode cL_arrives 149 = .ok (.iastore, 1) := by decide +kernel
theorem dL_arrives_150 : decode cL_arrives 150 = .ok (.iinc 14 1, 3) := by decide +kernel
theorem dL_arrives_153 : decode cL_arrives 153 = .ok (.goto (-36), 3) := by decide +kernel
theorem dL_arrives_156 : decode cL_arrives 156 = .ok (.aload_n 1, 1) := by decide +kernel
theorem dL_arrives_157 : decode cL_arrives 157 = .ok (.bipush 7, 2) := by decide +kernel
theorem dL_arrives_159 : decode cL_arrives 159 = .ok (.dup2, 1) := by decide +kernel
theorem dL_arrives_160 : decode cL_arrives 160 = .ok (.iaload, 1) := by decide +kernel
theorem dL_arrives_161 : decode cL_arrives 161 = .ok (.iconst 1, 1) := by decide +kernel
theorem dL_arrives_162 : decode cL_arrives 162 = .ok (.iadd, 1) := by decide +kernel
theorem dL_arrives_163 : decode cL_arrives 163 = .ok (.iastore, 1) := by decide +kernel
theorem dL_arrives_164 : decode cL_arrives 164 = .ok (.aload_n 3, 1) := by decide +kernel
theorem dL_arrives_165 : decode cL_arrives 165 = .ok (.bipush 6, 2) := by decide +kernel
theorem dL_arrives_167 : decode cL_arrives 167 = .ok (.iload 11, 2) := by decide +kernel
theorem dL_arrives_169 : decode cL_arrives 169 = .ok (.imul, 1) := by decide +kernel
theorem dL_arrives_170 : decode cL_arrives 170 = .ok (.iload 12, 2) := by decide +kernel
theorem dL_arrives_172 : decode cL_arrives 172 = .ok (.ifCond .ne 7, 3) := by decide +kernel
theorem dL_arrives_175 : decode cL_arrives 175 = .ok (.iconst 3, 1) := by decide +kernel
theorem dL_arrives_176 : decode cL_arrives 176 = .ok (.goto 14, 3) := by decide +kernel
theorem dL_arrives_179 : decode cL_arrives 179 = .ok (.iload 12, 2) := by decide +kernel
theorem dL_arrives_181 : decode cL_arrives 181 = .ok (.iconst 1, 1) := by decide +kernel
theorem dL_arrives_182 : decode cL_arrives 182 = .ok (.if_icmp .ne 7, 3) := by decide +kernel
theorem dL_arrives_185 : decode cL_arrives 185 = .ok (.iconst 1, 1) := by decide +kernel
theorem dL_arrives_186 : decode cL_arrives 186 = .ok (.goto 4, 3) := by decide +kernel
theorem dL_arrives_189 : decode cL_arrives 189 = .ok (.iconst 5, 1) := by decide +kernel
theorem dL_arrives_190 : decode cL_arrives 190 = .ok (.iadd, 1) := by decide +kernel
theorem dL_arrives_191 : decode cL_arrives 191 = .ok (.iload 13, 2) := by decide +kernel
theorem dL_arrives_193 : decode cL_arrives 193 = .ok (.iastore, 1) := by decide +kernel
theorem dL_arrives_194 : decode cL_arrives 194 = .ok (.iload 12, 2) := by decide +kernel
theorem dL_arrives_196 : decode cL_arrives 196 = .ok (.iconst 1, 1) := by decide +kernel
theorem dL_arrives_197 : decode cL_arrives 197 = .ok (.if_icmp .ne 26, 3) := by decide +kernel
theorem dL_arrives_200 : decode cL_arrives 200 = .ok (.iload 11, 2) := by decide +kernel
theorem dL_arrives_202 : decode cL_arrives 202 = .ok (.iload 13, 2) := by decide +kernel
theorem dL_arrives_204 : decode cL_arrives 204 = .ok (.aload_n 1, 1) := by decide +kernel
theorem dL_arrives_205 : decode cL_arrives 205 = .ok (.aload_n 2, 1) := by decide +kernel
theorem dL_arrives_206 : decode cL_arrives 206 = .ok (.aload_n 3, 1) := by decide +kernel
theorem dL_arrives_207 : decode cL_arrives 207 = .ok (.aload 4, 2) := by decide +kernel
theorem dL_arrives_209 : decode cL_arrives 209 = .ok (.aload 5, 2) := by decide +kernel
theorem dL_arrives_211 : decode cL_arrives 211 = .ok (.aload 6, 2) := by decide +kernel
theorem dL_arrives_213 : decode cL_arrives 213 = .ok (.aload 7, 2) := by decide +kernel
theorem dL_arrives_215 : decode cL_arrives 215 = .ok (.aload 8, 2) := by decide +kernel
theorem dL_arrives_217 : decode cL_arrives 217 = .ok (.invokestatic 28, 3) := by decide +kernel
theorem dL_arrives_220 : decode cL_arrives 220 = .ok (.goto 118, 3) := by decide +kernel
theorem dL_arrives_223 : decode cL_arrives 223 = .ok (.iload 12, 2) := by decide +kernel
theorem dL_arrives_225 : decode cL_arrives 225 = .ok (.ifCond .ne 35, 3) := by decide +kernel
theorem dL_arrives_228 : decode cL_arrives 228 = .ok (.iload 13, 2) := by decide +kernel
theorem dL_arrives_230 : decode cL_arrives 230 = .ok (.ifCond .ne 30, 3) := by decide +kernel
theorem dL_arrives_233 : decode cL_arrives 233 = .ok (.aload_n 3, 1) := by decide +kernel
theorem dL_arrives_234 : decode cL_arrives 234 = .ok (.bipush 6, 2) := by decide +kernel
theorem dL_arrives_236 : decode cL_arrives 236 = .ok (.iload 11, 2) := by decide +kernel
theorem dL_arrives_238 : decode cL_arrives 238 = .ok (.imul, 1) := by decide +kernel
theorem dL_arrives_239 : decode cL_arrives 239 = .ok (.iconst 4, 1) := by decide +kernel
theorem dL_arrives_240 : decode cL_arrives 240 = .ok (.iadd, 1) := by decide +kernel
theorem dL_arrives_241 : decode cL_arrives 241 = .ok (.iconst 0, 1) := by decide +kernel
theorem dL_arrives_242 : decode cL_arrives 242 = .ok (.iastore, 1) := by decide +kernel
theorem dL_arrives_243 : decode cL_arrives 243 = .ok (.iload 11, 2) := by decide +kernel
theorem dL_arrives_245 : decode cL_arrives 245 = .ok (.iconst 1, 1) := by decide +kernel
theorem dL_arrives_246 : decode cL_arrives 246 = .ok (.iconst 0, 1) := by decide +kernel
theorem dL_arrives_247 : decode cL_arrives 247 = .ok (.iconst 0, 1) := by decide +kernel
theorem dL_arrives_248 : decode cL_arrives 248 = .ok (.aload_n 1, 1) := by decide +kernel
theorem dL_arrives_249 : decode cL_arrives 249 = .ok (.aload_n 2, 1) := by decide +kernel
theorem dL_arrives_250 : decode cL_arrives 250 = .ok (.aload 7, 2) := by decide +kernel
theorem dL_arrives_252 : decode cL_arrives 252 = .ok (.aload 8, 2) := by decide +kernel
theorem dL_arrives_254 : decode cL_arrives 254 = .ok (.invokestatic 10, 3) := by decide +kernel
theorem dL_arrives_257 : decode cL_arrives 257 = .ok (.goto 81, 3) := by decide +kernel
theorem dL_arrives_260 : decode cL_arrives 260 = .ok (.iload 12, 2) := by decide +kernel
theorem dL_arrives_262 : decode cL_arrives 262 = .ok (.ifCond .ne 28, 3) := by decide +kernel
theorem dL_arrives_265 : decode cL_arrives 265 = .ok (.iload 11, 2) := by decide +kernel
theorem dL_arrives_267 : decode cL_arrives 267 = .ok (.aload_n 1, 1) := by decide +kernel
theorem dL_arrives_268 : decode cL_arrives 268 = .ok (.iconst 3, 1) := by decide +kernel
theorem dL_arrives_269 : decode cL_arrives 269 = .ok (.iaload, 1) := by decide +kernel
theorem dL_arrives_270 : decode cL_arrives 270 = .ok (.if_icmp .ne 20, 3) := by decide +kernel
theorem dL_arrives_273 : decode cL_arrives 273 = .ok (.aload_n 1, 1) := by decide +kernel
theorem dL_arrives_274 : decode cL_arrives 274 = .ok (.aload_n 2, 1) := by decide +kernel
theorem dL_arrives_275 : decode cL_arrives 275 = .ok (.aload_n 3, 1) := by decide +kernel
theorem dL_arrives_276 : decode cL_arrives 276 = .ok (.aload 6, 2) := by decide +kernel
theorem dL_arrives_278 : decode cL_arrives 278 = .ok (.aload 7, 2) := by decide +kernel
theorem dL_arrives_280 : decode cL_arrives 280 = .ok (.aload 8, 2) := by decide +kernel
theorem dL_arrives_282 : decode cL_arrives 282 = .ok (.aload 9, 2) := by decide +kernel
theorem dL_arrives_284 : decode cL_arrives 284 = .ok (.invokestatic 32, 3) := by decide +kernel
theorem dL_arrives_287 : decode cL_arrives 287 = .ok (.goto 51, 3) := by decide +kernel
theorem dL_arrives_290 : decode cL_arrives 290 = .ok (.iload 12, 2) := by decide +kernel
theorem dL_arrives_292 : decode cL_arrives 292 = .ok (.ifCond .ne 27, 3) := by decide +kernel
theorem dL_arrives_295 : decode cL_arrives 295 = .ok (.aload 4, 2) := by decide +kernel
theorem dL_arrives_297 : decode cL_arrives 297 = .ok (.bipush 21, 2) := by decide +kernel
theorem dL_arrives_299 : decode cL_arrives 299 = .ok (.iload 11, 2) := by decide +kernel
theorem dL_arrives_301 : decode cL_arrives 301 = .ok (.iadd, 1) := by decide +kernel
theorem dL_arrives_302 : decode cL_arrives 302 = .ok (.iaload, 1) := by decide +kernel
theorem dL_arrives_303 : decode cL_arrives 303 = .ok (.ifCond .lt 16, 3) := by decide +kernel
theorem dL_arrives_306 : decode cL_arrives 306 = .ok (.aload 4, 2) := by decide +kernel
theorem dL_arrives_308 : decode cL_arrives 308 = .ok (.iconst 3, 1) := by decide +kernel
theorem dL_arrives_309 : decode cL_arrives 309 = .ok (.iload 11, 2) := by decide +kernel
theorem dL_arrives_311 : decode cL_arrives 311 = .ok (.imul, 1) := by decide +kernel
theorem dL_arrives_312 : decode cL_arrives 312 = .ok (.iconst 1, 1) := by decide +kernel
theorem dL_arrives_313 : decode cL_arrives 313 = .ok (.iadd, 1) := by decide +kernel
theorem dL_arrives_314 : decode cL_arrives 314 = .ok (.iconst 1, 1) := by decide +kernel
theorem dL_arrives_315 : decode cL_arrives 315 = .ok (.iastore, 1) := by decide +kernel
theorem dL_arrives_316 : decode cL_arrives 316 = .ok (.goto 22, 3) := by decide +kernel
theorem dL_arrives_319 : decode cL_arrives 319 = .ok (.iload 12, 2) := by decide +kernel
theorem dL_arrives_321 : decode cL_arrives 321 = .ok (.ifCond .ne 17, 3) := by decide +kernel
theorem dL_arrives_324 : decode cL_arrives 324 = .ok (.iload 11, 2) := by decide +kernel
theorem dL_arrives_326 : decode cL_arrives 326 = .ok (.aload_n 1, 1) := by decide +kernel
theorem dL_arrives_327 : decode cL_arrives 327 = .ok (.aload_n 2, 1) := by decide +kernel
theorem dL_arrives_328 : decode cL_arrives 328 = .ok (.aload_n 3, 1) := by decide +kernel
theorem dL_arrives_329 : decode cL_arrives 329 = .ok (.aload 4, 2) := by decide +kernel
theorem dL_arrives_331 : decode cL_arrives 331 = .ok (.aload 7, 2) := by decide +kernel
theorem dL_arrives_333 : decode cL_arrives 333 = .ok (.aload 8, 2) := by decide +kernel
theorem dL_arrives_335 : decode cL_arrives 335 = .ok (.invokestatic 24, 3) := by decide +kernel
theorem dL_arrives_338 : decode cL_arrives 338 = .ok (.iconst 1, 1) := by decide +kernel
theorem dL_arrives_339 : decode cL_arrives 339 = .ok (.ireturn, 1) := by decide +kernel
theorem dL_builds_0 : decode cL_builds 0 = .ok (.iconst 3, 1) := by decide +kernel
theorem dL_builds_1 : decode cL_builds 1 = .ok (.istore 5, 2) := by decide +kernel
theorem dL_builds_3 : decode cL_builds 3 = .ok (.iload 5, 2) := by decide +kernel
theorem dL_builds_5 : decode cL_builds 5 = .ok (.bipush 13, 2) := by decide +kernel
theorem dL_builds_7 : decode cL_builds 7 = .ok (.if_icmp .ge 14, 3) := by decide +kernel
theorem dL_builds_10 : decode cL_builds 10 = .ok (.aload_n 1, 1) := by decide +kernel
theorem dL_builds_11 : decode cL_builds 11 = .ok (.iload 5, 2) := by decide +kernel
theorem dL_builds_13 : decode cL_builds 13 = .ok (.iconst 0, 1) := by decide +kernel
theorem dL_builds_14 : decode cL_builds 14 = .ok (.iastore, 1) := by decide +kernel
theorem dL_builds_15 : decode cL_builds 15 = .ok (.iinc 5 1, 3) := by decide +kernel
theorem dL_builds_18 : decode cL_builds 18 = .ok (.goto (-15), 3) := by decide +kernel
theorem dL_builds_21 : decode cL_builds 21 = .ok (.aload_n 1, 1) := by decide +kernel
theorem dL_builds_22 : decode cL_builds 22 = .ok (.iconst 3, 1) := by decide +kernel
theorem dL_builds_23 : decode cL_builds 23 = .ok (.iload_n 0, 1) := by decide +kernel
theorem dL_builds_24 : decode cL_builds 24 = .ok (.iastore, 1) := by decide +kernel
theorem dL_builds_25 : decode cL_builds 25 = .ok (.aload_n 1, 1) := by decide +kernel
theorem dL_builds_26 : decode cL_builds 26 = .ok (.bipush 8, 2) := by decide +kernel
theorem dL_builds_28 : decode cL_builds 28 = .ok (.bipush (-5), 2) := by decide +kernel
theorem dL_builds_30 : decode cL_builds 30 = .ok (.iastore, 1) := by decide +kernel
theorem dL_builds_31 : decode cL_builds 31 = .ok (.iconst 0, 1) := by decide +kernel
theorem dL_builds_32 : decode cL_builds 32 = .ok (.istore 5, 2) := by decide +kernel
theorem dL_builds_34 : decode cL_builds 34 = .ok (.iload 5, 2) := by decide +kernel
theorem dL_builds_36 : decode cL_builds 36 = .ok (.bipush 21, 2) := by decide +kernel
theorem dL_builds_38 : decode cL_builds 38 = .ok (.if_icmp .ge 31, 3) := by decide +kernel
theorem dL_builds_41 : decode cL_builds 41 = .ok (.aload_n 2, 1) := by decide +kernel
theorem dL_builds_42 : decode cL_builds 42 = .ok (.iload 5, 2) := by decide +kernel
theorem dL_builds_44 : decode cL_builds 44 = .ok (.iconst 2, 1) := by decide +kernel
theorem dL_builds_45 : decode cL_builds 45 = .ok (.iastore, 1) := by decide +kernel
theorem dL_builds_46 : decode cL_builds 46 = .ok (.aload 4, 2) := by decide +kernel
theorem dL_builds_48 : decode cL_builds 48 = .ok (.iload 5, 2) := by decide +kernel
theorem dL_builds_50 : decode cL_builds 50 = .ok (.iload 5, 2) := by decide +kernel
theorem dL_builds_52 : decode cL_builds 52 = .ok (.iconst 3, 1) := by decide +kernel
theorem dL_builds_53 : decode cL_builds 53 = .ok (.irem, 1) := by decide +kernel
theorem dL_builds_54 : decode cL_builds 54 = .ok (.ifCond .ne 7, 3) := by decide +kernel
theorem dL_builds_57 : decode cL_builds 57 = .ok (.iconst 1, 1) := by decide +kernel
theorem dL_builds_58 : decode cL_builds 58 = .ok (.goto 4, 3) := by decide +kernel
theorem dL_builds_61 : decode cL_builds 61 = .ok (.iconst 0, 1) := by decide +kernel
theorem dL_builds_62 : decode cL_builds 62 = .ok (.iastore, 1) := by decide +kernel
theorem dL_builds_63 : decode cL_builds 63 = .ok (.iinc 5 1, 3) := by decide +kernel
theorem dL_builds_66 : decode cL_builds 66 = .ok (.goto (-32), 3) := by decide +kernel
theorem dL_builds_69 : decode cL_builds 69 = .ok (.iconst 0, 1) := by decide +kernel
theorem dL_builds_70 : decode cL_builds 70 = .ok (.istore 5, 2) := by decide +kernel
theorem dL_builds_72 : decode cL_builds 72 = .ok (.iload 5, 2) := by decide +kernel
theorem dL_builds_74 : decode cL_builds 74 = .ok (.bipush 42, 2) := by decide +kernel
theorem dL_builds_76 : decode cL_builds 76 = .ok (.if_icmp .ge 14, 3) := by decide +kernel
theorem dL_builds_79 : decode cL_builds 79 = .ok (.aload_n 3, 1) := by decide +kernel
theorem dL_builds_80 : decode cL_builds 80 = .ok (.iload 5, 2) := by decide +kernel
theorem dL_builds_82 : decode cL_builds 82 = .ok (.iconst 0, 1) := by decide +kernel
theorem dL_builds_83 : decode cL_builds 83 = .ok (.iastore, 1) := by decide +kernel
theorem dL_builds_84 : decode cL_builds 84 = .ok (.iinc 5 1, 3) := by decide +kernel
theorem dL_builds_87 : decode cL_builds 87 = .ok (.goto (-15), 3) := by decide +kernel
theorem dL_builds_90 : decode cL_builds 90 = .ok (.bipush 21, 2) := by decide +kernel
theorem dL_builds_92 : decode cL_builds 92 = .ok (.istore 5, 2) := by decide +kernel
theorem dL_builds_94 : decode cL_builds 94 = .ok (.iload 5, 2) := by decide +kernel
theorem dL_builds_96 : decode cL_builds 96 = .ok (.bipush 27, 2) := by decide +kernel
theorem dL_builds_98 : decode cL_builds 98 = .ok (.if_icmp .ge 15, 3) := by decide +kernel
theorem dL_builds_101 : decode cL_builds 101 = .ok (.aload 4, 2) := by decide +kernel
theorem dL_builds_103 : decode cL_builds 103 = .ok (.iload 5, 2) := by decide +kernel
theorem dL_builds_105 : decode cL_builds 105 = .ok (.iconst (-1), 1) := by decide +kernel
theorem dL_builds_106 : decode cL_builds 106 = .ok (.iastore, 1) := by decide +kernel
theorem dL_builds_107 : decode cL_builds 107 = .ok (.iinc 5 1, 3) := by decide +kernel
theorem dL_builds_110 : decode cL_builds 110 = .ok (.goto (-16), 3) := by decide +kernel
theorem dL_builds_113 : decode cL_builds 113 = .ok (.return_, 1) := by decide +kernel
theorem dL_fullOnes_0 : decode cL_fullOnes 0 = .ok (.iconst 0, 1) := by decide +kernel
theorem dL_fullOnes_1 : decode cL_fullOnes 1 = .ok (.istore_n 2, 1) := by decide +kernel
theorem dL_fullOnes_2 : decode cL_fullOnes 2 = .ok (.iconst 0, 1) := by decide +kernel
theorem dL_fullOnes_3 : decode cL_fullOnes 3 = .ok (.istore_n 3, 1) := by decide +kernel
theorem dL_fullOnes_4 : decode cL_fullOnes 4 = .ok (.iload_n 3, 1) := by decide +kernel
theorem dL_fullOnes_5 : decode cL_fullOnes 5 = .ok (.aload_n 0, 1) := by decide +kernel
theorem dL_fullOnes_6 : decode cL_fullOnes 6 = .ok (.iconst 3, 1) := by decide +kernel
theorem dL_fullOnes_7 : decode cL_fullOnes 7 = .ok (.iaload, 1) := by decide +kernel
theorem dL_fullOnes_8 : decode cL_fullOnes 8 = .ok (.if_icmp .ge 26, 3) := by decide +kernel
theorem dL_fullOnes_11 : decode cL_fullOnes 11 = .ok (.iload_n 2, 1) := by decide +kernel
theorem dL_fullOnes_12 : decode cL_fullOnes 12 = .ok (.aload_n 1, 1) := by decide +kernel
theorem dL_fullOnes_13 : decode cL_fullOnes 13 = .ok (.bipush 21, 2) := by decide +kernel
theorem dL_fullOnes_15 : decode cL_fullOnes 15 = .ok (.iload_n 3, 1) := by decide +kernel
theorem dL_fullOnes_16 : decode cL_fullOnes 16 = .ok (.iadd, 1) := by decide +kernel
theorem dL_fullOnes_17 : decode cL_fullOnes 17 = .ok (.iaload, 1) := by decide +kernel
theorem dL_fullOnes_18 : decode cL_fullOnes 18 = .ok (.ifCond .lt 7, 3) := by decide +kernel
theorem dL_fullOnes_21 : decode cL_fullOnes 21 = .ok (.iconst 1, 1) := by decide +kernel
theorem dL_fullOnes_22 : decode cL_fullOnes 22 = .ok (.goto 4, 3) := by decide +kernel
theorem dL_fullOnes_25 : decode cL_fullOnes 25 = .ok (.iconst 0, 1) := by decide +kernel
theorem dL_fullOnes_26 : decode cL_fullOnes 26 = .ok (.iadd, 1) := by decide +kernel
theorem dL_fullOnes_27 : decode cL_fullOnes 27 = .ok (.istore_n 2, 1) := by decide +kernel
theorem dL_fullOnes_28 : decode cL_fullOnes 28 = .ok (.iinc 3 1, 3) := by decide +kernel
theorem dL_fullOnes_31 : decode cL_fullOnes 31 = .ok (.goto (-27), 3) := by decide +kernel
theorem dL_fullOnes_34 : decode cL_fullOnes 34 = .ok (.iload_n 2, 1) := by decide +kernel
theorem dL_fullOnes_35 : decode cL_fullOnes 35 = .ok (.ireturn, 1) := by decide +kernel
theorem dL_isSo_0 : decode cL_isSo 0 = .ok (.iload_n 1, 1) := by decide +kernel
theorem dL_isSo_1 : decode cL_isSo 1 = .ok (.aload_n 2, 1) := by decide +kernel
theorem dL_isSo_2 : decode cL_isSo 2 = .ok (.iconst 3, 1) := by decide +kernel
theorem dL_isSo_3 : decode cL_isSo 3 = .ok (.iaload, 1) := by decide +kernel
theorem dL_isSo_4 : decode cL_isSo 4 = .ok (.iconst 1, 1) := by decide +kernel
theorem dL_isSo_5 : decode cL_isSo 5 = .ok (.iadd, 1) := by decide +kernel
theorem dL_isSo_6 : decode cL_isSo 6 = .ok (.invokestatic 36, 3) := by decide +kernel
theorem dL_isSo_9 : decode cL_isSo 9 = .ok (.istore 9, 2) := by decide +kernel
theorem dL_isSo_11 : decode cL_isSo 11 = .ok (.iconst 1, 1) := by decide +kernel
theorem dL_isSo_12 : decode cL_isSo 12 = .ok (.istore 10, 2) := by decide +kernel
theorem dL_isSo_14 : decode cL_isSo 14 = .ok (.bipush (-5), 2) := by decide +kernel
theorem dL_isSo_16 : decode cL_isSo 16 = .ok (.istore 11, 2) := by decide +kernel
theorem dL_isSo_18 : decode cL_isSo 18 = .ok (.iconst 0, 1) := by decide +kernel
theorem dL_isSo_19 : decode cL_isSo 19 = .ok (.istore 12, 2) := by decide +kernel
theorem dL_isSo_21 : decode cL_isSo 21 = .ok (.iload 12, 2) := by decide +kernel
theorem dL_isSo_23 : decode cL_isSo 23 = .ok (.aload_n 2, 1) := by decide +kernel
theorem dL_isSo_24 : decode cL_isSo 24 = .ok (.bipush 10, 2) := by decide +kernel
theorem dL_isSo_26 : decode cL_isSo 26 = .ok (.iaload, 1) := by decide +kernel
theorem dL_isSo_27 : decode cL_isSo 27 = .ok (.if_icmp .ge 36, 3) := by decide +kernel
theorem dL_isSo_30 : decode cL_isSo 30 = .ok (.iload 11, 2) := by decide +kernel
theorem dL_isSo_32 : decode cL_isSo 32 = .ok (.ifCond .lt 13, 3) := by decide +kernel
theorem dL_isSo_35 : decode cL_isSo 35 = .ok (.aload 7, 2) := by decide +kernel
theorem dL_isSo_37 : decode cL_isSo 37 = .ok (.iload 12, 2) := by decide +kernel
theorem dL_isSo_39 : decode cL_isSo 39 = .ok (.iaload, 1) := by decide +kernel
theorem dL_isSo_40 : decode cL_isSo 40 = .ok (.iload 11, 2) := by decide +kernel
theorem dL_isSo_42 : decode cL_isSo 42 = .ok (.if_icmp .ge 11, 3) := by decide +kernel
theorem dL_isSo_45 : decode cL_isSo 45 = .ok (.aload 7, 2) := by decide +kernel
theorem dL_isSo_47 : decode cL_isSo 47 = .ok (.iload 12, 2) := by decide +kernel
theorem dL_isSo_49 : decode cL_isSo 49 = .ok (.iaload, 1) := by decide +kernel
theorem dL_isSo_50 : decode cL_isSo 50 = .ok (.goto 5, 3) := by decide +kernel
theorem dL_isSo_53 : decode cL_isSo 53 = .ok (.iload 11, 2) := by decide +kernel
theorem dL_isSo_55 : decode cL_isSo 55 = .ok (.istore 11, 2) := by decide +kernel
theorem dL_isSo_57 : decode cL_isSo 57 = .ok (.iinc 12 1, 3) := by decide +kernel
theorem dL_isSo_60 : decode cL_isSo 60 = .ok (.goto (-39), 3) := by decide +kernel
theorem dL_isSo_63 : decode cL_isSo 63 = .ok (.iconst 0, 1) := by decide +kernel
theorem dL_isSo_64 : decode cL_isSo 64 = .ok (.istore 12, 2) := by decide +kernel
theorem dL_isSo_66 : decode cL_isSo 66 = .ok (.iload 12, 2) := by decide +kernel
theorem dL_isSo_68 : decode cL_isSo 68 = .ok (.iconst 3, 1) := by decide +kernel
theorem dL_isSo_69 : decode cL_isSo 69 = .ok (.if_icmp .ge 83, 3) := by decide +kernel
theorem dL_isSo_72 : decode cL_isSo 72 = .ok (.iload 10, 2) := by decide +kernel
theorem dL_isSo_74 : decode cL_isSo 74 = .ok (.ifCond .eq 69, 3) := by decide +kernel
theorem dL_isSo_77 : decode cL_isSo 77 = .ok (.aload_n 0, 1) := by decide +kernel
theorem dL_isSo_78 : decode cL_isSo 78 = .ok (.iload 9, 2) := by decide +kernel
theorem dL_isSo_80 : decode cL_isSo 80 = .ok (.iload 12, 2) := by decide +kernel
theorem dL_isSo_82 : decode cL_isSo 82 = .ok (.invokevirtual 40, 3) := by decide +kernel
theorem dL_isSo_85 : decode cL_isSo 85 = .ok (.aload_n 3, 1) := by decide +kernel
theorem dL_isSo_86 : decode cL_isSo 86 = .ok (.iconst 3, 1) := by decide +kernel
theorem dL_isSo_87 : decode cL_isSo 87 = .ok (.iload 9, 2) := by decide +kernel
theorem dL_isSo_89 : decode cL_isSo 89 = .ok (.imul, 1) := by decide +kernel
theorem dL_isSo_90 : decode cL_isSo 90 = .ok (.iload 12, 2) := by decide +kernel
theorem dL_isSo_92 : decode cL_isSo 92 = .ok (.iadd, 1) := by decide +kernel
theorem dL_isSo_93 : decode cL_isSo 93 = .ok (.iaload, 1) := by decide +kernel
theorem dL_isSo_94 : decode cL_isSo 94 = .ok (.if_icmp .ne 49, 3) := by decide +kernel
theorem dL_isSo_97 : decode cL_isSo 97 = .ok (.aload_n 0, 1) := by decide +kernel
theorem dL_isSo_98 : decode cL_isSo 98 = .ok (.bipush 10, 2) := by decide +kernel
theorem dL_isSo_100 : decode cL_isSo 100 = .ok (.iload 12, 2) := by decide +kernel
theorem dL_isSo_102 : decode cL_isSo 102 = .ok (.iadd, 1) := by decide +kernel
theorem dL_isSo_103 : decode cL_isSo 103 = .ok (.invokevirtual 45, 3) := by decide +kernel
theorem dL_isSo_106 : decode cL_isSo 106 = .ok (.aload_n 2, 1) := by decide +kernel
theorem dL_isSo_107 : decode cL_isSo 107 = .ok (.iload 12, 2) := by decide +kernel
theorem dL_isSo_109 : decode cL_isSo 109 = .ok (.iaload, 1) := by decide +kernel
theorem dL_isSo_110 : decode cL_isSo 110 = .ok (.if_icmp .ne 33, 3) := by decide +kernel
theorem dL_isSo_113 : decode cL_isSo 113 = .ok (.aload_n 0, 1) := by decide +kernel
theorem dL_isSo_114 : decode cL_isSo 114 = .ok (.iconst 0, 1) := by decide +kernel
theorem dL_isSo_115 : decode cL_isSo 115 = .ok (.iload 12, 2) := by decide +kernel
theorem dL_isSo_117 : decode cL_isSo 117 = .ok (.invokevirtual 49, 3) := by decide +kernel
theorem dL_isSo_120 : decode cL_isSo 120 = .ok (.aload_n 2, 1) := by decide +kernel
theorem dL_isSo_121 : decode cL_isSo 121 = .ok (.iconst 5, 1) := by decide +kernel
theorem dL_isSo_122 : decode cL_isSo 122 = .ok (.iaload, 1) := by decide +kernel
theorem dL_isSo_123 : decode cL_isSo 123 = .ok (.ifCond .ne 8, 3) := by decide +kernel
theorem dL_isSo_126 : decode cL_isSo 126 = .ok (.bipush (-5), 2) := by decide +kernel
theorem dL_isSo_128 : decode cL_isSo 128 = .ok (.goto 8, 3) := by decide +kernel
theorem dL_isSo_131 : decode cL_isSo 131 = .ok (.aload 8, 2) := by decide +kernel
theorem dL_isSo_133 : decode cL_isSo 133 = .ok (.iload 12, 2) := by decide +kernel
theorem dL_isSo_135 : decode cL_isSo 135 = .ok (.iaload, 1) := by decide +kernel
theorem dL_isSo_136 : decode cL_isSo 136 = .ok (.if_icmp .ne 7, 3) := by decide +kernel
theorem dL_isSo_139 : decode cL_isSo 139 = .ok (.iconst 1, 1) := by decide +kernel
theorem dL_isSo_140 : decode cL_isSo 140 = .ok (.goto 4, 3) := by decide +kernel
theorem dL_isSo_143 : decode cL_isSo 143 = .ok (.iconst 0, 1) := by decide +kernel
theorem dL_isSo_144 : decode cL_isSo 144 = .ok (.istore 10, 2) := by decide +kernel
theorem dL_isSo_146 : decode cL_isSo 146 = .ok (.iinc 12 1, 3) := by decide +kernel
theorem dL_isSo_149 : decode cL_isSo 149 = .ok (.goto (-83), 3) := by decide +kernel
theorem dL_isSo_152 : decode cL_isSo 152 = .ok (.iload 10, 2) := by decide +kernel
theorem dL_isSo_154 : decode cL_isSo 154 = .ok (.ifCond .eq 223, 3) := by decide +kernel
theorem dL_isSo_157 : decode cL_isSo 157 = .ok (.aload_n 0, 1) := by decide +kernel
theorem dL_isSo_158 : decode cL_isSo 158 = .ok (.iload 9, 2) := by decide +kernel
theorem dL_isSo_160 : decode cL_isSo 160 = .ok (.iconst 3, 1) := by decide +kernel
theorem dL_isSo_161 : decode cL_isSo 161 = .ok (.invokevirtual 40, 3) := by decide +kernel
theorem dL_isSo_164 : decode cL_isSo 164 = .ok (.aload 4, 2) := by decide +kernel
theorem dL_isSo_166 : decode cL_isSo 166 = .ok (.bipush 6, 2) := by decide +kernel
theorem dL_isSo_168 : decode cL_isSo 168 = .ok (.iload 9, 2) := by decide +kernel
theorem dL_isSo_170 : decode cL_isSo 170 = .ok (.imul, 1) := by decide +kernel
theorem dL_isSo_171 : decode cL_isSo 171 = .ok (.iaload, 1) := by decide +kernel
theorem dL_isSo_172 : decode cL_isSo 172 = .ok (.if_icmp .ne 205, 3) := by decide +kernel
theorem dL_isSo_175 : decode cL_isSo 175 = .ok (.aload_n 0, 1) := by decide +kernel
theorem dL_isSo_176 : decode cL_isSo 176 = .ok (.iload 9, 2) := by decide +kernel
theorem dL_isSo_178 : decode cL_isSo 178 = .ok (.iconst 4, 1) := by decide +kernel
theorem dL_isSo_179 : decode cL_isSo 179 = .ok (.invokevirtual 40, 3) := by decide +kernel
theorem dL_isSo_182 : decode cL_isSo 182 = .ok (.aload 4, 2) := by decide +kernel
theorem dL_isSo_184 : decode cL_isSo 184 = .ok (.bipush 6, 2) := by decide +kernel
theorem dL_isSo_186 : decode cL_isSo 186 = .ok (.iload 9, 2) := by decide +kernel
theorem dL_isSo_188 : decode cL_isSo 188 = .ok (.imul, 1) := by decide +kernel
theorem dL_isSo_189 : decode cL_isSo 189 = .ok (.iconst 3, 1) := by decide +kernel
theorem dL_isSo_190 : decode cL_isSo 190 = .ok (.iadd, 1) := by decide +kernel
theorem dL_isSo_191 : decode cL_isSo 191 = .ok (.iaload, 1) := by decide +kernel
theorem dL_isSo_192 : decode cL_isSo 192 = .ok (.if_icmp .ne 185, 3) := by decide +kernel
theorem dL_isSo_195 : decode cL_isSo 195 = .ok (.aload_n 0, 1) := by decide +kernel
theorem dL_isSo_196 : decode cL_isSo 196 = .ok (.iload 9, 2) := by decide +kernel
theorem dL_isSo_198 : decode cL_isSo 198 = .ok (.iconst 5, 1) := by decide +kernel
theorem dL_isSo_199 : decode cL_isSo 199 = .ok (.invokevirtual 40, 3) := by decide +kernel
theorem dL_isSo_202 : decode cL_isSo 202 = .ok (.aload 4, 2) := by decide +kernel
theorem dL_isSo_204 : decode cL_isSo 204 = .ok (.bipush 6, 2) := by decide +kernel
theorem dL_isSo_206 : decode cL_isSo 206 = .ok (.iload 9, 2) := by decide +kernel
theorem dL_isSo_208 : decode cL_isSo 208 = .ok (.imul, 1) := by decide +kernel
theorem dL_isSo_209 : decode cL_isSo 209 = .ok (.iconst 4, 1) := by decide +kernel
theorem dL_isSo_210 : decode cL_isSo 210 = .ok (.iadd, 1) := by decide +kernel
theorem dL_isSo_211 : decode cL_isSo 211 = .ok (.iaload, 1) := by decide +kernel
theorem dL_isSo_212 : decode cL_isSo 212 = .ok (.if_icmp .ne 165, 3) := by decide +kernel
theorem dL_isSo_215 : decode cL_isSo 215 = .ok (.aload_n 0, 1) := by decide +kernel
theorem dL_isSo_216 : decode cL_isSo 216 = .ok (.iload 9, 2) := by decide +kernel
theorem dL_isSo_218 : decode cL_isSo 218 = .ok (.bipush 6, 2) := by decide +kernel
theorem dL_isSo_220 : decode cL_isSo 220 = .ok (.invokevirtual 40, 3) := by decide +kernel
theorem dL_isSo_223 : decode cL_isSo 223 = .ok (.aload 4, 2) := by decide +kernel
theorem dL_isSo_225 : decode cL_isSo 225 = .ok (.bipush 6, 2) := by decide +kernel
theorem dL_isSo_227 : decode cL_isSo 227 = .ok (.iload 9, 2) := by decide +kernel
theorem dL_isSo_229 : decode cL_isSo 229 = .ok (.imul, 1) := by decide +kernel
theorem dL_isSo_230 : decode cL_isSo 230 = .ok (.iconst 1, 1) := by decide +kernel
theorem dL_isSo_231 : decode cL_isSo 231 = .ok (.iadd, 1) := by decide +kernel
theorem dL_isSo_232 : decode cL_isSo 232 = .ok (.iaload, 1) := by decide +kernel
theorem dL_isSo_233 : decode cL_isSo 233 = .ok (.if_icmp .ne 144, 3) := by decide +kernel
theorem dL_isSo_236 : decode cL_isSo 236 = .ok (.aload_n 0, 1) := by decide +kernel
theorem dL_isSo_237 : decode cL_isSo 237 = .ok (.iload 9, 2) := by decide +kernel
theorem dL_isSo_239 : decode cL_isSo 239 = .ok (.bipush 7, 2) := by decide +kernel
theorem dL_isSo_241 : decode cL_isSo 241 = .ok (.invokevirtual 40, 3) := by decide +kernel
theorem dL_isSo_244 : decode cL_isSo 244 = .ok (.aload 4, 2) := by decide +kernel
theorem dL_isSo_246 : decode cL_isSo 246 = .ok (.bipush 6, 2) := by decide +kernel
theorem dL_isSo_248 : decode cL_isSo 248 = .ok (.iload 9, 2) := by decide +kernel
theorem dL_isSo_250 : decode cL_isSo 250 = .ok (.imul, 1) := by decide +kernel
theorem dL_isSo_251 : decode cL_isSo 251 = .ok (.iconst 2, 1) := by decide +kernel
theorem dL_isSo_252 : decode cL_isSo 252 = .ok (.iadd, 1) := by decide +kernel
theorem dL_isSo_253 : decode cL_isSo 253 = .ok (.iaload, 1) := by decide +kernel
theorem dL_isSo_254 : decode cL_isSo 254 = .ok (.if_icmp .ne 123, 3) := by decide +kernel
theorem dL_isSo_257 : decode cL_isSo 257 = .ok (.aload_n 0, 1) := by decide +kernel
theorem dL_isSo_258 : decode cL_isSo 258 = .ok (.iload 9, 2) := by decide +kernel
theorem dL_isSo_260 : decode cL_isSo 260 = .ok (.bipush 8, 2) := by decide +kernel
theorem dL_isSo_262 : decode cL_isSo 262 = .ok (.invokevirtual 40, 3) := by decide +kernel
