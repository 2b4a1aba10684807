theorem dX2_letOneGo_44 : decode cX2_letOneGo 44 = .ok (.irem, 1) := by decide +kernel
theorem dX2_letOneGo_45 : decode cX2_letOneGo 45 = .ok (.iload_n 3, 1) := by decide +kernel
theorem dX2_letOneGo_46 : decode cX2_letOneGo 46 = .ok (.iastore, 1) := by decide +kernel
theorem dX2_letOneGo_47 : decode cX2_letOneGo 47 = .ok (.aload_n 0, 1) := by decide +kernel
theorem dX2_letOneGo_48 : decode cX2_letOneGo 48 = .ok (.dup, 1) := by decide +kernel
theorem dX2_letOneGo_49 : decode cX2_letOneGo 49 = .ok (.getfield 63, 3) := by decide +kernel
theorem dX2_letOneGo_52 : decode cX2_letOneGo 52 = .ok (.iconst 1, 1) := by decide +kernel
theorem dX2_letOneGo_53 : decode cX2_letOneGo 53 = .ok (.iadd, 1) := by decide +kernel
theorem dX2_letOneGo_54 : decode cX2_letOneGo 54 = .ok (.putfield 63, 3) := by decide +kernel
theorem dX2_letOneGo_57 : decode cX2_letOneGo 57 = .ok (.iload_n 3, 1) := by decide +kernel
theorem dX2_letOneGo_58 : decode cX2_letOneGo 58 = .ok (.ireturn, 1) := by decide +kernel
theorem dX2_chosenSender_0 : decode cX2_chosenSender 0 = .ok (.aload_n 0, 1) := by decide +kernel
theorem dX2_chosenSender_1 : decode cX2_chosenSender 1 = .ok (.getfield 26, 3) := by decide +kernel
theorem dX2_chosenSender_4 : decode cX2_chosenSender 4 = .ok (.iconst 1, 1) := by decide +kernel
theorem dX2_chosenSender_5 : decode cX2_chosenSender 5 = .ok (.aaload, 1) := by decide +kernel
theorem dX2_chosenSender_6 : decode cX2_chosenSender 6 = .ok (.getfield 72, 3) := by decide +kernel
theorem dX2_chosenSender_9 : decode cX2_chosenSender 9 = .ok (.ifCond .ne 5, 3) := by decide +kernel
theorem dX2_chosenSender_12 : decode cX2_chosenSender 12 = .ok (.iconst 0, 1) := by decide +kernel
theorem dX2_chosenSender_13 : decode cX2_chosenSender 13 = .ok (.ireturn, 1) := by decide +kernel
theorem dX2_chosenSender_14 : decode cX2_chosenSender 14 = .ok (.aload_n 0, 1) := by decide +kernel
theorem dX2_chosenSender_15 : decode cX2_chosenSender 15 = .ok (.getfield 26, 3) := by decide +kernel
theorem dX2_chosenSender_18 : decode cX2_chosenSender 18 = .ok (.iconst 0, 1) := by decide +kernel
theorem dX2_chosenSender_19 : decode cX2_chosenSender 19 = .ok (.aaload, 1) := by decide +kernel
theorem dX2_chosenSender_20 : decode cX2_chosenSender 20 = .ok (.getfield 72, 3) := by decide +kernel
theorem dX2_chosenSender_23 : decode cX2_chosenSender 23 = .ok (.ifCond .ne 5, 3) := by decide +kernel
theorem dX2_chosenSender_26 : decode cX2_chosenSender 26 = .ok (.iconst 1, 1) := by decide +kernel
theorem dX2_chosenSender_27 : decode cX2_chosenSender 27 = .ok (.ireturn, 1) := by decide +kernel
theorem dX2_chosenSender_28 : decode cX2_chosenSender 28 = .ok (.aload_n 0, 1) := by decide +kernel
theorem dX2_chosenSender_29 : decode cX2_chosenSender 29 = .ok (.getfield 9, 3) := by decide +kernel
theorem dX2_chosenSender_32 : decode cX2_chosenSender 32 = .ok (.iconst 2, 1) := by decide +kernel
theorem dX2_chosenSender_33 : decode cX2_chosenSender 33 = .ok (.iaload, 1) := by decide +kernel
theorem dX2_chosenSender_34 : decode cX2_chosenSender 34 = .ok (.ifCond .ne 14, 3) := by decide +kernel
theorem dX2_chosenSender_37 : decode cX2_chosenSender 37 = .ok (.aload_n 0, 1) := by decide +kernel
theorem dX2_chosenSender_38 : decode cX2_chosenSender 38 = .ok (.getfield 60, 3) := by decide +kernel
theorem dX2_chosenSender_41 : decode cX2_chosenSender 41 = .ok (.ifCond .ne 7, 3) := by decide +kernel
theorem dX2_chosenSender_44 : decode cX2_chosenSender 44 = .ok (.iconst 1, 1) := by decide +kernel
theorem dX2_chosenSender_45 : decode cX2_chosenSender 45 = .ok (.goto 4, 3) := by decide +kernel
theorem dX2_chosenSender_48 : decode cX2_chosenSender 48 = .ok (.iconst 0, 1) := by decide +kernel
theorem dX2_chosenSender_49 : decode cX2_chosenSender 49 = .ok (.ireturn, 1) := by decide +kernel
theorem dX2_noteWord_0 : decode cX2_noteWord 0 = .ok (.iload_n 1, 1) := by decide +kernel
theorem dX2_noteWord_1 : decode cX2_noteWord 1 = .ok (.aload_n 0, 1) := by decide +kernel
theorem dX2_noteWord_2 : decode cX2_noteWord 2 = .ok (.getfield 44, 3) := by decide +kernel
theorem dX2_noteWord_5 : decode cX2_noteWord 5 = .ok (.aload_n 0, 1) := by decide +kernel
theorem dX2_noteWord_6 : decode cX2_noteWord 6 = .ok (.getfield 40, 3) := by decide +kernel
theorem dX2_noteWord_9 : decode cX2_noteWord 9 = .ok (.getfield 119, 3) := by decide +kernel
theorem dX2_noteWord_12 : decode cX2_noteWord 12 = .ok (.bipush 8, 2) := by decide +kernel
theorem dX2_noteWord_14 : decode cX2_noteWord 14 = .ok (.irem, 1) := by decide +kernel
theorem dX2_noteWord_15 : decode cX2_noteWord 15 = .ok (.iaload, 1) := by decide +kernel
theorem dX2_noteWord_16 : decode cX2_noteWord 16 = .ok (.if_icmp .ne 7, 3) := by decide +kernel
theorem dX2_noteWord_19 : decode cX2_noteWord 19 = .ok (.iconst 1, 1) := by decide +kernel
theorem dX2_noteWord_20 : decode cX2_noteWord 20 = .ok (.goto 4, 3) := by decide +kernel
theorem dX2_noteWord_23 : decode cX2_noteWord 23 = .ok (.iconst 0, 1) := by decide +kernel
theorem dX2_noteWord_24 : decode cX2_noteWord 24 = .ok (.istore_n 2, 1) := by decide +kernel
theorem dX2_noteWord_25 : decode cX2_noteWord 25 = .ok (.aload_n 0, 1) := by decide +kernel
theorem dX2_noteWord_26 : decode cX2_noteWord 26 = .ok (.getfield 40, 3) := by decide +kernel
theorem dX2_noteWord_29 : decode cX2_noteWord 29 = .ok (.iload_n 1, 1) := by decide +kernel
theorem dX2_noteWord_30 : decode cX2_noteWord 30 = .ok (.aload_n 0, 1) := by decide +kernel
theorem dX2_noteWord_31 : decode cX2_noteWord 31 = .ok (.getfield 57, 3) := by decide +kernel
theorem dX2_noteWord_34 : decode cX2_noteWord 34 = .ok (.iload_n 2, 1) := by decide +kernel
theorem dX2_noteWord_35 : decode cX2_noteWord 35 = .ok (.ifCond .eq 7, 3) := by decide +kernel
theorem dX2_noteWord_38 : decode cX2_noteWord 38 = .ok (.iconst 1, 1) := by decide +kernel
theorem dX2_noteWord_39 : decode cX2_noteWord 39 = .ok (.goto 4, 3) := by decide +kernel
theorem dX2_noteWord_42 : decode cX2_noteWord 42 = .ok (.iconst 0, 1) := by decide +kernel
theorem dX2_noteWord_43 : decode cX2_noteWord 43 = .ok (.invokevirtual 178, 3) := by decide +kernel
theorem dX2_noteWord_46 : decode cX2_noteWord 46 = .ok (.return_, 1) := by decide +kernel
theorem dX2_offer_0 : decode cX2_offer 0 = .ok (.aload_n 0, 1) := by decide +kernel
theorem dX2_offer_1 : decode cX2_offer 1 = .ok (.getfield 17, 3) := by decide +kernel
theorem dX2_offer_4 : decode cX2_offer 4 = .ok (.iload_n 1, 1) := by decide +kernel
theorem dX2_offer_5 : decode cX2_offer 5 = .ok (.aaload, 1) := by decide +kernel
theorem dX2_offer_6 : decode cX2_offer 6 = .ok (.astore_n 3, 1) := by decide +kernel
theorem dX2_offer_7 : decode cX2_offer 7 = .ok (.aload_n 3, 1) := by decide +kernel
theorem dX2_offer_8 : decode cX2_offer 8 = .ok (.iload_n 2, 1) := by decide +kernel
theorem dX2_offer_9 : decode cX2_offer 9 = .ok (.putfield 180, 3) := by decide +kernel
theorem dX2_offer_12 : decode cX2_offer 12 = .ok (.aload_n 0, 1) := by decide +kernel
theorem dX2_offer_13 : decode cX2_offer 13 = .ok (.getfield 33, 3) := by decide +kernel
theorem dX2_offer_16 : decode cX2_offer 16 = .ok (.aload_n 0, 1) := by decide +kernel
theorem dX2_offer_17 : decode cX2_offer 17 = .ok (.getfield 57, 3) := by decide +kernel
theorem dX2_offer_20 : decode cX2_offer 20 = .ok (.aload_n 3, 1) := by decide +kernel
theorem dX2_offer_21 : decode cX2_offer 21 = .ok (.getfield 115, 3) := by decide +kernel
theorem dX2_offer_24 : decode cX2_offer 24 = .ok (.iconst 2, 1) := by decide +kernel
theorem dX2_offer_25 : decode cX2_offer 25 = .ok (.iaload, 1) := by decide +kernel
theorem dX2_offer_26 : decode cX2_offer 26 = .ok (.iadd, 1) := by decide +kernel
theorem dX2_offer_27 : decode cX2_offer 27 = .ok (.iload_n 1, 1) := by decide +kernel
theorem dX2_offer_28 : decode cX2_offer 28 = .ok (.iconst 2, 1) := by decide +kernel
theorem dX2_offer_29 : decode cX2_offer 29 = .ok (.iload_n 2, 1) := by decide +kernel
theorem dX2_offer_30 : decode cX2_offer 30 = .ok (.invokevirtual 183, 3) := by decide +kernel
theorem dX2_offer_33 : decode cX2_offer 33 = .ok (.aload_n 0, 1) := by decide +kernel
theorem dX2_offer_34 : decode cX2_offer 34 = .ok (.iload_n 1, 1) := by decide +kernel
theorem dX2_offer_35 : decode cX2_offer 35 = .ok (.iconst 1, 1) := by decide +kernel
theorem dX2_offer_36 : decode cX2_offer 36 = .ok (.aload_n 0, 1) := by decide +kernel
theorem dX2_offer_37 : decode cX2_offer 37 = .ok (.getfield 9, 3) := by decide +kernel
theorem dX2_offer_40 : decode cX2_offer 40 = .ok (.iconst 0, 1) := by decide +kernel
theorem dX2_offer_41 : decode cX2_offer 41 = .ok (.iaload, 1) := by decide +kernel
theorem dX2_offer_42 : decode cX2_offer 42 = .ok (.invokevirtual 170, 3) := by decide +kernel
theorem dX2_offer_45 : decode cX2_offer 45 = .ok (.aload_n 3, 1) := by decide +kernel
theorem dX2_offer_46 : decode cX2_offer 46 = .ok (.iconst 0, 1) := by decide +kernel
theorem dX2_offer_47 : decode cX2_offer 47 = .ok (.putfield 99, 3) := by decide +kernel
theorem dX2_offer_50 : decode cX2_offer 50 = .ok (.aload_n 3, 1) := by decide +kernel
theorem dX2_offer_51 : decode cX2_offer 51 = .ok (.dup, 1) := by decide +kernel
theorem dX2_offer_52 : decode cX2_offer 52 = .ok (.getfield 187, 3) := by decide +kernel
theorem dX2_offer_55 : decode cX2_offer 55 = .ok (.iconst 1, 1) := by decide +kernel
theorem dX2_offer_56 : decode cX2_offer 56 = .ok (.iadd, 1) := by decide +kernel
theorem dX2_offer_57 : decode cX2_offer 57 = .ok (.putfield 187, 3) := by decide +kernel
theorem dX2_offer_60 : decode cX2_offer 60 = .ok (.return_, 1) := by decide +kernel
theorem dX2_makeRequest_0 : decode cX2_makeRequest 0 = .ok (.aload_n 0, 1) := by decide +kernel
theorem dX2_makeRequest_1 : decode cX2_makeRequest 1 = .ok (.getfield 17, 3) := by decide +kernel
theorem dX2_makeRequest_4 : decode cX2_makeRequest 4 = .ok (.iload_n 1, 1) := by decide +kernel
theorem dX2_makeRequest_5 : decode cX2_makeRequest 5 = .ok (.aaload, 1) := by decide +kernel
theorem dX2_makeRequest_6 : decode cX2_makeRequest 6 = .ok (.iload_n 2, 1) := by decide +kernel
theorem dX2_makeRequest_7 : decode cX2_makeRequest 7 = .ok (.putfield 188, 3) := by decide +kernel
theorem dX2_makeRequest_10 : decode cX2_makeRequest 10 = .ok (.aload_n 0, 1) := by decide +kernel
theorem dX2_makeRequest_11 : decode cX2_makeRequest 11 = .ok (.getfield 33, 3) := by decide +kernel
theorem dX2_makeRequest_14 : decode cX2_makeRequest 14 = .ok (.aload_n 0, 1) := by decide +kernel
theorem dX2_makeRequest_15 : decode cX2_makeRequest 15 = .ok (.getfield 57, 3) := by decide +kernel
theorem dX2_makeRequest_18 : decode cX2_makeRequest 18 = .ok (.aload_n 0, 1) := by decide +kernel
theorem dX2_makeRequest_19 : decode cX2_makeRequest 19 = .ok (.getfield 17, 3) := by decide +kernel
theorem dX2_makeRequest_22 : decode cX2_makeRequest 22 = .ok (.iload_n 1, 1) := by decide +kernel
theorem dX2_makeRequest_23 : decode cX2_makeRequest 23 = .ok (.aaload, 1) := by decide +kernel
theorem dX2_makeRequest_24 : decode cX2_makeRequest 24 = .ok (.getfield 115, 3) := by decide +kernel
theorem dX2_makeRequest_27 : decode cX2_makeRequest 27 = .ok (.iconst 0, 1) := by decide +kernel
theorem dX2_makeRequest_28 : decode cX2_makeRequest 28 = .ok (.iaload, 1) := by decide +kernel
theorem dX2_makeRequest_29 : decode cX2_makeRequest 29 = .ok (.iadd, 1) := by decide +kernel
theorem dX2_makeRequest_30 : decode cX2_makeRequest 30 = .ok (.iload_n 3, 1) := by decide +kernel
theorem dX2_makeRequest_31 : decode cX2_makeRequest 31 = .ok (.iadd, 1) := by decide +kernel
theorem dX2_makeRequest_32 : decode cX2_makeRequest 32 = .ok (.iload_n 1, 1) := by decide +kernel
theorem dX2_makeRequest_33 : decode cX2_makeRequest 33 = .ok (.iconst 0, 1) := by decide +kernel
theorem dX2_makeRequest_34 : decode cX2_makeRequest 34 = .ok (.iload_n 2, 1) := by decide +kernel
theorem dX2_makeRequest_35 : decode cX2_makeRequest 35 = .ok (.invokevirtual 183, 3) := by decide +kernel
theorem dX2_makeRequest_38 : decode cX2_makeRequest 38 = .ok (.return_, 1) := by decide +kernel
theorem dX2_makeAnswer_0 : decode cX2_makeAnswer 0 = .ok (.aload_n 0, 1) := by decide +kernel
theorem dX2_makeAnswer_1 : decode cX2_makeAnswer 1 = .ok (.getfield 17, 3) := by decide +kernel
theorem dX2_makeAnswer_4 : decode cX2_makeAnswer 4 = .ok (.iload_n 1, 1) := by decide +kernel
theorem dX2_makeAnswer_5 : decode cX2_makeAnswer 5 = .ok (.aaload, 1) := by decide +kernel
theorem dX2_makeAnswer_6 : decode cX2_makeAnswer 6 = .ok (.iload_n 2, 1) := by decide +kernel
theorem dX2_makeAnswer_7 : decode cX2_makeAnswer 7 = .ok (.putfield 191, 3) := by decide +kernel
theorem dX2_makeAnswer_10 : decode cX2_makeAnswer 10 = .ok (.aload_n 0, 1) := by decide +kernel
theorem dX2_makeAnswer_11 : decode cX2_makeAnswer 11 = .ok (.getfield 33, 3) := by decide +kernel
theorem dX2_makeAnswer_14 : decode cX2_makeAnswer 14 = .ok (.aload_n 0, 1) := by decide +kernel
theorem dX2_makeAnswer_15 : decode cX2_makeAnswer 15 = .ok (.getfield 57, 3) := by decide +kernel
theorem dX2_makeAnswer_18 : decode cX2_makeAnswer 18 = .ok (.aload_n 0, 1) := by decide +kernel
theorem dX2_makeAnswer_19 : decode cX2_makeAnswer 19 = .ok (.getfield 17, 3) := by decide +kernel
theorem dX2_makeAnswer_22 : decode cX2_makeAnswer 22 = .ok (.iload_n 1, 1) := by decide +kernel
theorem dX2_makeAnswer_23 : decode cX2_makeAnswer 23 = .ok (.aaload, 1) := by decide +kernel
theorem dX2_makeAnswer_24 : decode cX2_makeAnswer 24 = .ok (.getfield 115, 3) := by decide +kernel
theorem dX2_makeAnswer_27 : decode cX2_makeAnswer 27 = .ok (.iconst 1, 1) := by decide +kernel
theorem dX2_makeAnswer_28 : decode cX2_makeAnswer 28 = .ok (.iaload, 1) := by decide +kernel
theorem dX2_makeAnswer_29 : decode cX2_makeAnswer 29 = .ok (.iadd, 1) := by decide +kernel
theorem dX2_makeAnswer_30 : decode cX2_makeAnswer 30 = .ok (.iload_n 3, 1) := by decide +kernel
theorem dX2_makeAnswer_31 : decode cX2_makeAnswer 31 = .ok (.iadd, 1) := by decide +kernel
theorem dX2_makeAnswer_32 : decode cX2_makeAnswer 32 = .ok (.iload_n 1, 1) := by decide +kernel
theorem dX2_makeAnswer_33 : decode cX2_makeAnswer 33 = .ok (.iconst 1, 1) := by decide +kernel
theorem dX2_makeAnswer_34 : decode cX2_makeAnswer 34 = .ok (.iload_n 2, 1) := by decide +kernel
theorem dX2_makeAnswer_35 : decode cX2_makeAnswer 35 = .ok (.invokevirtual 183, 3) := by decide +kernel
theorem dX2_makeAnswer_38 : decode cX2_makeAnswer 38 = .ok (.return_, 1) := by decide +kernel
theorem dX3_init_0 : decode cX3_init 0 = .ok (.aload_n 0, 1) := by decide +kernel
theorem dX3_init_1 : decode cX3_init 1 = .ok (.invokespecial 3, 3) := by decide +kernel
theorem dX3_init_4 : decode cX3_init 4 = .ok (.aload_n 0, 1) := by decide +kernel
theorem dX3_init_5 : decode cX3_init 5 = .ok (.iconst 3, 1) := by decide +kernel
theorem dX3_init_6 : decode cX3_init 6 = .ok (.newarray .int, 2) := by decide +kernel
theorem dX3_init_8 : decode cX3_init 8 = .ok (.putfield 9, 3) := by decide +kernel
theorem dX3_init_11 : decode cX3_init 11 = .ok (.return_, 1) := by decide +kernel
theorem dX3_clear_0 : decode cX3_clear 0 = .ok (.iconst 0, 1) := by decide +kernel
theorem dX3_clear_1 : decode cX3_clear 1 = .ok (.istore_n 1, 1) := by decide +kernel
theorem dX3_clear_2 : decode cX3_clear 2 = .ok (.iload_n 1, 1) := by decide +kernel
theorem dX3_clear_3 : decode cX3_clear 3 = .ok (.iconst 3, 1) := by decide +kernel
theorem dX3_clear_4 : decode cX3_clear 4 = .ok (.if_icmp .ge 16, 3) := by decide +kernel
theorem dX3_clear_7 : decode cX3_clear 7 = .ok (.aload_n 0, 1) := by decide +kernel
theorem dX3_clear_8 : decode cX3_clear 8 = .ok (.getfield 9, 3) := by decide +kernel
theorem dX3_clear_11 : decode cX3_clear 11 = .ok (.iload_n 1, 1) := by decide +kernel
theorem dX3_clear_12 : decode cX3_clear 12 = .ok (.iconst 2, 1) := by decide +kernel
theorem dX3_clear_13 : decode cX3_clear 13 = .ok (.iastore, 1) := by decide +kernel
theorem dX3_clear_14 : decode cX3_clear 14 = .ok (.iinc 1 1, 3) := by decide +kernel
theorem dX3_clear_17 : decode cX3_clear 17 = .ok (.goto (-15), 3) := by decide +kernel
theorem dX3_clear_20 : decode cX3_clear 20 = .ok (.aload_n 0, 1) := by decide +kernel
theorem dX3_clear_21 : decode cX3_clear 21 = .ok (.iconst 0, 1) := by decide +kernel
theorem dX3_clear_22 : decode cX3_clear 22 = .ok (.putfield 15, 3) := by decide +kernel
theorem dX3_clear_25 : decode cX3_clear 25 = .ok (.aload_n 0, 1) := by decide +kernel
theorem dX3_clear_26 : decode cX3_clear 26 = .ok (.iconst 0, 1) := by decide +kernel
theorem dX3_clear_27 : decode cX3_clear 27 = .ok (.putfield 19, 3) := by decide +kernel
theorem dX3_clear_30 : decode cX3_clear 30 = .ok (.aload_n 0, 1) := by decide +kernel
theorem dX3_clear_31 : decode cX3_clear 31 = .ok (.iconst 0, 1) := by decide +kernel
theorem dX3_clear_32 : decode cX3_clear 32 = .ok (.putfield 22, 3) := by decide +kernel
theorem dX3_clear_35 : decode cX3_clear 35 = .ok (.aload_n 0, 1) := by decide +kernel
theorem dX3_clear_36 : decode cX3_clear 36 = .ok (.iconst 0, 1) := by decide +kernel
theorem dX3_clear_37 : decode cX3_clear 37 = .ok (.putfield 25, 3) := by decide +kernel
theorem dX3_clear_40 : decode cX3_clear 40 = .ok (.aload_n 0, 1) := by decide +kernel
theorem dX3_clear_41 : decode cX3_clear 41 = .ok (.iconst 0, 1) := by decide +kernel
theorem dX3_clear_42 : decode cX3_clear 42 = .ok (.putfield 28, 3) := by decide +kernel
theorem dX3_clear_45 : decode cX3_clear 45 = .ok (.aload_n 0, 1) := by decide +kernel
theorem dX3_clear_46 : decode cX3_clear 46 = .ok (.iconst 0, 1) := by decide +kernel
theorem dX3_clear_47 : decode cX3_clear 47 = .ok (.putfield 31, 3) := by decide +kernel
theorem dX3_clear_50 : decode cX3_clear 50 = .ok (.aload_n 0, 1) := by decide +kernel
theorem dX3_clear_51 : decode cX3_clear 51 = .ok (.iconst 1, 1) := by decide +kernel
theorem dX3_clear_52 : decode cX3_clear 52 = .ok (.putfield 34, 3) := by decide +kernel
theorem dX3_clear_55 : decode cX3_clear 55 = .ok (.aload_n 0, 1) := by decide +kernel
theorem dX3_clear_56 : decode cX3_clear 56 = .ok (.iconst 0, 1) := by decide +kernel
theorem dX3_clear_57 : decode cX3_clear 57 = .ok (.putfield 38, 3) := by decide +kernel
theorem dX3_clear_60 : decode cX3_clear 60 = .ok (.aload_n 0, 1) := by decide +kernel
theorem dX3_clear_61 : decode cX3_clear 61 = .ok (.iconst 0, 1) := by decide +kernel
theorem dX3_clear_62 : decode cX3_clear 62 = .ok (.putfield 41, 3) := by decide +kernel
theorem dX3_clear_65 : decode cX3_clear 65 = .ok (.return_, 1) := by decide +kernel
theorem dX3_copyFrom_0 : decode cX3_copyFrom 0 = .ok (.aload_n 1, 1) := by decide +kernel
theorem dX3_copyFrom_1 : decode cX3_copyFrom 1 = .ok (.getfield 9, 3) := by decide +kernel
theorem dX3_copyFrom_4 : decode cX3_copyFrom 4 = .ok (.iconst 0, 1) := by decide +kernel
theorem dX3_copyFrom_5 : decode cX3_copyFrom 5 = .ok (.aload_n 0, 1) := by decide +kernel
theorem dX3_copyFrom_6 : decode cX3_copyFrom 6 = .ok (.getfield 9, 3) := by decide +kernel
theorem dX3_copyFrom_9 : decode cX3_copyFrom 9 = .ok (.iconst 0, 1) := by decide +kernel
theorem dX3_copyFrom_10 : decode cX3_copyFrom 10 = .ok (.iconst 3, 1) := by decide +kernel
theorem dX3_copyFrom_11 : decode cX3_copyFrom 11 = .ok (.invokestatic 44, 3) := by decide +kernel
theorem dX3_copyFrom_14 : decode cX3_copyFrom 14 = .ok (.aload_n 0, 1) := by decide +kernel
theorem dX3_copyFrom_15 : decode cX3_copyFrom 15 = .ok (.aload_n 1, 1) := by decide +kernel
theorem dX3_copyFrom_16 : decode cX3_copyFrom 16 = .ok (.getfield 15, 3) := by decide +kernel
theorem dX3_copyFrom_19 : decode cX3_copyFrom 19 = .ok (.putfield 15, 3) := by decide +kernel
theorem dX3_copyFrom_22 : decode cX3_copyFrom 22 = .ok (.aload_n 0, 1) := by decide +kernel
theorem dX3_copyFrom_23 : decode cX3_copyFrom 23 = .ok (.aload_n 1, 1) := by decide +kernel
theorem dX3_copyFrom_24 : decode cX3_copyFrom 24 = .ok (.getfield 19, 3) := by decide +kernel
theorem dX3_copyFrom_27 : decode cX3_copyFrom 27 = .ok (.putfield 19, 3) := by decide +kernel
theorem dX3_copyFrom_30 : decode cX3_copyFrom 30 = .ok (.aload_n 0, 1) := by decide +kernel
theorem dX3_copyFrom_31 : decode cX3_copyFrom 31 = .ok (.aload_n 1, 1) := by decide +kernel
theorem dX3_copyFrom_32 : decode cX3_copyFrom 32 = .ok (.getfield 22, 3) := by decide +kernel
theorem dX3_copyFrom_35 : decode cX3_copyFrom 35 = .ok (.putfield 22, 3) := by decide +kernel
theorem dX3_copyFrom_38 : decode cX3_copyFrom 38 = .ok (.aload_n 0, 1) := by decide +kernel
theorem dX3_copyFrom_39 : decode cX3_copyFrom 39 = .ok (.aload_n 1, 1) := by decide +kernel
theorem dX3_copyFrom_40 : decode cX3_copyFrom 40 = .ok (.getfield 25, 3) := by decide +kernel
theorem dX3_copyFrom_43 : decode cX3_copyFrom 43 = .ok (.putfield 25, 3) := by decide +kernel
theorem dX3_copyFrom_46 : decode cX3_copyFrom 46 = .ok (.aload_n 0, 1) := by decide +kernel
theorem dX3_copyFrom_47 : decode cX3_copyFrom 47 = .ok (.aload_n 1, 1) := by decide +kernel
theorem dX3_copyFrom_48 : decode cX3_copyFrom 48 = .ok (.getfield 28, 3) := by decide +kernel
theorem dX3_copyFrom_51 : decode cX3_copyFrom 51 = .ok (.putfield 28, 3) := by decide +kernel
theorem dX3_copyFrom_54 : decode cX3_copyFrom 54 = .ok (.aload_n 0, 1) := by decide +kernel
theorem dX3_copyFrom_55 : decode cX3_copyFrom 55 = .ok (.aload_n 1, 1) := by decide +kernel
theorem dX3_copyFrom_56 : decode cX3_copyFrom 56 = .ok (.getfield 31, 3) := by decide +kernel
theorem dX3_copyFrom_59 : decode cX3_copyFrom 59 = .ok (.putfield 31, 3) := by decide +kernel
theorem dX3_copyFrom_62 : decode cX3_copyFrom 62 = .ok (.aload_n 0, 1) := by decide +kernel
theorem dX3_copyFrom_63 : decode cX3_copyFrom 63 = .ok (.aload_n 1, 1) := by decide +kernel
theorem dX3_copyFrom_64 : decode cX3_copyFrom 64 = .ok (.getfield 34, 3) := by decide +kernel
theorem dX3_copyFrom_67 : decode cX3_copyFrom 67 = .ok (.putfield 34, 3) := by decide +kernel
theorem dX3_copyFrom_70 : decode cX3_copyFrom 70 = .ok (.aload_n 0, 1) := by decide +kernel
theorem dX3_copyFrom_71 : decode cX3_copyFrom 71 = .ok (.aload_n 1, 1) := by decide +kernel
theorem dX3_copyFrom_72 : decode cX3_copyFrom 72 = .ok (.getfield 38, 3) := by decide +kernel
theorem dX3_copyFrom_75 : decode cX3_copyFrom 75 = .ok (.putfield 38, 3) := by decide +kernel
theorem dX3_copyFrom_78 : decode cX3_copyFrom 78 = .ok (.aload_n 0, 1) := by decide +kernel
theorem dX3_copyFrom_79 : decode cX3_copyFrom 79 = .ok (.aload_n 1, 1) := by decide +kernel
theorem dX3_copyFrom_80 : decode cX3_copyFrom 80 = .ok (.getfield 41, 3) := by decide +kernel
theorem dX3_copyFrom_83 : decode cX3_copyFrom 83 = .ok (.putfield 41, 3) := by decide +kernel
theorem dX3_copyFrom_86 : decode cX3_copyFrom 86 = .ok (.return_, 1) := by decide +kernel
theorem dX3_tell_0 : decode cX3_tell 0 = .ok (.iload_n 1, 1) := by decide +kernel
theorem dX3_tell_1 : decode cX3_tell 1 = .ok (.tableswitch 172 0 12 #[67, 74, 81, 88, 93, 98, 103, 108, 113, 118, 131, 144, 149], 67) := by decide +kernel
theorem dX3_tell_68 : decode cX3_tell 68 = .ok (.aload_n 0, 1) := by decide +kernel
theorem dX3_tell_69 : decode cX3_tell 69 = .ok (.getfield 9, 3) := by decide +kernel
theorem dX3_tell_72 : decode cX3_tell 72 = .ok (.iconst 0, 1) := by decide +kernel
theorem dX3_tell_73 : decode cX3_tell 73 = .ok (.iaload, 1) := by decide +kernel
theorem dX3_tell_74 : decode cX3_tell 74 = .ok (.ireturn, 1) := by decide +kernel
theorem dX3_tell_75 : decode cX3_tell 75 = .ok (.aload_n 0, 1) := by decide +kernel
theorem dX3_tell_76 : decode cX3_tell 76 = .ok (.getfield 9, 3) := by decide +kernel
theorem dX3_tell_79 : decode cX3_tell 79 = .ok (.iconst 1, 1) := by decide +kernel
theorem dX3_tell_80 : decode cX3_tell 80 = .ok (.iaload, 1) := by decide +kernel
theorem dX3_tell_81 : decode cX3_tell 81 = .ok (.ireturn, 1) := by decide +kernel
theorem dX3_tell_82 : decode cX3_tell 82 = .ok (.aload_n 0, 1) := by decide +kernel
theorem dX3_tell_83 : decode cX3_tell 83 = .ok (.getfield 9, 3) := by decide +kernel
theorem dX3_tell_86 : decode cX3_tell 86 = .ok (.iconst 2, 1) := by decide +kernel
theorem dX3_tell_87 : decode cX3_tell 87 = .ok (.iaload, 1) := by decide +kernel
theorem dX3_tell_88 : decode cX3_tell 88 = .ok (.ireturn, 1) := by decide +kernel
theorem dX3_tell_89 : decode cX3_tell 89 = .ok (.aload_n 0, 1) := by decide +kernel
theorem dX3_tell_90 : decode cX3_tell 90 = .ok (.getfield 15, 3) := by decide +kernel
theorem dX3_tell_93 : decode cX3_tell 93 = .ok (.ireturn, 1) := by decide +kernel
theorem dX3_tell_94 : decode cX3_tell 94 = .ok (.aload_n 0, 1) := by decide +kernel
theorem dX3_tell_95 : decode cX3_tell 95 = .ok (.getfield 19, 3) := by decide +kernel
theorem dX3_tell_98 : decode cX3_tell 98 = .ok (.ireturn, 1) := by decide +kernel
theorem dX3_tell_99 : decode cX3_tell 99 = .ok (.aload_n 0, 1) := by decide +kernel
theorem dX3_tell_100 : decode cX3_tell 100 = .ok (.getfield 22, 3) := by decide +kernel
theorem dX3_tell_103 : decode cX3_tell 103 = .ok (.ireturn, 1) := by decide +kernel
theorem dX3_tell_104 : decode cX3_tell 104 = .ok (.aload_n 0, 1) := by decide +kernel
theorem dX3_tell_105 : decode cX3_tell 105 = .ok (.getfield 25, 3) := by decide +kernel
theorem dX3_tell_108 : decode cX3_tell 108 = .ok (.ireturn, 1) := by decide +kernel
theorem dX3_tell_109 : decode cX3_tell 109 = .ok (.aload_n 0, 1) := by decide +kernel
theorem dX3_tell_110 : decode cX3_tell 110 = .ok (.getfield 28, 3) := by decide +kernel
theorem dX3_tell_113 : decode cX3_tell 113 = .ok (.ireturn, 1) := by decide +kernel
theorem dX3_tell_114 : decode cX3_tell 114 = .ok (.aload_n 0, 1) := by decide +kernel
theorem dX3_tell_115 : decode cX3_tell 115 = .ok (.getfield 31, 3) := by decide +kernel
theorem dX3_tell_118 : decode cX3_tell 118 = .ok (.ireturn, 1) := by decide +kernel
theorem dX3_tell_119 : decode cX3_tell 119 = .ok (.aload_n 0, 1) := by decide +kernel
theorem dX3_tell_120 : decode cX3_tell 120 = .ok (.getfield 34, 3) := by decide +kernel
theorem dX3_tell_123 : decode cX3_tell 123 = .ok (.ifCond .eq 7, 3) := by decide +kernel
theorem dX3_tell_126 : decode cX3_tell 126 = .ok (.iconst 1, 1) := by decide +kernel
theorem dX3_tell_127 : decode cX3_tell 127 = .ok (.goto 4, 3) := by decide +kernel
theorem dX3_tell_130 : decode cX3_tell 130 = .ok (.iconst 0, 1) := by decide +kernel
theorem dX3_tell_131 : decode cX3_tell 131 = .ok (.ireturn, 1) := by decide +kernel
theorem dX3_tell_132 : decode cX3_tell 132 = .ok (.aload_n 0, 1) := by decide +kernel
theorem dX3_tell_133 : decode cX3_tell 133 = .ok (.getfield 38, 3) := by decide +kernel
theorem dX3_tell_136 : decode cX3_tell 136 = .ok (.ifCond .eq 7, 3) := by decide +kernel
theorem dX3_tell_139 : decode cX3_tell 139 = .ok (.iconst 1, 1) := by decide +kernel
theorem dX3_tell_140 : decode cX3_tell 140 = .ok (.goto 4, 3) := by decide +kernel
theorem dX3_tell_143 : decode cX3_tell 143 = .ok (.iconst 0, 1) := by decide +kernel
theorem dX3_tell_144 : decode cX3_tell 144 = .ok (.ireturn, 1) := by decide +kernel
theorem dX3_tell_145 : decode cX3_tell 145 = .ok (.aload_n 0, 1) := by decide +kernel
theorem dX3_tell_146 : decode cX3_tell 146 = .ok (.getfield 41, 3) := by decide +kernel
theorem dX3_tell_149 : decode cX3_tell 149 = .ok (.ireturn, 1) := by decide +kernel
theorem dX3_tell_150 : decode cX3_tell 150 = .ok (.aload_n 0, 1) := by decide +kernel
theorem dX3_tell_151 : decode cX3_tell 151 = .ok (.getfield 9, 3) := by decide +kernel
theorem dX3_tell_154 : decode cX3_tell 154 = .ok (.iconst 2, 1) := by decide +kernel
theorem dX3_tell_155 : decode cX3_tell 155 = .ok (.iaload, 1) := by decide +kernel
theorem dX3_tell_156 : decode cX3_tell 156 = .ok (.aload_n 0, 1) := by decide +kernel
theorem dX3_tell_157 : decode cX3_tell 157 = .ok (.getfield 9, 3) := by decide +kernel
theorem dX3_tell_160 : decode cX3_tell 160 = .ok (.iconst 0, 1) := by decide +kernel
theorem dX3_tell_161 : decode cX3_tell 161 = .ok (.iaload, 1) := by decide +kernel
theorem dX3_tell_162 : decode cX3_tell 162 = .ok (.iload_n 2, 1) := by decide +kernel
theorem dX3_tell_163 : decode cX3_tell 163 = .ok (.iadd, 1) := by decide +kernel
theorem dX3_tell_164 : decode cX3_tell 164 = .ok (.if_icmp .gt 7, 3) := by decide +kernel
theorem dX3_tell_167 : decode cX3_tell 167 = .ok (.iconst 1, 1) := by decide +kernel
theorem dX3_tell_168 : decode cX3_tell 168 = .ok (.goto 4, 3) := by decide +kernel
theorem dX3_tell_171 : decode cX3_tell 171 = .ok (.iconst 0, 1) := by decide +kernel
theorem dX3_tell_172 : decode cX3_tell 172 = .ok (.ireturn, 1) := by decide +kernel
theorem dX3_tell_173 : decode cX3_tell 173 = .ok (.bipush (-2), 2) := by decide +kernel
theorem dX3_tell_175 : decode cX3_tell 175 = .ok (.ireturn, 1) := by decide +kernel
theorem dX4_init_0 : decode cX4_init 0 = .ok (.aload_n 0, 1) := by decide +kernel
theorem dX4_init_1 : decode cX4_init 1 = .ok (.invokespecial 3, 3) := by decide +kernel
theorem dX4_init_4 : decode cX4_init 4 = .ok (.aload_n 0, 1) := by decide +kernel
theorem dX4_init_5 : decode cX4_init 5 = .ok (.bipush 50, 2) := by decide +kernel
theorem dX4_init_7 : decode cX4_init 7 = .ok (.newarray .int, 2) := by decide +kernel
theorem dX4_init_9 : decode cX4_init 9 = .ok (.putfield 9, 3) := by decide +kernel
theorem dX4_init_12 : decode cX4_init 12 = .ok (.aload_n 0, 1) := by decide +kernel
theorem dX4_init_13 : decode cX4_init 13 = .ok (.bipush 50, 2) := by decide +kernel
theorem dX4_init_15 : decode cX4_init 15 = .ok (.newarray .int, 2) := by decide +kernel
theorem dX4_init_17 : decode cX4_init 17 = .ok (.putfield 15, 3) := by decide +kernel
theorem dX4_init_20 : decode cX4_init 20 = .ok (.aload_n 0, 1) := by decide +kernel
theorem dX4_init_21 : decode cX4_init 21 = .ok (.bipush 50, 2) := by decide +kernel
theorem dX4_init_23 : decode cX4_init 23 = .ok (.newarray .int, 2) := by decide +kernel
theorem dX4_init_25 : decode cX4_init 25 = .ok (.putfield 18, 3) := by decide +kernel
theorem dX4_init_28 : decode cX4_init 28 = .ok (.return_, 1) := by decide +kernel
theorem dX4_clear_0 : decode cX4_clear 0 = .ok (.aload_n 0, 1) := by decide +kernel
theorem dX4_clear_1 : decode cX4_clear 1 = .ok (.iconst 0, 1) := by decide +kernel
theorem dX4_clear_2 : decode cX4_clear 2 = .ok (.putfield 21, 3) := by decide +kernel
theorem dX4_clear_5 : decode cX4_clear 5 = .ok (.aload_n 0, 1) := by decide +kernel
theorem dX4_clear_6 : decode cX4_clear 6 = .ok (.iconst 0, 1) := by decide +kernel
theorem dX4_clear_7 : decode cX4_clear 7 = .ok (.putfield 25, 3) := by decide +kernel
theorem dX4_clear_10 : decode cX4_clear 10 = .ok (.return_, 1) := by decide +kernel
theorem dX4_copyFrom_0 : decode cX4_copyFrom 0 = .ok (.aload_n 1, 1) := by decide +kernel
theorem dX4_copyFrom_1 : decode cX4_copyFrom 1 = .ok (.getfield 9, 3) := by decide +kernel
theorem dX4_copyFrom_4 : decode cX4_copyFrom 4 = .ok (.iconst 0, 1) := by decide +kernel
theorem dX4_copyFrom_5 : decode cX4_copyFrom 5 = .ok (.aload_n 0, 1) := by decide +kernel
theorem dX4_copyFrom_6 : decode cX4_copyFrom 6 = .ok (.getfield 9, 3) := by decide +kernel
theorem dX4_copyFrom_9 : decode cX4_copyFrom 9 = .ok (.iconst 0, 1) := by decide +kernel
theorem dX4_copyFrom_10 : decode cX4_copyFrom 10 = .ok (.bipush 50, 2) := by decide +kernel
theorem dX4_copyFrom_12 : decode cX4_copyFrom 12 = .ok (.invokestatic 28, 3) := by decide +kernel
theorem dX4_copyFrom_15 : decode cX4_copyFrom 15 = .ok (.aload_n 1, 1) := by decide +kernel
theorem dX4_copyFrom_16 : decode cX4_copyFrom 16 = .ok (.getfield 15, 3) := by decide +kernel
theorem dX4_copyFrom_19 : decode cX4_copyFrom 19 = .ok (.iconst 0, 1) := by decide +kernel
theorem dX4_copyFrom_20 : decode cX4_copyFrom 20 = .ok (.aload_n 0, 1) := by decide +kernel
theorem dX4_copyFrom_21 : decode cX4_copyFrom 21 = .ok (.getfield 15, 3) := by decide +kernel
theorem dX4_copyFrom_24 : decode cX4_copyFrom 24 = .ok (.iconst 0, 1) := by decide +kernel
theorem dX4_copyFrom_25 : decode cX4_copyFrom 25 = .ok (.bipush 50, 2) := by decide +kernel
theorem dX4_copyFrom_27 : decode cX4_copyFrom 27 = .ok (.invokestatic 28, 3) := by decide +kernel
theorem dX4_copyFrom_30 : decode cX4_copyFrom 30 = .ok (.aload_n 1, 1) := by decide +kernel
theorem dX4_copyFrom_31 : decode cX4_copyFrom 31 = .ok (.getfield 18, 3) := by decide +kernel
theorem dX4_copyFrom_34 : decode cX4_copyFrom 34 = .ok (.iconst 0, 1) := by decide +kernel
theorem dX4_copyFrom_35 : decode cX4_copyFrom 35 = .ok (.aload_n 0, 1) := by decide +kernel
theorem dX4_copyFrom_36 : decode cX4_copyFrom 36 = .ok (.getfield 18, 3) := by decide +kernel
theorem dX4_copyFrom_39 : decode cX4_copyFrom 39 = .ok (.iconst 0, 1) := by decide +kernel
theorem dX4_copyFrom_40 : decode cX4_copyFrom 40 = .ok (.bipush 50, 2) := by decide +kernel
theorem dX4_copyFrom_42 : decode cX4_copyFrom 42 = .ok (.invokestatic 28, 3) := by decide +kernel
theorem dX4_copyFrom_45 : decode cX4_copyFrom 45 = .ok (.aload_n 0, 1) := by decide +kernel
theorem dX4_copyFrom_46 : decode cX4_copyFrom 46 = .ok (.aload_n 1, 1) := by decide +kernel
theorem dX4_copyFrom_47 : decode cX4_copyFrom 47 = .ok (.getfield 21, 3) := by decide +kernel
theorem dX4_copyFrom_50 : decode cX4_copyFrom 50 = .ok (.putfield 21, 3) := by decide +kernel
theorem dX4_copyFrom_53 : decode cX4_copyFrom 53 = .ok (.aload_n 0, 1) := by decide +kernel
theorem dX4_copyFrom_54 : decode cX4_copyFrom 54 = .ok (.aload_n 1, 1) := by decide +kernel
theorem dX4_copyFrom_55 : decode cX4_copyFrom 55 = .ok (.getfield 25, 3) := by decide +kernel
theorem dX4_copyFrom_58 : decode cX4_copyFrom 58 = .ok (.putfield 25, 3) := by decide +kernel
theorem dX4_copyFrom_61 : decode cX4_copyFrom 61 = .ok (.return_, 1) := by decide +kernel
theorem dX4_append_0 : decode cX4_append 0 = .ok (.aload_n 0, 1) := by decide +kernel
theorem dX4_append_1 : decode cX4_append 1 = .ok (.getfield 21, 3) := by decide +kernel
theorem dX4_append_4 : decode cX4_append 4 = .ok (.bipush 50, 2) := by decide +kernel
theorem dX4_append_6 : decode cX4_append 6 = .ok (.irem, 1) := by decide +kernel
theorem dX4_append_7 : decode cX4_append 7 = .ok (.istore 4, 2) := by decide +kernel
theorem dX4_append_9 : decode cX4_append 9 = .ok (.aload_n 0, 1) := by decide +kernel
theorem dX4_append_10 : decode cX4_append 10 = .ok (.getfield 9, 3) := by decide +kernel
theorem dX4_append_13 : decode cX4_append 13 = .ok (.iload 4, 2) := by decide +kernel
theorem dX4_append_15 : decode cX4_append 15 = .ok (.iload_n 1, 1) := by decide +kernel
theorem dX4_append_16 : decode cX4_append 16 = .ok (.iastore, 1) := by decide +kernel
theorem dX4_append_17 : decode cX4_append 17 = .ok (.aload_n 0, 1) := by decide +kernel
theorem dX4_append_18 : decode cX4_append 18 = .ok (.getfield 15, 3) := by decide +kernel
theorem dX4_append_21 : decode cX4_append 21 = .ok (.iload 4, 2) := by decide +kernel
theorem dX4_append_23 : decode cX4_append 23 = .ok (.iload_n 2, 1) := by decide +kernel
theorem dX4_append_24 : decode cX4_append 24 = .ok (.iastore, 1) := by decide +kernel
theorem dX4_append_25 : decode cX4_append 25 = .ok (.aload_n 0, 1) := by decide +kernel
theorem dX4_append_26 : decode cX4_append 26 = .ok (.getfield 18, 3) := by decide +kernel
theorem dX4_append_29 : decode cX4_append 29 = .ok (.iload 4, 2) := by decide +kernel
theorem dX4_append_31 : decode cX4_append 31 = .ok (.iload_n 3, 1) := by decide +kernel
theorem dX4_append_32 : decode cX4_append 32 = .ok (.iastore, 1) := by decide +kernel
theorem dX4_append_33 : decode cX4_append 33 = .ok (.aload_n 0, 1) := by decide +kernel
theorem dX4_append_34 : decode cX4_append 34 = .ok (.dup, 1) := by decide +kernel
theorem dX4_append_35 : decode cX4_append 35 = .ok (.getfield 21, 3) := by decide +kernel
theorem dX4_append_38 : decode cX4_append 38 = .ok (.iconst 1, 1) := by decide +kernel
theorem dX4_append_39 : decode cX4_append 39 = .ok (.iadd, 1) := by decide +kernel
theorem dX4_append_40 : decode cX4_append 40 = .ok (.putfield 21, 3) := by decide +kernel
theorem dX4_append_43 : decode cX4_append 43 = .ok (.aload_n 0, 1) := by decide +kernel
theorem dX4_append_44 : decode cX4_append 44 = .ok (.dup, 1) := by decide +kernel
theorem dX4_append_45 : decode cX4_append 45 = .ok (.getfield 25, 3) := by decide +kernel
theorem dX4_append_48 : decode cX4_append 48 = .ok (.iload_n 3, 1) := by decide +kernel
theorem dX4_append_49 : decode cX4_append 49 = .ok (.iadd, 1) := by decide +kernel
theorem dX4_append_50 : decode cX4_append 50 = .ok (.putfield 25, 3) := by decide +kernel
theorem dX4_append_53 : decode cX4_append 53 = .ok (.return_, 1) := by decide +kernel
theorem dX4_tell_0 : decode cX4_tell 0 = .ok (.iload_n 1, 1) := by decide +kernel
theorem dX4_tell_1 : decode cX4_tell 1 = .ok (.ifCond .lt 17, 3) := by decide +kernel
theorem dX4_tell_4 : decode cX4_tell 4 = .ok (.iload_n 1, 1) := by decide +kernel
theorem dX4_tell_5 : decode cX4_tell 5 = .ok (.aload_n 0, 1) := by decide +kernel
theorem dX4_tell_6 : decode cX4_tell 6 = .ok (.getfield 21, 3) := by decide +kernel
theorem dX4_tell_9 : decode cX4_tell 9 = .ok (.if_icmp .ge 9, 3) := by decide +kernel
theorem dX4_tell_12 : decode cX4_tell 12 = .ok (.iload_n 1, 1) := by decide +kernel
theorem dX4_tell_13 : decode cX4_tell 13 = .ok (.bipush 50, 2) := by decide +kernel
theorem dX4_tell_15 : decode cX4_tell 15 = .ok (.if_icmp .lt 6, 3) := by decide +kernel
theorem dX4_tell_18 : decode cX4_tell 18 = .ok (.bipush (-5), 2) := by decide +kernel
theorem dX4_tell_20 : decode cX4_tell 20 = .ok (.ireturn, 1) := by decide +kernel
theorem dX4_tell_21 : decode cX4_tell 21 = .ok (.aload_n 0, 1) := by decide +kernel
theorem dX4_tell_22 : decode cX4_tell 22 = .ok (.getfield 21, 3) := by decide +kernel
theorem dX4_tell_25 : decode cX4_tell 25 = .ok (.iconst 1, 1) := by decide +kernel
theorem dX4_tell_26 : decode cX4_tell 26 = .ok (.isub, 1) := by decide +kernel
theorem dX4_tell_27 : decode cX4_tell 27 = .ok (.iload_n 1, 1) := by decide +kernel
theorem dX4_tell_28 : decode cX4_tell 28 = .ok (.isub, 1) := by decide +kernel
theorem dX4_tell_29 : decode cX4_tell 29 = .ok (.bipush 50, 2) := by decide +kernel
theorem dX4_tell_31 : decode cX4_tell 31 = .ok (.irem, 1) := by decide +kernel
theorem dX4_tell_32 : decode cX4_tell 32 = .ok (.istore_n 3, 1) := by decide +kernel
theorem dX4_tell_33 : decode cX4_tell 33 = .ok (.iload_n 2, 1) := by decide +kernel
theorem dX4_tell_34 : decode cX4_tell 34 = .ok (.lookupswitch 40 #[(0, 26), (1, 33)], 26) := by decide +kernel
theorem dX4_tell_60 : decode cX4_tell 60 = .ok (.aload_n 0, 1) := by decide +kernel
theorem dX4_tell_61 : decode cX4_tell 61 = .ok (.getfield 9, 3) := by decide +kernel
theorem dX4_tell_64 : decode cX4_tell 64 = .ok (.iload_n 3, 1) := by decide +kernel
theorem dX4_tell_65 : decode cX4_tell 65 = .ok (.iaload, 1) := by decide +kernel
theorem dX4_tell_66 : decode cX4_tell 66 = .ok (.ireturn, 1) := by decide +kernel
theorem dX4_tell_67 : decode cX4_tell 67 = .ok (.aload_n 0, 1) := by decide +kernel
theorem dX4_tell_68 : decode cX4_tell 68 = .ok (.getfield 15, 3) := by decide +kernel
theorem dX4_tell_71 : decode cX4_tell 71 = .ok (.iload_n 3, 1) := by decide +kernel
theorem dX4_tell_72 : decode cX4_tell 72 = .ok (.iaload, 1) := by decide +kernel
theorem dX4_tell_73 : decode cX4_tell 73 = .ok (.ireturn, 1) := by decide +kernel
theorem dX4_tell_74 : decode cX4_tell 74 = .ok (.aload_n 0, 1) := by decide +kernel
theorem dX4_tell_75 : decode cX4_tell 75 = .ok (.getfield 18, 3) := by decide +kernel
theorem dX4_tell_78 : decode cX4_tell 78 = .ok (.iload_n 3, 1) := by decide +kernel
theorem dX4_tell_79 : decode cX4_tell 79 = .ok (.iaload, 1) := by decide +kernel
theorem dX4_tell_80 : decode cX4_tell 80 = .ok (.ireturn, 1) := by decide +kernel
theorem dX5_init_0 : decode cX5_init 0 = .ok (.aload_n 0, 1) := by decide +kernel
theorem dX5_init_1 : decode cX5_init 1 = .ok (.invokespecial 3, 3) := by decide +kernel
theorem dX5_init_4 : decode cX5_init 4 = .ok (.aload_n 0, 1) := by decide +kernel
theorem dX5_init_5 : decode cX5_init 5 = .ok (.bipush 20, 2) := by decide +kernel
theorem dX5_init_7 : decode cX5_init 7 = .ok (.newarray .int, 2) := by decide +kernel
theorem dX5_init_9 : decode cX5_init 9 = .ok (.putfield 9, 3) := by decide +kernel
theorem dX5_init_12 : decode cX5_init 12 = .ok (.return_, 1) := by decide +kernel
theorem dX5_copyFrom_0 : decode cX5_copyFrom 0 = .ok (.aload_n 0, 1) := by decide +kernel
theorem dX5_copyFrom_1 : decode cX5_copyFrom 1 = .ok (.aload_n 1, 1) := by decide +kernel
theorem dX5_copyFrom_2 : decode cX5_copyFrom 2 = .ok (.getfield 15, 3) := by decide +kernel
theorem dX5_copyFrom_5 : decode cX5_copyFrom 5 = .ok (.putfield 15, 3) := by decide +kernel
theorem dX5_copyFrom_8 : decode cX5_copyFrom 8 = .ok (.aload_n 1, 1) := by decide +kernel
theorem dX5_copyFrom_9 : decode cX5_copyFrom 9 = .ok (.getfield 9, 3) := by decide +kernel
theorem dX5_copyFrom_12 : decode cX5_copyFrom 12 = .ok (.iconst 0, 1) := by decide +kernel
theorem dX5_copyFrom_13 : decode cX5_copyFrom 13 = .ok (.aload_n 0, 1) := by decide +kernel
theorem dX5_copyFrom_14 : decode cX5_copyFrom 14 = .ok (.getfield 9, 3) := by decide +kernel
theorem dX5_copyFrom_17 : decode cX5_copyFrom 17 = .ok (.iconst 0, 1) := by decide +kernel
theorem dX5_copyFrom_18 : decode cX5_copyFrom 18 = .ok (.bipush 20, 2) := by decide +kernel
theorem dX5_copyFrom_20 : decode cX5_copyFrom 20 = .ok (.invokestatic 19, 3) := by decide +kernel
theorem dX5_copyFrom_23 : decode cX5_copyFrom 23 = .ok (.return_, 1) := by decide +kernel
theorem dX5_append_0 : decode cX5_append 0 = .ok (.aload_n 0, 1) := by decide +kernel
theorem dX5_append_1 : decode cX5_append 1 = .ok (.getfield 15, 3) := by decide +kernel
theorem dX5_append_4 : decode cX5_append 4 = .ok (.bipush 20, 2) := by decide +kernel
theorem dX5_append_6 : decode cX5_append 6 = .ok (.if_icmp .ge 23, 3) := by decide +kernel
theorem dX5_append_9 : decode cX5_append 9 = .ok (.aload_n 0, 1) := by decide +kernel
theorem dX5_append_10 : decode cX5_append 10 = .ok (.getfield 9, 3) := by decide +kernel
theorem dX5_append_13 : decode cX5_append 13 = .ok (.aload_n 0, 1) := by decide +kernel
theorem dX5_append_14 : decode cX5_append 14 = .ok (.getfield 15, 3) := by decide +kernel
theorem dX5_append_17 : decode cX5_append 17 = .ok (.iload_n 1, 1) := by decide +kernel
theorem dX5_append_18 : decode cX5_append 18 = .ok (.iastore, 1) := by decide +kernel
theorem dX5_append_19 : decode cX5_append 19 = .ok (.aload_n 0, 1) := by decide +kernel
theorem dX5_append_20 : decode cX5_append 20 = .ok (.dup, 1) := by decide +kernel
theorem dX5_append_21 : decode cX5_append 21 = .ok (.getfield 15, 3) := by decide +kernel
theorem dX5_append_24 : decode cX5_append 24 = .ok (.iconst 1, 1) := by decide +kernel
theorem dX5_append_25 : decode cX5_append 25 = .ok (.iadd, 1) := by decide +kernel
theorem dX5_append_26 : decode cX5_append 26 = .ok (.putfield 15, 3) := by decide +kernel
theorem dX5_append_29 : decode cX5_append 29 = .ok (.return_, 1) := by decide +kernel
theorem dX5_wordAt_0 : decode cX5_wordAt 0 = .ok (.iload_n 1, 1) := by decide +kernel
theorem dX5_wordAt_1 : decode cX5_wordAt 1 = .ok (.ifCond .lt 20, 3) := by decide +kernel
theorem dX5_wordAt_4 : decode cX5_wordAt 4 = .ok (.iload_n 1, 1) := by decide +kernel
theorem dX5_wordAt_5 : decode cX5_wordAt 5 = .ok (.aload_n 0, 1) := by decide +kernel
theorem dX5_wordAt_6 : decode cX5_wordAt 6 = .ok (.getfield 15, 3) := by decide +kernel
theorem dX5_wordAt_9 : decode cX5_wordAt 9 = .ok (.if_icmp .ge 12, 3) := by decide +kernel
theorem dX5_wordAt_12 : decode cX5_wordAt 12 = .ok (.aload_n 0, 1) := by decide +kernel
theorem dX5_wordAt_13 : decode cX5_wordAt 13 = .ok (.getfield 9, 3) := by decide +kernel
theorem dX5_wordAt_16 : decode cX5_wordAt 16 = .ok (.iload_n 1, 1) := by decide +kernel
theorem dX5_wordAt_17 : decode cX5_wordAt 17 = .ok (.iaload, 1) := by decide +kernel
theorem dX5_wordAt_18 : decode cX5_wordAt 18 = .ok (.goto 4, 3) := by decide +kernel
theorem dX5_wordAt_21 : decode cX5_wordAt 21 = .ok (.iconst (-1), 1) := by decide +kernel
theorem dX5_wordAt_22 : decode cX5_wordAt 22 = .ok (.ireturn, 1) := by decide +kernel
theorem dX5_removeFirst_0 : decode cX5_removeFirst 0 = .ok (.aload_n 0, 1) := by decide +kernel
theorem dX5_removeFirst_1 : decode cX5_removeFirst 1 = .ok (.getfield 15, 3) := by decide +kernel
theorem dX5_removeFirst_4 : decode cX5_removeFirst 4 = .ok (.ifCond .gt 5, 3) := by decide +kernel
theorem dX5_removeFirst_7 : decode cX5_removeFirst 7 = .ok (.iconst (-1), 1) := by decide +kernel
theorem dX5_removeFirst_8 : decode cX5_removeFirst 8 = .ok (.ireturn, 1) := by decide +kernel
theorem dX5_removeFirst_9 : decode cX5_removeFirst 9 = .ok (.aload_n 0, 1) := by decide +kernel
theorem dX5_removeFirst_10 : decode cX5_removeFirst 10 = .ok (.getfield 9, 3) := by decide +kernel
theorem dX5_removeFirst_13 : decode cX5_removeFirst 13 = .ok (.iconst 0, 1) := by decide +kernel
theorem dX5_removeFirst_14 : decode cX5_removeFirst 14 = .ok (.iaload, 1) := by decide +kernel
theorem dX5_removeFirst_15 : decode cX5_removeFirst 15 = .ok (.istore_n 1, 1) := by decide +kernel
theorem dX5_removeFirst_16 : decode cX5_removeFirst 16 = .ok (.aload_n 0, 1) := by decide +kernel
theorem dX5_removeFirst_17 : decode cX5_removeFirst 17 = .ok (.dup, 1) := by decide +kernel
theorem dX5_removeFirst_18 : decode cX5_removeFirst 18 = .ok (.getfield 15, 3) := by decide +kernel
theorem dX5_removeFirst_21 : decode cX5_removeFirst 21 = .ok (.iconst 1, 1) := by decide +kernel
theorem dX5_removeFirst_22 : decode cX5_removeFirst 22 = .ok (.isub, 1) := by decide +kernel
theorem dX5_removeFirst_23 : decode cX5_removeFirst 23 = .ok (.putfield 15, 3) := by decide +kernel
theorem dX5_removeFirst_26 : decode cX5_removeFirst 26 = .ok (.iconst 0, 1) := by decide +kernel
theorem dX5_removeFirst_27 : decode cX5_removeFirst 27 = .ok (.istore_n 2, 1) := by decide +kernel
theorem dX5_removeFirst_28 : decode cX5_removeFirst 28 = .ok (.iload_n 2, 1) := by decide +kernel
theorem dX5_removeFirst_29 : decode cX5_removeFirst 29 = .ok (.aload_n 0, 1) := by decide +kernel
theorem dX5_removeFirst_30 : decode cX5_removeFirst 30 = .ok (.getfield 15, 3) := by decide +kernel
theorem dX5_removeFirst_33 : decode cX5_removeFirst 33 = .ok (.if_icmp .ge 23, 3) := by decide +kernel
theorem dX5_removeFirst_36 : decode cX5_removeFirst 36 = .ok (.aload_n 0, 1) := by decide +kernel
theorem dX5_removeFirst_37 : decode cX5_removeFirst 37 = .ok (.getfield 9, 3) := by decide +kernel
theorem dX5_removeFirst_40 : decode cX5_removeFirst 40 = .ok (.iload_n 2, 1) := by decide +kernel
theorem dX5_removeFirst_41 : decode cX5_removeFirst 41 = .ok (.aload_n 0, 1) := by decide +kernel
theorem dX5_removeFirst_42 : decode cX5_removeFirst 42 = .ok (.getfield 9, 3) := by decide +kernel
theorem dX5_removeFirst_45 : decode cX5_removeFirst 45 = .ok (.iload_n 2, 1) := by decide +kernel
theorem dX5_removeFirst_46 : decode cX5_removeFirst 46 = .ok (.iconst 1, 1) := by decide +kernel
theorem dX5_removeFirst_47 : decode cX5_removeFirst 47 = .ok (.iadd, 1) := by decide +kernel
theorem dX5_removeFirst_48 : decode cX5_removeFirst 48 = .ok (.iaload, 1) := by decide +kernel
theorem dX5_removeFirst_49 : decode cX5_removeFirst 49 = .ok (.iastore, 1) := by decide +kernel
theorem dX5_removeFirst_50 : decode cX5_removeFirst 50 = .ok (.iinc 2 1, 3) := by decide +kernel
theorem dX5_removeFirst_53 : decode cX5_removeFirst 53 = .ok (.goto (-25), 3) := by decide +kernel
theorem dX5_removeFirst_56 : decode cX5_removeFirst 56 = .ok (.iload_n 1, 1) := by decide +kernel
theorem dX5_removeFirst_57 : decode cX5_removeFirst 57 = .ok (.ireturn, 1) := by decide +kernel
theorem dX6_init_0 : decode cX6_init 0 = .ok (.aload_n 0, 1) := by decide +kernel
theorem dX6_init_1 : decode cX6_init 1 = .ok (.invokespecial 3, 3) := by decide +kernel
theorem dX6_init_4 : decode cX6_init 4 = .ok (.aload_n 0, 1) := by decide +kernel
theorem dX6_init_5 : decode cX6_init 5 = .ok (.bipush 60, 2) := by decide +kernel
theorem dX6_init_7 : decode cX6_init 7 = .ok (.newarray .int, 2) := by decide +kernel
theorem dX6_init_9 : decode cX6_init 9 = .ok (.putfield 9, 3) := by decide +kernel
theorem dX6_init_12 : decode cX6_init 12 = .ok (.aload_n 0, 1) := by decide +kernel
theorem dX6_init_13 : decode cX6_init 13 = .ok (.bipush 20, 2) := by decide +kernel
theorem dX6_init_15 : decode cX6_init 15 = .ok (.newarray .int, 2) := by decide +kernel
theorem dX6_init_17 : decode cX6_init 17 = .ok (.putfield 15, 3) := by decide +kernel
theorem dX6_init_20 : decode cX6_init 20 = .ok (.aload_n 0, 1) := by decide +kernel
theorem dX6_init_21 : decode cX6_init 21 = .ok (.bipush 20, 2) := by decide +kernel
theorem dX6_init_23 : decode cX6_init 23 = .ok (.newarray .int, 2) := by decide +kernel
theorem dX6_init_25 : decode cX6_init 25 = .ok (.putfield 18, 3) := by decide +kernel
theorem dX6_init_28 : decode cX6_init 28 = .ok (.aload_n 0, 1) := by decide +kernel
theorem dX6_init_29 : decode cX6_init 29 = .ok (.bipush 20, 2) := by decide +kernel
theorem dX6_init_31 : decode cX6_init 31 = .ok (.newarray .int, 2) := by decide +kernel
theorem dX6_init_33 : decode cX6_init 33 = .ok (.putfield 21, 3) := by decide +kernel
theorem dX6_init_36 : decode cX6_init 36 = .ok (.return_, 1) := by decide +kernel
theorem dX7_init_0 : decode cX7_init 0 = .ok (.aload_n 0, 1) := by decide +kernel
theorem dX7_init_1 : decode cX7_init 1 = .ok (.invokespecial 3, 3) := by decide +kernel
theorem dX7_init_4 : decode cX7_init 4 = .ok (.aload_n 0, 1) := by decide +kernel
theorem dX7_init_5 : decode cX7_init 5 = .ok (.new 9, 3) := by decide +kernel
theorem dX7_init_8 : decode cX7_init 8 = .ok (.dup, 1) := by decide +kernel
theorem dX7_init_9 : decode cX7_init 9 = .ok (.invokespecial 11, 3) := by decide +kernel
theorem dX7_init_12 : decode cX7_init 12 = .ok (.putfield 12, 3) := by decide +kernel
theorem dX7_init_15 : decode cX7_init 15 = .ok (.aload_n 0, 1) := by decide +kernel
theorem dX7_init_16 : decode cX7_init 16 = .ok (.new 9, 3) := by decide +kernel
theorem dX7_init_19 : decode cX7_init 19 = .ok (.dup, 1) := by decide +kernel
theorem dX7_init_20 : decode cX7_init 20 = .ok (.invokespecial 11, 3) := by decide +kernel
theorem dX7_init_23 : decode cX7_init 23 = .ok (.putfield 16, 3) := by decide +kernel
theorem dX7_init_26 : decode cX7_init 26 = .ok (.aload_n 0, 1) := by decide +kernel
theorem dX7_init_27 : decode cX7_init 27 = .ok (.new 9, 3) := by decide +kernel
theorem dX7_init_30 : decode cX7_init 30 = .ok (.dup, 1) := by decide +kernel
theorem dX7_init_31 : decode cX7_init 31 = .ok (.invokespecial 11, 3) := by decide +kernel
theorem dX7_init_34 : decode cX7_init 34 = .ok (.putfield 19, 3) := by decide +kernel
theorem dX7_init_37 : decode cX7_init 37 = .ok (.aload_n 0, 1) := by decide +kernel
theorem dX7_init_38 : decode cX7_init 38 = .ok (.iconst 0, 1) := by decide +kernel
theorem dX7_init_39 : decode cX7_init 39 = .ok (.putfield 22, 3) := by decide +kernel
theorem dX7_init_42 : decode cX7_init 42 = .ok (.aload_n 0, 1) := by decide +kernel
theorem dX7_init_43 : decode cX7_init 43 = .ok (.new 26, 3) := by decide +kernel
theorem dX7_init_46 : decode cX7_init 46 = .ok (.dup, 1) := by decide +kernel
theorem dX7_init_47 : decode cX7_init 47 = .ok (.invokespecial 28, 3) := by decide +kernel
theorem dX7_init_50 : decode cX7_init 50 = .ok (.putfield 29, 3) := by decide +kernel
theorem dX7_init_53 : decode cX7_init 53 = .ok (.aload_n 0, 1) := by decide +kernel
theorem dX7_init_54 : decode cX7_init 54 = .ok (.new 33, 3) := by decide +kernel
theorem dX7_init_57 : decode cX7_init 57 = .ok (.dup, 1) := by decide +kernel
theorem dX7_init_58 : decode cX7_init 58 = .ok (.invokespecial 35, 3) := by decide +kernel
theorem dX7_init_61 : decode cX7_init 61 = .ok (.putfield 36, 3) := by decide +kernel
theorem dX7_init_64 : decode cX7_init 64 = .ok (.return_, 1) := by decide +kernel
theorem dX7_build_0 : decode cX7_build 0 = .ok (.iload_n 1, 1) := by decide +kernel
theorem dX7_build_1 : decode cX7_build 1 = .ok (.iconst 1, 1) := by decide +kernel
theorem dX7_build_2 : decode cX7_build 2 = .ok (.if_icmp .lt 9, 3) := by decide +kernel
theorem dX7_build_5 : decode cX7_build 5 = .ok (.iload_n 1, 1) := by decide +kernel
theorem dX7_build_6 : decode cX7_build 6 = .ok (.bipush 6, 2) := by decide +kernel
theorem dX7_build_8 : decode cX7_build 8 = .ok (.if_icmp .le 6, 3) := by decide +kernel
theorem dX7_build_11 : decode cX7_build 11 = .ok (.bipush (-2), 2) := by decide +kernel
theorem dX7_build_13 : decode cX7_build 13 = .ok (.ireturn, 1) := by decide +kernel
theorem dX7_build_14 : decode cX7_build 14 = .ok (.aload_n 0, 1) := by decide +kernel
theorem dX7_build_15 : decode cX7_build 15 = .ok (.getfield 16, 3) := by decide +kernel
theorem dX7_build_18 : decode cX7_build 18 = .ok (.aload_n 0, 1) := by decide +kernel
theorem dX7_build_19 : decode cX7_build 19 = .ok (.getfield 12, 3) := by decide +kernel
theorem dX7_build_22 : decode cX7_build 22 = .ok (.invokevirtual 40, 3) := by decide +kernel
theorem dX7_build_25 : decode cX7_build 25 = .ok (.aload_n 0, 1) := by decide +kernel
theorem dX7_build_26 : decode cX7_build 26 = .ok (.getfield 16, 3) := by decide +kernel
theorem dX7_build_29 : decode cX7_build 29 = .ok (.iload_n 1, 1) := by decide +kernel
theorem dX7_build_30 : decode cX7_build 30 = .ok (.invokevirtual 44, 3) := by decide +kernel
theorem dX7_build_33 : decode cX7_build 33 = .ok (.aload_n 0, 1) := by decide +kernel
theorem dX7_build_34 : decode cX7_build 34 = .ok (.aload_n 0, 1) := by decide +kernel
theorem dX7_build_35 : decode cX7_build 35 = .ok (.getfield 12, 3) := by decide +kernel
theorem dX7_build_38 : decode cX7_build 38 = .ok (.invokevirtual 48, 3) := by decide +kernel
theorem dX7_build_41 : decode cX7_build 41 = .ok (.aload_n 0, 1) := by decide +kernel
theorem dX7_build_42 : decode cX7_build 42 = .ok (.getfield 12, 3) := by decide +kernel
theorem dX7_build_45 : decode cX7_build 45 = .ok (.invokevirtual 52, 3) := by decide +kernel
theorem dX7_build_48 : decode cX7_build 48 = .ok (.iadd, 1) := by decide +kernel
theorem dX7_build_49 : decode cX7_build 49 = .ok (.invokevirtual 55, 3) := by decide +kernel
theorem dX7_build_52 : decode cX7_build 52 = .ok (.ireturn, 1) := by decide +kernel
theorem dX7_add_0 : decode cX7_add 0 = .ok (.aload_n 0, 1) := by decide +kernel
theorem dX7_add_1 : decode cX7_add 1 = .ok (.getfield 16, 3) := by decide +kernel
theorem dX7_add_4 : decode cX7_add 4 = .ok (.aload_n 0, 1) := by decide +kernel
theorem dX7_add_5 : decode cX7_add 5 = .ok (.getfield 12, 3) := by decide +kernel
theorem dX7_add_8 : decode cX7_add 8 = .ok (.invokevirtual 40, 3) := by decide +kernel
theorem dX7_add_11 : decode cX7_add 11 = .ok (.aload_n 0, 1) := by decide +kernel
theorem dX7_add_12 : decode cX7_add 12 = .ok (.aload_n 0, 1) := by decide +kernel
theorem dX7_add_13 : decode cX7_add 13 = .ok (.getfield 16, 3) := by decide +kernel
theorem dX7_add_16 : decode cX7_add 16 = .ok (.iload_n 1, 1) := by decide +kernel
theorem dX7_add_17 : decode cX7_add 17 = .ok (.iload_n 2, 1) := by decide +kernel
theorem dX7_add_18 : decode cX7_add 18 = .ok (.invokevirtual 59, 3) := by decide +kernel
theorem dX7_add_21 : decode cX7_add 21 = .ok (.invokevirtual 55, 3) := by decide +kernel
theorem dX7_add_24 : decode cX7_add 24 = .ok (.ireturn, 1) := by decide +kernel
theorem dX7_run_0 : decode cX7_run 0 = .ok (.aload_n 0, 1) := by decide +kernel
theorem dX7_run_1 : decode cX7_run 1 = .ok (.getfield 16, 3) := by decide +kernel
theorem dX7_run_4 : decode cX7_run 4 = .ok (.aload_n 0, 1) := by decide +kernel
theorem dX7_run_5 : decode cX7_run 5 = .ok (.getfield 12, 3) := by decide +kernel
theorem dX7_run_8 : decode cX7_run 8 = .ok (.invokevirtual 40, 3) := by decide +kernel
theorem dX7_run_11 : decode cX7_run 11 = .ok (.aload_n 0, 1) := by decide +kernel
theorem dX7_run_12 : decode cX7_run 12 = .ok (.aload_n 0, 1) := by decide +kernel
theorem dX7_run_13 : decode cX7_run 13 = .ok (.getfield 16, 3) := by decide +kernel
theorem dX7_run_16 : decode cX7_run 16 = .ok (.iload_n 1, 1) := by decide +kernel
theorem dX7_run_17 : decode cX7_run 17 = .ok (.invokevirtual 63, 3) := by decide +kernel
theorem dX7_run_20 : decode cX7_run 20 = .ok (.invokevirtual 55, 3) := by decide +kernel
theorem dX7_run_23 : decode cX7_run 23 = .ok (.ireturn, 1) := by decide +kernel
theorem dX7_finish_0 : decode cX7_finish 0 = .ok (.aload_n 0, 1) := by decide +kernel
theorem dX7_finish_1 : decode cX7_finish 1 = .ok (.getfield 12, 3) := by decide +kernel
theorem dX7_finish_4 : decode cX7_finish 4 = .ok (.invokevirtual 66, 3) := by decide +kernel
theorem dX7_finish_7 : decode cX7_finish 7 = .ok (.ifCond .eq 6, 3) := by decide +kernel
theorem dX7_finish_10 : decode cX7_finish 10 = .ok (.bipush (-5), 2) := by decide +kernel
theorem dX7_finish_12 : decode cX7_finish 12 = .ok (.ireturn, 1) := by decide +kernel
theorem dX7_finish_13 : decode cX7_finish 13 = .ok (.aload_n 0, 1) := by decide +kernel
theorem dX7_finish_14 : decode cX7_finish 14 = .ok (.getfield 16, 3) := by decide +kernel
theorem dX7_finish_17 : decode cX7_finish 17 = .ok (.aload_n 0, 1) := by decide +kernel
theorem dX7_finish_18 : decode cX7_finish 18 = .ok (.getfield 12, 3) := by decide +kernel
theorem dX7_finish_21 : decode cX7_finish 21 = .ok (.invokevirtual 40, 3) := by decide +kernel
theorem dX7_finish_24 : decode cX7_finish 24 = .ok (.aload_n 0, 1) := by decide +kernel
theorem dX7_finish_25 : decode cX7_finish 25 = .ok (.getfield 16, 3) := by decide +kernel
theorem dX7_finish_28 : decode cX7_finish 28 = .ok (.ldc 70, 2) := by decide +kernel
theorem dX7_finish_30 : decode cX7_finish 30 = .ok (.invokevirtual 71, 3) := by decide +kernel
theorem dX7_finish_33 : decode cX7_finish 33 = .ok (.aload_n 0, 1) := by decide +kernel
theorem dX7_finish_34 : decode cX7_finish 34 = .ok (.getfield 16, 3) := by decide +kernel
theorem dX7_finish_37 : decode cX7_finish 37 = .ok (.getfield 74, 3) := by decide +kernel
theorem dX7_finish_40 : decode cX7_finish 40 = .ok (.ldc 78, 2) := by decide +kernel
theorem dX7_finish_42 : decode cX7_finish 42 = .ok (.if_icmp .le 6, 3) := by decide +kernel
theorem dX7_finish_45 : decode cX7_finish 45 = .ok (.bipush (-3), 2) := by decide +kernel
theorem dX7_finish_47 : decode cX7_finish 47 = .ok (.ireturn, 1) := by decide +kernel
theorem dX7_finish_48 : decode cX7_finish 48 = .ok (.aload_n 0, 1) := by decide +kernel
theorem dX7_finish_49 : decode cX7_finish 49 = .ok (.aload_n 0, 1) := by decide +kernel
theorem dX7_finish_50 : decode cX7_finish 50 = .ok (.getfield 16, 3) := by decide +kernel
theorem dX7_finish_53 : decode cX7_finish 53 = .ok (.getfield 74, 3) := by decide +kernel
theorem dX7_finish_56 : decode cX7_finish 56 = .ok (.aload_n 0, 1) := by decide +kernel
theorem dX7_finish_57 : decode cX7_finish 57 = .ok (.getfield 12, 3) := by decide +kernel
theorem dX7_finish_60 : decode cX7_finish 60 = .ok (.getfield 74, 3) := by decide +kernel
theorem dX7_finish_63 : decode cX7_finish 63 = .ok (.isub, 1) := by decide +kernel
theorem dX7_finish_64 : decode cX7_finish 64 = .ok (.invokevirtual 55, 3) := by decide +kernel
theorem dX7_finish_67 : decode cX7_finish 67 = .ok (.ireturn, 1) := by decide +kernel
theorem dX7_setDelay_0 : decode cX7_setDelay 0 = .ok (.aload_n 0, 1) := by decide +kernel
theorem dX7_setDelay_1 : decode cX7_setDelay 1 = .ok (.getfield 16, 3) := by decide +kernel
theorem dX7_setDelay_4 : decode cX7_setDelay 4 = .ok (.aload_n 0, 1) := by decide +kernel
theorem dX7_setDelay_5 : decode cX7_setDelay 5 = .ok (.getfield 12, 3) := by decide +kernel
theorem dX7_setDelay_8 : decode cX7_setDelay 8 = .ok (.invokevirtual 40, 3) := by decide +kernel
theorem dX7_setDelay_11 : decode cX7_setDelay 11 = .ok (.aload_n 0, 1) := by decide +kernel
theorem dX7_setDelay_12 : decode cX7_setDelay 12 = .ok (.aload_n 0, 1) := by decide +kernel
theorem dX7_setDelay_13 : decode cX7_setDelay 13 = .ok (.getfield 16, 3) := by decide +kernel
theorem dX7_setDelay_16 : decode cX7_setDelay 16 = .ok (.iload_n 1, 1) := by decide +kernel
theorem dX7_setDelay_17 : decode cX7_setDelay 17 = .ok (.iload_n 2, 1) := by decide +kernel
theorem dX7_setDelay_18 : decode cX7_setDelay 18 = .ok (.iload_n 3, 1) := by decide +kernel
theorem dX7_setDelay_19 : decode cX7_setDelay 19 = .ok (.invokevirtual 79, 3) := by decide +kernel
theorem dX7_setDelay_22 : decode cX7_setDelay 22 = .ok (.invokevirtual 55, 3) := by decide +kernel
theorem dX7_setDelay_25 : decode cX7_setDelay 25 = .ok (.ireturn, 1) := by decide +kernel
theorem dX7_set_0 : decode cX7_set 0 = .ok (.iload_n 1, 1) := by decide +kernel
theorem dX7_set_1 : decode cX7_set 1 = .ok (.ifCond .lt 8, 3) := by decide +kernel
theorem dX7_set_4 : decode cX7_set 4 = .ok (.iload_n 1, 1) := by decide +kernel
theorem dX7_set_5 : decode cX7_set 5 = .ok (.iconst 3, 1) := by decide +kernel
theorem dX7_set_6 : decode cX7_set 6 = .ok (.if_icmp .lt 5, 3) := by decide +kernel
theorem dX7_set_9 : decode cX7_set 9 = .ok (.iconst (-1), 1) := by decide +kernel
theorem dX7_set_10 : decode cX7_set 10 = .ok (.ireturn, 1) := by decide +kernel
theorem dX7_set_11 : decode cX7_set 11 = .ok (.iload_n 1, 1) := by decide +kernel
theorem dX7_set_12 : decode cX7_set 12 = .ok (.iconst 2, 1) := by decide +kernel
theorem dX7_set_13 : decode cX7_set 13 = .ok (.if_icmp .ne 7, 3) := by decide +kernel
theorem dX7_set_16 : decode cX7_set 16 = .ok (.iconst 1, 1) := by decide +kernel
theorem dX7_set_17 : decode cX7_set 17 = .ok (.goto 5, 3) := by decide +kernel
theorem dX7_set_20 : decode cX7_set 20 = .ok (.bipush 20, 2) := by decide +kernel
theorem dX7_set_22 : decode cX7_set 22 = .ok (.istore_n 3, 1) := by decide +kernel
theorem dX7_set_23 : decode cX7_set 23 = .ok (.iload_n 2, 1) := by decide +kernel
theorem dX7_set_24 : decode cX7_set 24 = .ok (.ifCond .lt 8, 3) := by decide +kernel
theorem dX7_set_27 : decode cX7_set 27 = .ok (.iload_n 2, 1) := by decide +kernel
theorem dX7_set_28 : decode cX7_set 28 = .ok (.iload_n 3, 1) := by decide +kernel
theorem dX7_set_29 : decode cX7_set 29 = .ok (.if_icmp .le 6, 3) := by decide +kernel
theorem dX7_set_32 : decode cX7_set 32 = .ok (.bipush (-2), 2) := by decide +kernel
theorem dX7_set_34 : decode cX7_set 34 = .ok (.ireturn, 1) := by decide +kernel
theorem dX7_set_35 : decode cX7_set 35 = .ok (.aload_n 0, 1) := by decide +kernel
theorem dX7_set_36 : decode cX7_set 36 = .ok (.getfield 12, 3) := by decide +kernel
theorem dX7_set_39 : decode cX7_set 39 = .ok (.getfield 83, 3) := by decide +kernel
theorem dX7_set_42 : decode cX7_set 42 = .ok (.iload_n 1, 1) := by decide +kernel
theorem dX7_set_43 : decode cX7_set 43 = .ok (.iaload, 1) := by decide +kernel
theorem dX7_set_44 : decode cX7_set 44 = .ok (.istore 4, 2) := by decide +kernel
theorem dX7_set_46 : decode cX7_set 46 = .ok (.iload 4, 2) := by decide +kernel
theorem dX7_set_48 : decode cX7_set 48 = .ok (.iload_n 2, 1) := by decide +kernel
theorem dX7_set_49 : decode cX7_set 49 = .ok (.if_icmp .ne 6, 3) := by decide +kernel
theorem dX7_set_52 : decode cX7_set 52 = .ok (.bipush (-5), 2) := by decide +kernel
theorem dX7_set_54 : decode cX7_set 54 = .ok (.ireturn, 1) := by decide +kernel
theorem dX7_set_55 : decode cX7_set 55 = .ok (.aload_n 0, 1) := by decide +kernel
theorem dX7_set_56 : decode cX7_set 56 = .ok (.getfield 16, 3) := by decide +kernel
theorem dX7_set_59 : decode cX7_set 59 = .ok (.aload_n 0, 1) := by decide +kernel
theorem dX7_set_60 : decode cX7_set 60 = .ok (.getfield 12, 3) := by decide +kernel
theorem dX7_set_63 : decode cX7_set 63 = .ok (.invokevirtual 40, 3) := by decide +kernel
theorem dX7_set_66 : decode cX7_set 66 = .ok (.aload_n 0, 1) := by decide +kernel
theorem dX7_set_67 : decode cX7_set 67 = .ok (.getfield 16, 3) := by decide +kernel
theorem dX7_set_70 : decode cX7_set 70 = .ok (.getfield 83, 3) := by decide +kernel
theorem dX7_set_73 : decode cX7_set 73 = .ok (.iload_n 1, 1) := by decide +kernel
theorem dX7_set_74 : decode cX7_set 74 = .ok (.iload_n 2, 1) := by decide +kernel
theorem dX7_set_75 : decode cX7_set 75 = .ok (.iastore, 1) := by decide +kernel
theorem dX7_set_76 : decode cX7_set 76 = .ok (.aload_n 0, 1) := by decide +kernel
theorem dX7_set_77 : decode cX7_set 77 = .ok (.iload 4, 2) := by decide +kernel
theorem dX7_set_79 : decode cX7_set 79 = .ok (.invokevirtual 55, 3) := by decide +kernel
theorem dX7_set_82 : decode cX7_set 82 = .ok (.ireturn, 1) := by decide +kernel
theorem dX7_undo_0 : decode cX7_undo 0 = .ok (.aload_n 0, 1) := by decide +kernel
theorem dX7_undo_1 : decode cX7_undo 1 = .ok (.getfield 29, 3) := by decide +kernel
theorem dX7_undo_4 : decode cX7_undo 4 = .ok (.aload_n 0, 1) := by decide +kernel
theorem dX7_undo_5 : decode cX7_undo 5 = .ok (.getfield 12, 3) := by decide +kernel
theorem dX7_undo_8 : decode cX7_undo 8 = .ok (.invokevirtual 109, 3) := by decide +kernel
theorem dX7_undo_11 : decode cX7_undo 11 = .ok (.ireturn, 1) := by decide +kernel
theorem dX7_link_0 : decode cX7_link 0 = .ok (.aload_n 0, 1) := by decide +kernel
theorem dX7_link_1 : decode cX7_link 1 = .ok (.getfield 12, 3) := by decide +kernel
theorem dX7_link_4 : decode cX7_link 4 = .ok (.iload_n 1, 1) := by decide +kernel
theorem dX7_link_5 : decode cX7_link 5 = .ok (.invokevirtual 113, 3) := by decide +kernel
theorem dX7_link_8 : decode cX7_link 8 = .ok (.ifCond .ne 5, 3) := by decide +kernel
theorem dX7_link_11 : decode cX7_link 11 = .ok (.iconst (-1), 1) := by decide +kernel
theorem dX7_link_12 : decode cX7_link 12 = .ok (.ireturn, 1) := by decide +kernel
theorem dX7_link_13 : decode cX7_link 13 = .ok (.aload_n 0, 1) := by decide +kernel
theorem dX7_link_14 : decode cX7_link 14 = .ok (.getfield 12, 3) := by decide +kernel
theorem dX7_link_17 : decode cX7_link 17 = .ok (.getfield 117, 3) := by decide +kernel
theorem dX7_link_20 : decode cX7_link 20 = .ok (.iload_n 1, 1) := by decide +kernel
theorem dX7_link_21 : decode cX7_link 21 = .ok (.aaload, 1) := by decide +kernel
theorem dX7_link_22 : decode cX7_link 22 = .ok (.iload_n 2, 1) := by decide +kernel
theorem dX7_link_23 : decode cX7_link 23 = .ok (.aload_n 0, 1) := by decide +kernel
theorem dX7_link_24 : decode cX7_link 24 = .ok (.getfield 12, 3) := by decide +kernel
theorem dX7_link_27 : decode cX7_link 27 = .ok (.getfield 83, 3) := by decide +kernel
theorem dX7_link_30 : decode cX7_link 30 = .ok (.iconst 0, 1) := by decide +kernel
theorem dX7_link_31 : decode cX7_link 31 = .ok (.iaload, 1) := by decide +kernel
theorem dX7_link_32 : decode cX7_link 32 = .ok (.invokevirtual 121, 3) := by decide +kernel
theorem dX7_link_35 : decode cX7_link 35 = .ok (.ireturn, 1) := by decide +kernel
theorem dX7_stage_0 : decode cX7_stage 0 = .ok (.iload_n 1, 1) := by decide +kernel
theorem dX7_stage_1 : decode cX7_stage 1 = .ok (.ifCond .lt 14, 3) := by decide +kernel
theorem dX7_stage_4 : decode cX7_stage 4 = .ok (.iload_n 1, 1) := by decide +kernel
theorem dX7_stage_5 : decode cX7_stage 5 = .ok (.aload_n 0, 1) := by decide +kernel
theorem dX7_stage_6 : decode cX7_stage 6 = .ok (.getfield 12, 3) := by decide +kernel
theorem dX7_stage_9 : decode cX7_stage 9 = .ok (.getfield 126, 3) := by decide +kernel
theorem dX7_stage_12 : decode cX7_stage 12 = .ok (.if_icmp .lt 5, 3) := by decide +kernel
theorem dX7_stage_15 : decode cX7_stage 15 = .ok (.iconst (-1), 1) := by decide +kernel
theorem dX7_stage_16 : decode cX7_stage 16 = .ok (.ireturn, 1) := by decide +kernel
theorem dX7_stage_17 : decode cX7_stage 17 = .ok (.aload_n 0, 1) := by decide +kernel
theorem dX7_stage_18 : decode cX7_stage 18 = .ok (.getfield 12, 3) := by decide +kernel
theorem dX7_stage_21 : decode cX7_stage 21 = .ok (.getfield 129, 3) := by decide +kernel
theorem dX7_stage_24 : decode cX7_stage 24 = .ok (.iload_n 1, 1) := by decide +kernel
theorem dX7_stage_25 : decode cX7_stage 25 = .ok (.iaload, 1) := by decide +kernel
theorem dX7_stage_26 : decode cX7_stage 26 = .ok (.istore_n 2, 1) := by decide +kernel
theorem dX7_stage_27 : decode cX7_stage 27 = .ok (.iload_n 2, 1) := by decide +kernel
theorem dX7_stage_28 : decode cX7_stage 28 = .ok (.iconst (-1), 1) := by decide +kernel
theorem dX7_stage_29 : decode cX7_stage 29 = .ok (.if_icmp .ne 8, 3) := by decide +kernel
theorem dX7_stage_32 : decode cX7_stage 32 = .ok (.bipush (-5), 2) := by decide +kernel
theorem dX7_stage_34 : decode cX7_stage 34 = .ok (.goto 4, 3) := by decide +kernel
theorem dX7_stage_37 : decode cX7_stage 37 = .ok (.iload_n 2, 1) := by decide +kernel
theorem dX7_stage_38 : decode cX7_stage 38 = .ok (.ireturn, 1) := by decide +kernel
theorem dX7_waiting_0 : decode cX7_waiting 0 = .ok (.iload_n 1, 1) := by decide +kernel
theorem dX7_waiting_1 : decode cX7_waiting 1 = .ok (.ifCond .lt 8, 3) := by decide +kernel
theorem dX7_waiting_4 : decode cX7_waiting 4 = .ok (.iload_n 1, 1) := by decide +kernel
theorem dX7_waiting_5 : decode cX7_waiting 5 = .ok (.iconst 2, 1) := by decide +kernel
theorem dX7_waiting_6 : decode cX7_waiting 6 = .ok (.if_icmp .lt 5, 3) := by decide +kernel
theorem dX7_waiting_9 : decode cX7_waiting 9 = .ok (.iconst (-1), 1) := by decide +kernel
theorem dX7_waiting_10 : decode cX7_waiting 10 = .ok (.ireturn, 1) := by decide +kernel
theorem dX7_waiting_11 : decode cX7_waiting 11 = .ok (.iload_n 2, 1) := by decide +kernel
theorem dX7_waiting_12 : decode cX7_waiting 12 = .ok (.ifCond .ge 6, 3) := by decide +kernel
theorem dX7_waiting_15 : decode cX7_waiting 15 = .ok (.bipush (-2), 2) := by decide +kernel
theorem dX7_waiting_17 : decode cX7_waiting 17 = .ok (.ireturn, 1) := by decide +kernel
theorem dX7_waiting_18 : decode cX7_waiting 18 = .ok (.aload_n 0, 1) := by decide +kernel
theorem dX7_waiting_19 : decode cX7_waiting 19 = .ok (.getfield 12, 3) := by decide +kernel
theorem dX7_waiting_22 : decode cX7_waiting 22 = .ok (.getfield 132, 3) := by decide +kernel
theorem dX7_waiting_25 : decode cX7_waiting 25 = .ok (.iload_n 1, 1) := by decide +kernel
theorem dX7_waiting_26 : decode cX7_waiting 26 = .ok (.aaload, 1) := by decide +kernel
theorem dX7_waiting_27 : decode cX7_waiting 27 = .ok (.iload_n 2, 1) := by decide +kernel
theorem dX7_waiting_28 : decode cX7_waiting 28 = .ok (.invokevirtual 136, 3) := by decide +kernel
theorem dX7_waiting_31 : decode cX7_waiting 31 = .ok (.istore_n 3, 1) := by decide +kernel
theorem dX7_waiting_32 : decode cX7_waiting 32 = .ok (.iload_n 3, 1) := by decide +kernel
theorem dX7_waiting_33 : decode cX7_waiting 33 = .ok (.iconst (-1), 1) := by decide +kernel
theorem dX7_waiting_34 : decode cX7_waiting 34 = .ok (.if_icmp .ne 8, 3) := by decide +kernel
theorem dX7_waiting_37 : decode cX7_waiting 37 = .ok (.bipush (-5), 2) := by decide +kernel
theorem dX7_waiting_39 : decode cX7_waiting 39 = .ok (.goto 4, 3) := by decide +kernel
theorem dX7_waiting_42 : decode cX7_waiting 42 = .ok (.iload_n 3, 1) := by decide +kernel
theorem dX7_waiting_43 : decode cX7_waiting 43 = .ok (.ireturn, 1) := by decide +kernel
theorem dX7_noted_0 : decode cX7_noted 0 = .ok (.iload_n 1, 1) := by decide +kernel
theorem dX7_noted_1 : decode cX7_noted 1 = .ok (.ifCond .lt 12, 3) := by decide +kernel
theorem dX7_noted_4 : decode cX7_noted 4 = .ok (.iload_n 2, 1) := by decide +kernel
theorem dX7_noted_5 : decode cX7_noted 5 = .ok (.ifCond .lt 8, 3) := by decide +kernel
theorem dX7_noted_8 : decode cX7_noted 8 = .ok (.iload_n 2, 1) := by decide +kernel
theorem dX7_noted_9 : decode cX7_noted 9 = .ok (.iconst 2, 1) := by decide +kernel
theorem dX7_noted_10 : decode cX7_noted 10 = .ok (.if_icmp .le 6, 3) := by decide +kernel
theorem dX7_noted_13 : decode cX7_noted 13 = .ok (.bipush (-2), 2) := by decide +kernel
theorem dX7_noted_15 : decode cX7_noted 15 = .ok (.ireturn, 1) := by decide +kernel
theorem dX7_noted_16 : decode cX7_noted 16 = .ok (.aload_n 0, 1) := by decide +kernel
theorem dX7_noted_17 : decode cX7_noted 17 = .ok (.getfield 12, 3) := by decide +kernel
theorem dX7_noted_20 : decode cX7_noted 20 = .ok (.getfield 141, 3) := by decide +kernel
theorem dX7_noted_23 : decode cX7_noted 23 = .ok (.iload_n 1, 1) := by decide +kernel
theorem dX7_noted_24 : decode cX7_noted 24 = .ok (.iload_n 2, 1) := by decide +kernel
theorem dX7_noted_25 : decode cX7_noted 25 = .ok (.invokevirtual 145, 3) := by decide +kernel
theorem dX7_noted_28 : decode cX7_noted 28 = .ok (.ireturn, 1) := by decide +kernel
theorem dX7_total_0 : decode cX7_total 0 = .ok (.iload_n 1, 1) := by decide +kernel
theorem dX7_total_1 : decode cX7_total 1 = .ok (.tableswitch 210 0 14 #[75, 83, 91, 99, 107, 118, 126, 137, 148, 156, 164, 174, 184, 194, 202], 75) := by decide +kernel
theorem dX7_total_76 : decode cX7_total 76 = .ok (.aload_n 0, 1) := by decide +kernel
theorem dX7_total_77 : decode cX7_total 77 = .ok (.getfield 12, 3) := by decide +kernel
theorem dX7_total_80 : decode cX7_total 80 = .ok (.getfield 126, 3) := by decide +kernel
theorem dX7_total_83 : decode cX7_total 83 = .ok (.ireturn, 1) := by decide +kernel
theorem dX7_total_84 : decode cX7_total 84 = .ok (.aload_n 0, 1) := by decide +kernel
theorem dX7_total_85 : decode cX7_total 85 = .ok (.getfield 12, 3) := by decide +kernel
theorem dX7_total_88 : decode cX7_total 88 = .ok (.getfield 74, 3) := by decide +kernel
theorem dX7_total_91 : decode cX7_total 91 = .ok (.ireturn, 1) := by decide +kernel
theorem dX7_total_92 : decode cX7_total 92 = .ok (.aload_n 0, 1) := by decide +kernel
theorem dX7_total_93 : decode cX7_total 93 = .ok (.getfield 12, 3) := by decide +kernel
theorem dX7_total_96 : decode cX7_total 96 = .ok (.invokevirtual 52, 3) := by decide +kernel
theorem dX7_total_99 : decode cX7_total 99 = .ok (.ireturn, 1) := by decide +kernel
theorem dX7_total_100 : decode cX7_total 100 = .ok (.aload_n 0, 1) := by decide +kernel
theorem dX7_total_101 : decode cX7_total 101 = .ok (.getfield 12, 3) := by decide +kernel
theorem dX7_total_104 : decode cX7_total 104 = .ok (.invokevirtual 48, 3) := by decide +kernel
theorem dX7_total_107 : decode cX7_total 107 = .ok (.ireturn, 1) := by decide +kernel
theorem dX7_total_108 : decode cX7_total 108 = .ok (.aload_n 0, 1) := by decide +kernel
theorem dX7_total_109 : decode cX7_total 109 = .ok (.getfield 12, 3) := by decide +kernel
theorem dX7_total_112 : decode cX7_total 112 = .ok (.getfield 148, 3) := by decide +kernel
theorem dX7_total_115 : decode cX7_total 115 = .ok (.getfield 152, 3) := by decide +kernel
theorem dX7_total_118 : decode cX7_total 118 = .ok (.ireturn, 1) := by decide +kernel
theorem dX7_total_119 : decode cX7_total 119 = .ok (.aload_n 0, 1) := by decide +kernel
theorem dX7_total_120 : decode cX7_total 120 = .ok (.getfield 12, 3) := by decide +kernel
theorem dX7_total_123 : decode cX7_total 123 = .ok (.getfield 157, 3) := by decide +kernel
theorem dX7_total_126 : decode cX7_total 126 = .ok (.ireturn, 1) := by decide +kernel
theorem dX7_total_127 : decode cX7_total 127 = .ok (.aload_n 0, 1) := by decide +kernel
theorem dX7_total_128 : decode cX7_total 128 = .ok (.getfield 12, 3) := by decide +kernel
theorem dX7_total_131 : decode cX7_total 131 = .ok (.getfield 141, 3) := by decide +kernel
theorem dX7_total_134 : decode cX7_total 134 = .ok (.getfield 160, 3) := by decide +kernel
theorem dX7_total_137 : decode cX7_total 137 = .ok (.ireturn, 1) := by decide +kernel
theorem dX7_total_138 : decode cX7_total 138 = .ok (.aload_n 0, 1) := by decide +kernel
theorem dX7_total_139 : decode cX7_total 139 = .ok (.getfield 12, 3) := by decide +kernel
theorem dX7_total_142 : decode cX7_total 142 = .ok (.getfield 141, 3) := by decide +kernel
theorem dX7_total_145 : decode cX7_total 145 = .ok (.getfield 161, 3) := by decide +kernel
theorem dX7_total_148 : decode cX7_total 148 = .ok (.ireturn, 1) := by decide +kernel
theorem dX7_total_149 : decode cX7_total 149 = .ok (.aload_n 0, 1) := by decide +kernel
theorem dX7_total_150 : decode cX7_total 150 = .ok (.getfield 12, 3) := by decide +kernel
theorem dX7_total_153 : decode cX7_total 153 = .ok (.getfield 164, 3) := by decide +kernel
theorem dX7_total_156 : decode cX7_total 156 = .ok (.ireturn, 1) := by decide +kernel
theorem dX7_total_157 : decode cX7_total 157 = .ok (.aload_n 0, 1) := by decide +kernel
theorem dX7_total_158 : decode cX7_total 158 = .ok (.getfield 12, 3) := by decide +kernel
theorem dX7_total_161 : decode cX7_total 161 = .ok (.getfield 167, 3) := by decide +kernel
theorem dX7_total_164 : decode cX7_total 164 = .ok (.ireturn, 1) := by decide +kernel
theorem dX7_total_165 : decode cX7_total 165 = .ok (.aload_n 0, 1) := by decide +kernel
theorem dX7_total_166 : decode cX7_total 166 = .ok (.getfield 12, 3) := by decide +kernel
theorem dX7_total_169 : decode cX7_total 169 = .ok (.getfield 83, 3) := by decide +kernel
theorem dX7_total_172 : decode cX7_total 172 = .ok (.iconst 0, 1) := by decide +kernel
theorem dX7_total_173 : decode cX7_total 173 = .ok (.iaload, 1) := by decide +kernel
theorem dX7_total_174 : decode cX7_total 174 = .ok (.ireturn, 1) := by decide +kernel
theorem dX7_total_175 : decode cX7_total 175 = .ok (.aload_n 0, 1) := by decide +kernel
theorem dX7_total_176 : decode cX7_total 176 = .ok (.getfield 12, 3) := by decide +kernel
theorem dX7_total_179 : decode cX7_total 179 = .ok (.getfield 83, 3) := by decide +kernel
theorem dX7_total_182 : decode cX7_total 182 = .ok (.iconst 1, 1) := by decide +kernel
theorem dX7_total_183 : decode cX7_total 183 = .ok (.iaload, 1) := by decide +kernel
theorem dX7_total_184 : decode cX7_total 184 = .ok (.ireturn, 1) := by decide +kernel
theorem dX7_total_185 : decode cX7_total 185 = .ok (.aload_n 0, 1) := by decide +kernel
theorem dX7_total_186 : decode cX7_total 186 = .ok (.getfield 12, 3) := by decide +kernel
theorem dX7_total_189 : decode cX7_total 189 = .ok (.getfield 83, 3) := by decide +kernel
theorem dX7_total_192 : decode cX7_total 192 = .ok (.iconst 2, 1) := by decide +kernel
theorem dX7_total_193 : decode cX7_total 193 = .ok (.iaload, 1) := by decide +kernel
theorem dX7_total_194 : decode cX7_total 194 = .ok (.ireturn, 1) := by decide +kernel
theorem dX7_total_195 : decode cX7_total 195 = .ok (.aload_n 0, 1) := by decide +kernel
theorem dX7_total_196 : decode cX7_total 196 = .ok (.getfield 29, 3) := by decide +kernel
theorem dX7_total_199 : decode cX7_total 199 = .ok (.getfield 170, 3) := by decide +kernel
theorem dX7_total_202 : decode cX7_total 202 = .ok (.ireturn, 1) := by decide +kernel
theorem dX7_total_203 : decode cX7_total 203 = .ok (.aload_n 0, 1) := by decide +kernel
theorem dX7_total_204 : decode cX7_total 204 = .ok (.getfield 36, 3) := by decide +kernel
theorem dX7_total_207 : decode cX7_total 207 = .ok (.getfield 91, 3) := by decide +kernel
theorem dX7_total_210 : decode cX7_total 210 = .ok (.ireturn, 1) := by decide +kernel
theorem dX7_total_211 : decode cX7_total 211 = .ok (.bipush (-2), 2) := by decide +kernel
theorem dX7_total_213 : decode cX7_total 213 = .ok (.ireturn, 1) := by decide +kernel
theorem dX7_next_0 : decode cX7_next 0 = .ok (.aload_n 0, 1) := by decide +kernel
theorem dX7_next_1 : decode cX7_next 1 = .ok (.getfield 12, 3) := by decide +kernel
theorem dX7_next_4 : decode cX7_next 4 = .ok (.invokevirtual 66, 3) := by decide +kernel
theorem dX7_next_7 : decode cX7_next 7 = .ok (.ifCond .eq 8, 3) := by decide +kernel
theorem dX7_next_10 : decode cX7_next 10 = .ok (.bipush (-5), 2) := by decide +kernel
theorem dX7_next_12 : decode cX7_next 12 = .ok (.goto 13, 3) := by decide +kernel
theorem dX7_next_15 : decode cX7_next 15 = .ok (.aload_n 0, 1) := by decide +kernel
theorem dX7_next_16 : decode cX7_next 16 = .ok (.getfield 12, 3) := by decide +kernel
theorem dX7_next_19 : decode cX7_next 19 = .ok (.getfield 148, 3) := by decide +kernel
theorem dX7_next_22 : decode cX7_next 22 = .ok (.invokevirtual 171, 3) := by decide +kernel
theorem dX7_next_25 : decode cX7_next 25 = .ok (.ireturn, 1) := by decide +kernel
theorem dX7_accept_0 : decode cX7_accept 0 = .ok (.iload_n 1, 1) := by decide +kernel
theorem dX7_accept_1 : decode cX7_accept 1 = .ok (.ifCond .ge 5, 3) := by decide +kernel
theorem dX7_accept_4 : decode cX7_accept 4 = .ok (.iload_n 1, 1) := by decide +kernel
theorem dX7_accept_5 : decode cX7_accept 5 = .ok (.ireturn, 1) := by decide +kernel
theorem dX7_accept_6 : decode cX7_accept 6 = .ok (.aload_n 0, 1) := by decide +kernel
