theorem dX2_letAnswerArrive_91 : decode cX2_letAnswerArrive 91 = .ok (.iload_n 1, 1) := by decide +kernel
theorem dX2_letAnswerArrive_92 : decode cX2_letAnswerArrive 92 = .ok (.iconst 1, 1) := by decide +kernel
theorem dX2_letAnswerArrive_93 : decode cX2_letAnswerArrive 93 = .ok (.isub, 1) := by decide +kernel
theorem dX2_letAnswerArrive_94 : decode cX2_letAnswerArrive 94 = .ok (.invokevirtual 164, 3) := by decide +kernel
theorem dX2_letAnswerArrive_97 : decode cX2_letAnswerArrive 97 = .ok (.return_, 1) := by decide +kernel
set_option maxRecDepth 20000 in
theorem ggX2_takeWord_X2_makeAnswer : GoodIn wsX2_takeWord wsX2_makeAnswer := goodIn_r _ [9, 1, 10, 11, 12, 13, 14, 15, 16, 17, 18, 19, 20, 21, 22, 23, 24, 25, 26, 27, 28, 29, 30, 31, 32, 33, 34, 35, 36, 37, 38, 39, 40, 41, 42, 43, 44, 45, 46, 47, 48] (by decide +kernel) (by decide +kernel)
set_option maxRecDepth 20000 in
theorem gX2_takeWord_X2_makeAnswer : GoodIn wsX2_takeWord (wsV RX2 154 RX2 yX2_makeAnswer wsX2_makeAnswer) := goodIn_app (goodIn_of _ (by decide +kernel)) ggX2_takeWord_X2_makeAnswer
theorem dX2_takeWord_0 : decode cX2_takeWord 0 = .ok (.aload_n 0, 1) := by decide +kernel
theorem dX2_takeWord_1 : decode cX2_takeWord 1 = .ok (.getfield 17, 3) := by decide +kernel
theorem dX2_takeWord_4 : decode cX2_takeWord 4 = .ok (.iload_n 1, 1) := by decide +kernel
theorem dX2_takeWord_5 : decode cX2_takeWord 5 = .ok (.aaload, 1) := by decide +kernel
theorem dX2_takeWord_6 : decode cX2_takeWord 6 = .ok (.iconst 0, 1) := by decide +kernel
theorem dX2_takeWord_7 : decode cX2_takeWord 7 = .ok (.putfield 161, 3) := by decide +kernel
theorem dX2_takeWord_10 : decode cX2_takeWord 10 = .ok (.aload_n 0, 1) := by decide +kernel
theorem dX2_takeWord_11 : decode cX2_takeWord 11 = .ok (.getfield 21, 3) := by decide +kernel
theorem dX2_takeWord_14 : decode cX2_takeWord 14 = .ok (.iload_n 1, 1) := by decide +kernel
theorem dX2_takeWord_15 : decode cX2_takeWord 15 = .ok (.aload_n 0, 1) := by decide +kernel
theorem dX2_takeWord_16 : decode cX2_takeWord 16 = .ok (.getfield 17, 3) := by decide +kernel
theorem dX2_takeWord_19 : decode cX2_takeWord 19 = .ok (.iload_n 1, 1) := by decide +kernel
theorem dX2_takeWord_20 : decode cX2_takeWord 20 = .ok (.aaload, 1) := by decide +kernel
theorem dX2_takeWord_21 : decode cX2_takeWord 21 = .ok (.getfield 148, 3) := by decide +kernel
theorem dX2_takeWord_24 : decode cX2_takeWord 24 = .ok (.iastore, 1) := by decide +kernel
theorem dX2_takeWord_25 : decode cX2_takeWord 25 = .ok (.aload_n 0, 1) := by decide +kernel
theorem dX2_takeWord_26 : decode cX2_takeWord 26 = .ok (.iload_n 1, 1) := by decide +kernel
theorem dX2_takeWord_27 : decode cX2_takeWord 27 = .ok (.iconst 1, 1) := by decide +kernel
theorem dX2_takeWord_28 : decode cX2_takeWord 28 = .ok (.iconst 0, 1) := by decide +kernel
theorem dX2_takeWord_29 : decode cX2_takeWord 29 = .ok (.invokevirtual 154, 3) := by decide +kernel
theorem dX2_takeWord_32 : decode cX2_takeWord 32 = .ok (.return_, 1) := by decide +kernel
set_option maxRecDepth 20000 in
theorem ggX2_letOneGo_X2_chosenSender : GoodIn wsX2_letOneGo wsX2_chosenSender := goodIn_r _ [9, 1, 10, 11, 2, 19, 20, 21, 22, 23, 24, 25, 26, 27, 28, 29, 30, 31, 32] (by decide +kernel) (by decide +kernel)
set_option maxRecDepth 20000 in
theorem gX2_letOneGo_X2_chosenSender : GoodIn wsX2_letOneGo (wsV RX2 173 RX2 yX2_chosenSender wsX2_chosenSender) := goodIn_app (goodIn_of _ (by decide +kernel)) ggX2_letOneGo_X2_chosenSender
set_option maxRecDepth 20000 in
theorem ggX2_letOneGo_X5_removeFirst : GoodIn wsX2_letOneGo wsX5_removeFirst := goodIn_r _ [16, 17, 18, 31, 32] (by decide +kernel) (by decide +kernel)
set_option maxRecDepth 20000 in
theorem gX2_letOneGo_X5_removeFirst : GoodIn wsX2_letOneGo (wsV RX2 176 RX5 yX5_removeFirst wsX5_removeFirst) := goodIn_app (goodIn_of _ (by decide +kernel)) ggX2_letOneGo_X5_removeFirst
theorem dX2_letOneGo_0 : decode cX2_letOneGo 0 = .ok (.aload_n 0, 1) := by decide +kernel
theorem dX2_letOneGo_1 : decode cX2_letOneGo 1 = .ok (.invokevirtual 173, 3) := by decide +kernel
theorem dX2_letOneGo_4 : decode cX2_letOneGo 4 = .ok (.istore_n 1, 1) := by decide +kernel
theorem dX2_letOneGo_5 : decode cX2_letOneGo 5 = .ok (.aload_n 0, 1) := by decide +kernel
theorem dX2_letOneGo_6 : decode cX2_letOneGo 6 = .ok (.getfield 26, 3) := by decide +kernel
theorem dX2_letOneGo_9 : decode cX2_letOneGo 9 = .ok (.iload_n 1, 1) := by decide +kernel
theorem dX2_letOneGo_10 : decode cX2_letOneGo 10 = .ok (.aaload, 1) := by decide +kernel
theorem dX2_letOneGo_11 : decode cX2_letOneGo 11 = .ok (.invokevirtual 176, 3) := by decide +kernel
theorem dX2_letOneGo_14 : decode cX2_letOneGo 14 = .ok (.istore_n 2, 1) := by decide +kernel
theorem dX2_letOneGo_15 : decode cX2_letOneGo 15 = .ok (.iload_n 2, 1) := by decide +kernel
theorem dX2_letOneGo_16 : decode cX2_letOneGo 16 = .ok (.iconst (-1), 1) := by decide +kernel
theorem dX2_letOneGo_17 : decode cX2_letOneGo 17 = .ok (.if_icmp .ne 5, 3) := by decide +kernel
theorem dX2_letOneGo_20 : decode cX2_letOneGo 20 = .ok (.iconst (-1), 1) := by decide +kernel
theorem dX2_letOneGo_21 : decode cX2_letOneGo 21 = .ok (.ireturn, 1) := by decide +kernel
theorem dX2_letOneGo_22 : decode cX2_letOneGo 22 = .ok (.iload_n 1, 1) := by decide +kernel
theorem dX2_letOneGo_23 : decode cX2_letOneGo 23 = .ok (.bipush 16, 2) := by decide +kernel
theorem dX2_letOneGo_25 : decode cX2_letOneGo 25 = .ok (.imul, 1) := by decide +kernel
theorem dX2_letOneGo_26 : decode cX2_letOneGo 26 = .ok (.iload_n 2, 1) := by decide +kernel
theorem dX2_letOneGo_27 : decode cX2_letOneGo 27 = .ok (.iadd, 1) := by decide +kernel
theorem dX2_letOneGo_28 : decode cX2_letOneGo 28 = .ok (.istore_n 3, 1) := by decide +kernel
theorem dX2_letOneGo_29 : decode cX2_letOneGo 29 = .ok (.aload_n 0, 1) := by decide +kernel
theorem dX2_letOneGo_30 : decode cX2_letOneGo 30 = .ok (.iload_n 1, 1) := by decide +kernel
theorem dX2_letOneGo_31 : decode cX2_letOneGo 31 = .ok (.putfield 60, 3) := by decide +kernel
theorem dX2_letOneGo_34 : decode cX2_letOneGo 34 = .ok (.aload_n 0, 1) := by decide +kernel
theorem dX2_letOneGo_35 : decode cX2_letOneGo 35 = .ok (.getfield 44, 3) := by decide +kernel
theorem dX2_letOneGo_38 : decode cX2_letOneGo 38 = .ok (.aload_n 0, 1) := by decide +kernel
theorem dX2_letOneGo_39 : decode cX2_letOneGo 39 = .ok (.getfield 63, 3) := by decide +kernel
theorem dX2_letOneGo_42 : decode cX2_letOneGo 42 = .ok (.bipush 8, 2) := by decide +kernel
theorem dX2_letOneGo_44 : decode cX2_letOneGo 44 = .ok (.irem, 1) := by decide +kernel
theorem dX2_letOneGo_45 : decode cX2_letOneGo 45 = .ok (.iload_n 3, 1) := by decide +kernel
theorem dX2_letOneGo_46 : decode cX2_letOneGo 46 = .ok (.iastore, 1) := by decide +kernel
theorem dX2_letOneGo_47 : decode cX2_letOneGo 47 = .ok (.aload_n 0, 1) := by decide +kernel
theorem dX2_letOneGo_48 : decode cX2_letOneGo 48 = .ok (.dup, 1) := by decide +kernel
theorem dX2_letOneGo_49 : decode cX2_letOneGo 49 = .ok (.getfield 63, 3) := by decide +kernel
theorem dX2_letOneGo_52 : decode cX2_letOneGo 52 = .ok (.iconst 1, 1) := by decide +kernel
theorem dX2_letOneGo_53 : decode cX2_letOneGo 53 = .ok (.iadd, 1) := by decide +kernel
theorem dX2_letOneGo_54 : decode cX2_letOneGo 54 = .ok (.putfield 63, 3) := by decide +kernel
theorem dX2_letOneGo_57 : decode cX2_letOneGo 57 = .ok (.iload_n 3, 1) := by decide +kernel
theorem dX2_letOneGo_58 : decode cX2_letOneGo 58 = .ok (.ireturn, 1) := by decide +kernel
theorem dX2_chosenSender_0 : decode cX2_chosenSender 0 = .ok (.aload_n 0, 1) := by decide +kernel
theorem dX2_chosenSender_1 : decode cX2_chosenSender 1 = .ok (.getfield 26, 3) := by decide +kernel
theorem dX2_chosenSender_4 : decode cX2_chosenSender 4 = .ok (.iconst 1, 1) := by decide +kernel
theorem dX2_chosenSender_5 : decode cX2_chosenSender 5 = .ok (.aaload, 1) := by decide +kernel
theorem dX2_chosenSender_6 : decode cX2_chosenSender 6 = .ok (.getfield 72, 3) := by decide +kernel
theorem dX2_chosenSender_9 : decode cX2_chosenSender 9 = .ok (.ifCond .ne 5, 3) := by decide +kernel
theorem dX2_chosenSender_12 : decode cX2_chosenSender 12 = .ok (.iconst 0, 1) := by decide +kernel
theorem dX2_chosenSender_13 : decode cX2_chosenSender 13 = .ok (.ireturn, 1) := by decide +kernel
theorem dX2_chosenSender_14 : decode cX2_chosenSender 14 = .ok (.aload_n 0, 1) := by decide +kernel
theorem dX2_chosenSender_15 : decode cX2_chosenSender 15 = .ok (.getfield 26, 3) := by decide +kernel
theorem dX2_chosenSender_18 : decode cX2_chosenSender 18 = .ok (.iconst 0, 1) := by decide +kernel
theorem dX2_chosenSender_19 : decode cX2_chosenSender 19 = .ok (.aaload, 1) := by decide +kernel
theorem dX2_chosenSender_20 : decode cX2_chosenSender 20 = .ok (.getfield 72, 3) := by decide +kernel
theorem dX2_chosenSender_23 : decode cX2_chosenSender 23 = .ok (.ifCond .ne 5, 3) := by decide +kernel
theorem dX2_chosenSender_26 : decode cX2_chosenSender 26 = .ok (.iconst 1, 1) := by decide +kernel
theorem dX2_chosenSender_27 : decode cX2_chosenSender 27 = .ok (.ireturn, 1) := by decide +kernel
theorem dX2_chosenSender_28 : decode cX2_chosenSender 28 = .ok (.aload_n 0, 1) := by decide +kernel
theorem dX2_chosenSender_29 : decode cX2_chosenSender 29 = .ok (.getfield 9, 3) := by decide +kernel
theorem dX2_chosenSender_32 : decode cX2_chosenSender 32 = .ok (.iconst 2, 1) := by decide +kernel
theorem dX2_chosenSender_33 : decode cX2_chosenSender 33 = .ok (.iaload, 1) := by decide +kernel
theorem dX2_chosenSender_34 : decode cX2_chosenSender 34 = .ok (.ifCond .ne 14, 3) := by decide +kernel
theorem dX2_chosenSender_37 : decode cX2_chosenSender 37 = .ok (.aload_n 0, 1) := by decide +kernel
theorem dX2_chosenSender_38 : decode cX2_chosenSender 38 = .ok (.getfield 60, 3) := by decide +kernel
theorem dX2_chosenSender_41 : decode cX2_chosenSender 41 = .ok (.ifCond .ne 7, 3) := by decide +kernel
theorem dX2_chosenSender_44 : decode cX2_chosenSender 44 = .ok (.iconst 1, 1) := by decide +kernel
theorem dX2_chosenSender_45 : decode cX2_chosenSender 45 = .ok (.goto 4, 3) := by decide +kernel
theorem dX2_chosenSender_48 : decode cX2_chosenSender 48 = .ok (.iconst 0, 1) := by decide +kernel
theorem dX2_chosenSender_49 : decode cX2_chosenSender 49 = .ok (.ireturn, 1) := by decide +kernel
set_option maxRecDepth 20000 in
theorem ggX2_noteWord_X4_append : GoodIn wsX2_noteWord wsX4_append := goodIn_r _ [9, 10, 11, 12, 13, 14, 27, 28, 29, 30, 31] (by decide +kernel) (by decide +kernel)
set_option maxRecDepth 20000 in
theorem gX2_noteWord_X4_append : GoodIn wsX2_noteWord (wsV RX2 178 RX4 yX4_append wsX4_append) := goodIn_app (goodIn_of _ (by decide +kernel)) ggX2_noteWord_X4_append
theorem dX2_noteWord_0 : decode cX2_noteWord 0 = .ok (.iload_n 1, 1) := by decide +kernel
theorem dX2_noteWord_1 : decode cX2_noteWord 1 = .ok (.aload_n 0, 1) := by decide +kernel
theorem dX2_noteWord_2 : decode cX2_noteWord 2 = .ok (.getfield 44, 3) := by decide +kernel
theorem dX2_noteWord_5 : decode cX2_noteWord 5 = .ok (.aload_n 0, 1) := by decide +kernel
theorem dX2_noteWord_6 : decode cX2_noteWord 6 = .ok (.getfield 40, 3) := by decide +kernel
theorem dX2_noteWord_9 : decode cX2_noteWord 9 = .ok (.getfield 119, 3) := by decide +kernel
theorem dX2_noteWord_12 : decode cX2_noteWord 12 = .ok (.bipush 8, 2) := by decide +kernel
theorem dX2_noteWord_14 : decode cX2_noteWord 14 = .ok (.irem, 1) := by decide +kernel
theorem dX2_noteWord_15 : decode cX2_noteWord 15 = .ok (.iaload, 1) := by decide +kernel
theorem dX2_noteWord_16 : decode cX2_noteWord 16 = .ok (.if_icmp .ne 7, 3) := by decide +kernel
theorem dX2_noteWord_19 : decode cX2_noteWord 19 = .ok (.iconst 1, 1) := by decide +kernel
theorem dX2_noteWord_20 : decode cX2_noteWord 20 = .ok (.goto 4, 3) := by decide +kernel
theorem dX2_noteWord_23 : decode cX2_noteWord 23 = .ok (.iconst 0, 1) := by decide +kernel
theorem dX2_noteWord_24 : decode cX2_noteWord 24 = .ok (.istore_n 2, 1) := by decide +kernel
theorem dX2_noteWord_25 : decode cX2_noteWord 25 = .ok (.aload_n 0, 1) := by decide +kernel
theorem dX2_noteWord_26 : decode cX2_noteWord 26 = .ok (.getfield 40, 3) := by decide +kernel
theorem dX2_noteWord_29 : decode cX2_noteWord 29 = .ok (.iload_n 1, 1) := by decide +kernel
theorem dX2_noteWord_30 : decode cX2_noteWord 30 = .ok (.aload_n 0, 1) := by decide +kernel
theorem dX2_noteWord_31 : decode cX2_noteWord 31 = .ok (.getfield 57, 3) := by decide +kernel
theorem dX2_noteWord_34 : decode cX2_noteWord 34 = .ok (.iload_n 2, 1) := by decide +kernel
theorem dX2_noteWord_35 : decode cX2_noteWord 35 = .ok (.ifCond .eq 7, 3) := by decide +kernel
theorem dX2_noteWord_38 : decode cX2_noteWord 38 = .ok (.iconst 1, 1) := by decide +kernel
theorem dX2_noteWord_39 : decode cX2_noteWord 39 = .ok (.goto 4, 3) := by decide +kernel
theorem dX2_noteWord_42 : decode cX2_noteWord 42 = .ok (.iconst 0, 1) := by decide +kernel
theorem dX2_noteWord_43 : decode cX2_noteWord 43 = .ok (.invokevirtual 178, 3) := by decide +kernel
theorem dX2_noteWord_46 : decode cX2_noteWord 46 = .ok (.return_, 1) := by decide +kernel
set_option maxRecDepth 20000 in
theorem ggX2_offer_X0_insert : GoodIn wsX2_offer wsX0_insert := goodIn_r _ [13, 14, 15, 16, 17, 46, 47, 48, 49] (by decide +kernel) (by decide +kernel)
set_option maxRecDepth 20000 in
theorem gX2_offer_X0_insert : GoodIn wsX2_offer (wsV RX2 183 RX0 yX0_insert wsX0_insert) := goodIn_app (goodIn_of _ (by decide +kernel)) ggX2_offer_X0_insert
set_option maxRecDepth 20000 in
theorem ggX2_offer_X2_makeRequest : GoodIn wsX2_offer wsX2_makeRequest := goodIn_r _ [22, 1, 23, 3, 4, 5, 9, 10, 11, 12, 13, 14, 15, 16, 17, 24, 25, 26, 27, 28, 29, 30, 31, 32, 33, 34, 35, 36, 37, 38, 39, 40, 41, 42, 43, 44, 45, 46, 47, 48, 49] (by decide +kernel) (by decide +kernel)
set_option maxRecDepth 20000 in
theorem gX2_offer_X2_makeRequest : GoodIn wsX2_offer (wsV RX2 170 RX2 yX2_makeRequest wsX2_makeRequest) := goodIn_app (goodIn_of _ (by decide +kernel)) ggX2_offer_X2_makeRequest
theorem dX2_offer_0 : decode cX2_offer 0 = .ok (.aload_n 0, 1) := by decide +kernel
theorem dX2_offer_1 : decode cX2_offer 1 = .ok (.getfield 17, 3) := by decide +kernel
theorem dX2_offer_4 : decode cX2_offer 4 = .ok (.iload_n 1, 1) := by decide +kernel
theorem dX2_offer_5 : decode cX2_offer 5 = .ok (.aaload, 1) := by decide +kernel
theorem dX2_offer_6 : decode cX2_offer 6 = .ok (.astore_n 3, 1) := by decide +kernel
theorem dX2_offer_7 : decode cX2_offer 7 = .ok (.aload_n 3, 1) := by decide +kernel
theorem dX2_offer_8 : decode cX2_offer 8 = .ok (.iload_n 2, 1) := by decide +kernel
theorem dX2_offer_9 : decode cX2_offer 9 = .ok (.putfield 180, 3) := by decide +kernel
theorem dX2_offer_12 : decode cX2_offer 12 = .ok (.aload_n 0, 1) := by decide +kernel
theorem dX2_offer_13 : decode cX2_offer 13 = .ok (.getfield 33, 3) := by decide +kernel
theorem dX2_offer_16 : decode cX2_offer 16 = .ok (.aload_n 0, 1) := by decide +kernel
theorem dX2_offer_17 : decode cX2_offer 17 = .ok (.getfield 57, 3) := by decide +kernel
theorem dX2_offer_20 : decode cX2_offer 20 = .ok (.aload_n 3, 1) := by decide +kernel
theorem dX2_offer_21 : decode cX2_offer 21 = .ok (.getfield 115, 3) := by decide +kernel
theorem dX2_offer_24 : decode cX2_offer 24 = .ok (.iconst 2, 1) := by decide +kernel
theorem dX2_offer_25 : decode cX2_offer 25 = .ok (.iaload, 1) := by decide +kernel
theorem dX2_offer_26 : decode cX2_offer 26 = .ok (.iadd, 1) := by decide +kernel
theorem dX2_offer_27 : decode cX2_offer 27 = .ok (.iload_n 1, 1) := by decide +kernel
theorem dX2_offer_28 : decode cX2_offer 28 = .ok (.iconst 2, 1) := by decide +kernel
theorem dX2_offer_29 : decode cX2_offer 29 = .ok (.iload_n 2, 1) := by decide +kernel
theorem dX2_offer_30 : decode cX2_offer 30 = .ok (.invokevirtual 183, 3) := by decide +kernel
theorem dX2_offer_33 : decode cX2_offer 33 = .ok (.aload_n 0, 1) := by decide +kernel
theorem dX2_offer_34 : decode cX2_offer 34 = .ok (.iload_n 1, 1) := by decide +kernel
theorem dX2_offer_35 : decode cX2_offer 35 = .ok (.iconst 1, 1) := by decide +kernel
theorem dX2_offer_36 : decode cX2_offer 36 = .ok (.aload_n 0, 1) := by decide +kernel
theorem dX2_offer_37 : decode cX2_offer 37 = .ok (.getfield 9, 3) := by decide +kernel
theorem dX2_offer_40 : decode cX2_offer 40 = .ok (.iconst 0, 1) := by decide +kernel
theorem dX2_offer_41 : decode cX2_offer 41 = .ok (.iaload, 1) := by decide +kernel
theorem dX2_offer_42 : decode cX2_offer 42 = .ok (.invokevirtual 170, 3) := by decide +kernel
theorem dX2_offer_45 : decode cX2_offer 45 = .ok (.aload_n 3, 1) := by decide +kernel
theorem dX2_offer_46 : decode cX2_offer 46 = .ok (.iconst 0, 1) := by decide +kernel
theorem dX2_offer_47 : decode cX2_offer 47 = .ok (.putfield 99, 3) := by decide +kernel
theorem dX2_offer_50 : decode cX2_offer 50 = .ok (.aload_n 3, 1) := by decide +kernel
theorem dX2_offer_51 : decode cX2_offer 51 = .ok (.dup, 1) := by decide +kernel
theorem dX2_offer_52 : decode cX2_offer 52 = .ok (.getfield 187, 3) := by decide +kernel
theorem dX2_offer_55 : decode cX2_offer 55 = .ok (.iconst 1, 1) := by decide +kernel
theorem dX2_offer_56 : decode cX2_offer 56 = .ok (.iadd, 1) := by decide +kernel
theorem dX2_offer_57 : decode cX2_offer 57 = .ok (.putfield 187, 3) := by decide +kernel
theorem dX2_offer_60 : decode cX2_offer 60 = .ok (.return_, 1) := by decide +kernel
set_option maxRecDepth 20000 in
theorem ggX2_makeRequest_X0_insert : GoodIn wsX2_makeRequest wsX0_insert := goodIn_r _ [10, 11, 12, 13, 14, 37, 38, 39, 40] (by decide +kernel) (by decide +kernel)
set_option maxRecDepth 20000 in
theorem gX2_makeRequest_X0_insert : GoodIn wsX2_makeRequest (wsV RX2 183 RX0 yX0_insert wsX0_insert) := goodIn_app (goodIn_of _ (by decide +kernel)) ggX2_makeRequest_X0_insert
theorem dX2_makeRequest_0 : decode cX2_makeRequest 0 = .ok (.aload_n 0, 1) := by decide +kernel
theorem dX2_makeRequest_1 : decode cX2_makeRequest 1 = .ok (.getfield 17, 3) := by decide +kernel
theorem dX2_makeRequest_4 : decode cX2_makeRequest 4 = .ok (.iload_n 1, 1) := by decide +kernel
theorem dX2_makeRequest_5 : decode cX2_makeRequest 5 = .ok (.aaload, 1) := by decide +kernel
theorem dX2_makeRequest_6 : decode cX2_makeRequest 6 = .ok (.iload_n 2, 1) := by decide +kernel
theorem dX2_makeRequest_7 : decode cX2_makeRequest 7 = .ok (.putfield 188, 3) := by decide +kernel
theorem dX2_makeRequest_10 : decode cX2_makeRequest 10 = .ok (.aload_n 0, 1) := by decide +kernel
theorem dX2_makeRequest_11 : decode cX2_makeRequest 11 = .ok (.getfield 33, 3) := by decide +kernel
theorem dX2_makeRequest_14 : decode cX2_makeRequest 14 = .ok (.aload_n 0, 1) := by decide +kernel
theorem dX2_makeRequest_15 : decode cX2_makeRequest 15 = .ok (.getfield 57, 3) := by decide +kernel
theorem dX2_makeRequest_18 : decode cX2_makeRequest 18 = .ok (.aload_n 0, 1) := by decide +kernel
theorem dX2_makeRequest_19 : decode cX2_makeRequest 19 = .ok (.getfield 17, 3) := by decide +kernel
theorem dX2_makeRequest_22 : decode cX2_makeRequest 22 = .ok (.iload_n 1, 1) := by decide +kernel
theorem dX2_makeRequest_23 : decode cX2_makeRequest 23 = .ok (.aaload, 1) := by decide +kernel
theorem dX2_makeRequest_24 : decode cX2_makeRequest 24 = .ok (.getfield 115, 3) := by decide +kernel
theorem dX2_makeRequest_27 : decode cX2_makeRequest 27 = .ok (.iconst 0, 1) := by decide +kernel
theorem dX2_makeRequest_28 : decode cX2_makeRequest 28 = .ok (.iaload, 1) := by decide +kernel
theorem dX2_makeRequest_29 : decode cX2_makeRequest 29 = .ok (.iadd, 1) := by decide +kernel
theorem dX2_makeRequest_30 : decode cX2_makeRequest 30 = .ok (.iload_n 3, 1) := by decide +kernel
theorem dX2_makeRequest_31 : decode cX2_makeRequest 31 = .ok (.iadd, 1) := by decide +kernel
theorem dX2_makeRequest_32 : decode cX2_makeRequest 32 = .ok (.iload_n 1, 1) := by decide +kernel
theorem dX2_makeRequest_33 : decode cX2_makeRequest 33 = .ok (.iconst 0, 1) := by decide +kernel
theorem dX2_makeRequest_34 : decode cX2_makeRequest 34 = .ok (.iload_n 2, 1) := by decide +kernel
theorem dX2_makeRequest_35 : decode cX2_makeRequest 35 = .ok (.invokevirtual 183, 3) := by decide +kernel
theorem dX2_makeRequest_38 : decode cX2_makeRequest 38 = .ok (.return_, 1) := by decide +kernel
set_option maxRecDepth 20000 in
theorem ggX2_makeAnswer_X0_insert : GoodIn wsX2_makeAnswer wsX0_insert := goodIn_r _ [10, 11, 12, 13, 14, 37, 38, 39, 40] (by decide +kernel) (by decide +kernel)
set_option maxRecDepth 20000 in
theorem gX2_makeAnswer_X0_insert : GoodIn wsX2_makeAnswer (wsV RX2 183 RX0 yX0_insert wsX0_insert) := goodIn_app (goodIn_of _ (by decide +kernel)) ggX2_makeAnswer_X0_insert
theorem dX2_makeAnswer_0 : decode cX2_makeAnswer 0 = .ok (.aload_n 0, 1) := by decide +kernel
theorem dX2_makeAnswer_1 : decode cX2_makeAnswer 1 = .ok (.getfield 17, 3) := by decide +kernel
theorem dX2_makeAnswer_4 : decode cX2_makeAnswer 4 = .ok (.iload_n 1, 1) := by decide +kernel
theorem dX2_makeAnswer_5 : decode cX2_makeAnswer 5 = .ok (.aaload, 1) := by decide +kernel
theorem dX2_makeAnswer_6 : decode cX2_makeAnswer 6 = .ok (.iload_n 2, 1) := by decide +kernel
theorem dX2_makeAnswer_7 : decode cX2_makeAnswer 7 = .ok (.putfield 191, 3) := by decide +kernel
theorem dX2_makeAnswer_10 : decode cX2_makeAnswer 10 = .ok (.aload_n 0, 1) := by decide +kernel
theorem dX2_makeAnswer_11 : decode cX2_makeAnswer 11 = .ok (.getfield 33, 3) := by decide +kernel
theorem dX2_makeAnswer_14 : decode cX2_makeAnswer 14 = .ok (.aload_n 0, 1) := by decide +kernel
theorem dX2_makeAnswer_15 : decode cX2_makeAnswer 15 = .ok (.getfield 57, 3) := by decide +kernel
theorem dX2_makeAnswer_18 : decode cX2_makeAnswer 18 = .ok (.aload_n 0, 1) := by decide +kernel
theorem dX2_makeAnswer_19 : decode cX2_makeAnswer 19 = .ok (.getfield 17, 3) := by decide +kernel
theorem dX2_makeAnswer_22 : decode cX2_makeAnswer 22 = .ok (.iload_n 1, 1) := by decide +kernel
theorem dX2_makeAnswer_23 : decode cX2_makeAnswer 23 = .ok (.aaload, 1) := by decide +kernel
theorem dX2_makeAnswer_24 : decode cX2_makeAnswer 24 = .ok (.getfield 115, 3) := by decide +kernel
theorem dX2_makeAnswer_27 : decode cX2_makeAnswer 27 = .ok (.iconst 1, 1) := by decide +kernel
theorem dX2_makeAnswer_28 : decode cX2_makeAnswer 28 = .ok (.iaload, 1) := by decide +kernel
theorem dX2_makeAnswer_29 : decode cX2_makeAnswer 29 = .ok (.iadd, 1) := by decide +kernel
theorem dX2_makeAnswer_30 : decode cX2_makeAnswer 30 = .ok (.iload_n 3, 1) := by decide +kernel
theorem dX2_makeAnswer_31 : decode cX2_makeAnswer 31 = .ok (.iadd, 1) := by decide +kernel
theorem dX2_makeAnswer_32 : decode cX2_makeAnswer 32 = .ok (.iload_n 1, 1) := by decide +kernel
theorem dX2_makeAnswer_33 : decode cX2_makeAnswer 33 = .ok (.iconst 1, 1) := by decide +kernel
theorem dX2_makeAnswer_34 : decode cX2_makeAnswer 34 = .ok (.iload_n 2, 1) := by decide +kernel
theorem dX2_makeAnswer_35 : decode cX2_makeAnswer 35 = .ok (.invokevirtual 183, 3) := by decide +kernel
theorem dX2_makeAnswer_38 : decode cX2_makeAnswer 38 = .ok (.return_, 1) := by decide +kernel
theorem dX3_init_0 : decode cX3_init 0 = .ok (.aload_n 0, 1) := by decide +kernel
theorem dX3_init_1 : decode cX3_init 1 = .ok (.invokespecial 3, 3) := by decide +kernel
theorem dX3_init_4 : decode cX3_init 4 = .ok (.aload_n 0, 1) := by decide +kernel
theorem dX3_init_5 : decode cX3_init 5 = .ok (.iconst 3, 1) := by decide +kernel
theorem dX3_init_6 : decode cX3_init 6 = .ok (.newarray .int, 2) := by decide +kernel
theorem dX3_init_8 : decode cX3_init 8 = .ok (.putfield 9, 3) := by decide +kernel
theorem dX3_init_11 : decode cX3_init 11 = .ok (.return_, 1) := by decide +kernel
theorem dX3_clear_0 : decode cX3_clear 0 = .ok (.iconst 0, 1) := by decide +kernel
theorem dX3_clear_1 : decode cX3_clear 1 = .ok (.istore_n 1, 1) := by decide +kernel
theorem dX3_clear_2 : decode cX3_clear 2 = .ok (.iload_n 1, 1) := by decide +kernel
theorem dX3_clear_3 : decode cX3_clear 3 = .ok (.iconst 3, 1) := by decide +kernel
theorem dX3_clear_4 : decode cX3_clear 4 = .ok (.if_icmp .ge 16, 3) := by decide +kernel
theorem dX3_clear_7 : decode cX3_clear 7 = .ok (.aload_n 0, 1) := by decide +kernel
theorem dX3_clear_8 : decode cX3_clear 8 = .ok (.getfield 9, 3) := by decide +kernel
theorem dX3_clear_11 : decode cX3_clear 11 = .ok (.iload_n 1, 1) := by decide +kernel
theorem dX3_clear_12 : decode cX3_clear 12 = .ok (.iconst 2, 1) := by decide +kernel
theorem dX3_clear_13 : decode cX3_clear 13 = .ok (.iastore, 1) := by decide +kernel
theorem dX3_clear_14 : decode cX3_clear 14 = .ok (.iinc 1 1, 3) := by decide +kernel
theorem dX3_clear_17 : decode cX3_clear 17 = .ok (.goto (-15), 3) := by decide +kernel
theorem dX3_clear_20 : decode cX3_clear 20 = .ok (.aload_n 0, 1) := by decide +kernel
theorem dX3_clear_21 : decode cX3_clear 21 = .ok (.iconst 0, 1) := by decide +kernel
theorem dX3_clear_22 : decode cX3_clear 22 = .ok (.putfield 15, 3) := by decide +kernel
theorem dX3_clear_25 : decode cX3_clear 25 = .ok (.aload_n 0, 1) := by decide +kernel
theorem dX3_clear_26 : decode cX3_clear 26 = .ok (.iconst 0, 1) := by decide +kernel
theorem dX3_clear_27 : decode cX3_clear 27 = .ok (.putfield 19, 3) := by decide +kernel
theorem dX3_clear_30 : decode cX3_clear 30 = .ok (.aload_n 0, 1) := by decide +kernel
theorem dX3_clear_31 : decode cX3_clear 31 = .ok (.iconst 0, 1) := by decide +kernel
theorem dX3_clear_32 : decode cX3_clear 32 = .ok (.putfield 22, 3) := by decide +kernel
theorem dX3_clear_35 : decode cX3_clear 35 = .ok (.aload_n 0, 1) := by decide +kernel
theorem dX3_clear_36 : decode cX3_clear 36 = .ok (.iconst 0, 1) := by decide +kernel
theorem dX3_clear_37 : decode cX3_clear 37 = .ok (.putfield 25, 3) := by decide +kernel
theorem dX3_clear_40 : decode cX3_clear 40 = .ok (.aload_n 0, 1) := by decide +kernel
theorem dX3_clear_41 : decode cX3_clear 41 = .ok (.iconst 0, 1) := by decide +kernel
theorem dX3_clear_42 : decode cX3_clear 42 = .ok (.putfield 28, 3) := by decide +kernel
theorem dX3_clear_45 : decode cX3_clear 45 = .ok (.aload_n 0, 1) := by decide +kernel
theorem dX3_clear_46 : decode cX3_clear 46 = .ok (.iconst 0, 1) := by decide +kernel
theorem dX3_clear_47 : decode cX3_clear 47 = .ok (.putfield 31, 3) := by decide +kernel
theorem dX3_clear_50 : decode cX3_clear 50 = .ok (.aload_n 0, 1) := by decide +kernel
theorem dX3_clear_51 : decode cX3_clear 51 = .ok (.iconst 1, 1) := by decide +kernel
theorem dX3_clear_52 : decode cX3_clear 52 = .ok (.putfield 34, 3) := by decide +kernel
theorem dX3_clear_55 : decode cX3_clear 55 = .ok (.aload_n 0, 1) := by decide +kernel
theorem dX3_clear_56 : decode cX3_clear 56 = .ok (.iconst 0, 1) := by decide +kernel
theorem dX3_clear_57 : decode cX3_clear 57 = .ok (.putfield 38, 3) := by decide +kernel
theorem dX3_clear_60 : decode cX3_clear 60 = .ok (.aload_n 0, 1) := by decide +kernel
theorem dX3_clear_61 : decode cX3_clear 61 = .ok (.iconst 0, 1) := by decide +kernel
theorem dX3_clear_62 : decode cX3_clear 62 = .ok (.putfield 41, 3) := by decide +kernel
theorem dX3_clear_65 : decode cX3_clear 65 = .ok (.return_, 1) := by decide +kernel
theorem dX3_copyFrom_0 : decode cX3_copyFrom 0 = .ok (.aload_n 1, 1) := by decide +kernel
theorem dX3_copyFrom_1 : decode cX3_copyFrom 1 = .ok (.getfield 9, 3) := by decide +kernel
theorem dX3_copyFrom_4 : decode cX3_copyFrom 4 = .ok (.iconst 0, 1) := by decide +kernel
theorem dX3_copyFrom_5 : decode cX3_copyFrom 5 = .ok (.aload_n 0, 1) := by decide +kernel
theorem dX3_copyFrom_6 : decode cX3_copyFrom 6 = .ok (.getfield 9, 3) := by decide +kernel
theorem dX3_copyFrom_9 : decode cX3_copyFrom 9 = .ok (.iconst 0, 1) := by decide +kernel
theorem dX3_copyFrom_10 : decode cX3_copyFrom 10 = .ok (.iconst 3, 1) := by decide +kernel
theorem dX3_copyFrom_11 : decode cX3_copyFrom 11 = .ok (.invokestatic 44, 3) := by decide +kernel
theorem dX3_copyFrom_14 : decode cX3_copyFrom 14 = .ok (.aload_n 0, 1) := by decide +kernel
theorem dX3_copyFrom_15 : decode cX3_copyFrom 15 = .ok (.aload_n 1, 1) := by decide +kernel
theorem dX3_copyFrom_16 : decode cX3_copyFrom 16 = .ok (.getfield 15, 3) := by decide +kernel
theorem dX3_copyFrom_19 : decode cX3_copyFrom 19 = .ok (.putfield 15, 3) := by decide +kernel
theorem dX3_copyFrom_22 : decode cX3_copyFrom 22 = .ok (.aload_n 0, 1) := by decide +kernel
theorem dX3_copyFrom_23 : decode cX3_copyFrom 23 = .ok (.aload_n 1, 1) := by decide +kernel
theorem dX3_copyFrom_24 : decode cX3_copyFrom 24 = .ok (.getfield 19, 3) := by decide +kernel
theorem dX3_copyFrom_27 : decode cX3_copyFrom 27 = .ok (.putfield 19, 3) := by decide +kernel
theorem dX3_copyFrom_30 : decode cX3_copyFrom 30 = .ok (.aload_n 0, 1) := by decide +kernel
theorem dX3_copyFrom_31 : decode cX3_copyFrom 31 = .ok (.aload_n 1, 1) := by decide +kernel
theorem dX3_copyFrom_32 : decode cX3_copyFrom 32 = .ok (.getfield 22, 3) := by decide +kernel
theorem dX3_copyFrom_35 : decode cX3_copyFrom 35 = .ok (.putfield 22, 3) := by decide +kernel
theorem dX3_copyFrom_38 : decode cX3_copyFrom 38 = .ok (.aload_n 0, 1) := by decide +kernel
theorem dX3_copyFrom_39 : decode cX3_copyFrom 39 = .ok (.aload_n 1, 1) := by decide +kernel
theorem dX3_copyFrom_40 : decode cX3_copyFrom 40 = .ok (.getfield 25, 3) := by decide +kernel
theorem dX3_copyFrom_43 : decode cX3_copyFrom 43 = .ok (.putfield 25, 3) := by decide +kernel
theorem dX3_copyFrom_46 : decode cX3_copyFrom 46 = .ok (.aload_n 0, 1) := by decide +kernel
theorem dX3_copyFrom_47 : decode cX3_copyFrom 47 = .ok (.aload_n 1, 1) := by decide +kernel
theorem dX3_copyFrom_48 : decode cX3_copyFrom 48 = .ok (.getfield 28, 3) := by decide +kernel
theorem dX3_copyFrom_51 : decode cX3_copyFrom 51 = .ok (.putfield 28, 3) := by decide +kernel
theorem dX3_copyFrom_54 : decode cX3_copyFrom 54 = .ok (.aload_n 0, 1) := by decide +kernel
theorem dX3_copyFrom_55 : decode cX3_copyFrom 55 = .ok (.aload_n 1, 1) := by decide +kernel
theorem dX3_copyFrom_56 : decode cX3_copyFrom 56 = .ok (.getfield 31, 3) := by decide +kernel
theorem dX3_copyFrom_59 : decode cX3_copyFrom 59 = .ok (.putfield 31, 3) := by decide +kernel
theorem dX3_copyFrom_62 : decode cX3_copyFrom 62 = .ok (.aload_n 0, 1) := by decide +kernel
theorem dX3_copyFrom_63 : decode cX3_copyFrom 63 = .ok (.aload_n 1, 1) := by decide +kernel
theorem dX3_copyFrom_64 : decode cX3_copyFrom 64 = .ok (.getfield 34, 3) := by decide +kernel
theorem dX3_copyFrom_67 : decode cX3_copyFrom 67 = .ok (.putfield 34, 3) := by decide +kernel
theorem dX3_copyFrom_70 : decode cX3_copyFrom 70 = .ok (.aload_n 0, 1) := by decide +kernel
theorem dX3_copyFrom_71 : decode cX3_copyFrom 71 = .ok (.aload_n 1, 1) := by decide +kernel
theorem dX3_copyFrom_72 : decode cX3_copyFrom 72 = .ok (.getfield 38, 3) := by decide +kernel
theorem dX3_copyFrom_75 : decode cX3_copyFrom 75 = .ok (.putfield 38, 3) := by decide +kernel
theorem dX3_copyFrom_78 : decode cX3_copyFrom 78 = .ok (.aload_n 0, 1) := by decide +kernel
theorem dX3_copyFrom_79 : decode cX3_copyFrom 79 = .ok (.aload_n 1, 1) := by decide +kernel
theorem dX3_copyFrom_80 : decode cX3_copyFrom 80 = .ok (.getfield 41, 3) := by decide +kernel
theorem dX3_copyFrom_83 : decode cX3_copyFrom 83 = .ok (.putfield 41, 3) := by decide +kernel
theorem dX3_copyFrom_86 : decode cX3_copyFrom 86 = .ok (.return_, 1) := by decide +kernel
theorem dX3_tell_0 : decode cX3_tell 0 = .ok (.iload_n 1, 1) := by decide +kernel
theorem dX3_tell_1 : decode cX3_tell 1 = .ok (.tableswitch 172 0 12 #[67, 74, 81, 88, 93, 98, 103, 108, 113, 118, 131, 144, 149], 67) := by decide +kernel
theorem dX3_tell_68 : decode cX3_tell 68 = .ok (.aload_n 0, 1) := by decide +kernel
theorem dX3_tell_69 : decode cX3_tell 69 = .ok (.getfield 9, 3) := by decide +kernel
theorem dX3_tell_72 : decode cX3_tell 72 = .ok (.iconst 0, 1) := by decide +kernel
theorem dX3_tell_73 : decode cX3_tell 73 = .ok (.iaload, 1) := by decide +kernel
theorem dX3_tell_74 : decode cX3_tell 74 = .ok (.ireturn, 1) := by decide +kernel
theorem dX3_tell_75 : decode cX3_tell 75 = .ok (.aload_n 0, 1) := by decide +kernel
theorem dX3_tell_76 : decode cX3_tell 76 = .ok (.getfield 9, 3) := by decide +kernel
theorem dX3_tell_79 : decode cX3_tell 79 = .ok (.iconst 1, 1) := by decide +kernel
theorem dX3_tell_80 : decode cX3_tell 80 = .ok (.iaload, 1) := by decide +kernel
theorem dX3_tell_81 : decode cX3_tell 81 = .ok (.ireturn, 1) := by decide +kernel
theorem dX3_tell_82 : decode cX3_tell 82 = .ok (.aload_n 0, 1) := by decide +kernel
theorem dX3_tell_83 : decode cX3_tell 83 = .ok (.getfield 9, 3) := by decide +kernel
theorem dX3_tell_86 : decode cX3_tell 86 = .ok (.iconst 2, 1) := by decide +kernel
theorem dX3_tell_87 : decode cX3_tell 87 = .ok (.iaload, 1) := by decide +kernel
theorem dX3_tell_88 : decode cX3_tell 88 = .ok (.ireturn, 1) := by decide +kernel
theorem dX3_tell_89 : decode cX3_tell 89 = .ok (.aload_n 0, 1) := by decide +kernel
theorem dX3_tell_90 : decode cX3_tell 90 = .ok (.getfield 15, 3) := by decide +kernel
theorem dX3_tell_93 : decode cX3_tell 93 = .ok (.ireturn, 1) := by decide +kernel
theorem dX3_tell_94 : decode cX3_tell 94 = .ok (.aload_n 0, 1) := by decide +kernel
theorem dX3_tell_95 : decode cX3_tell 95 = .ok (.getfield 19, 3) := by decide +kernel
theorem dX3_tell_98 : decode cX3_tell 98 = .ok (.ireturn, 1) := by decide +kernel
theorem dX3_tell_99 : decode cX3_tell 99 = .ok (.aload_n 0, 1) := by decide +kernel
theorem dX3_tell_100 : decode cX3_tell 100 = .ok (.getfield 22, 3) := by decide +kernel
theorem dX3_tell_103 : decode cX3_tell 103 = .ok (.ireturn, 1) := by decide +kernel
theorem dX3_tell_104 : decode cX3_tell 104 = .ok (.aload_n 0, 1) := by decide +kernel
theorem dX3_tell_105 : decode cX3_tell 105 = .ok (.getfield 25, 3) := by decide +kernel
theorem dX3_tell_108 : decode cX3_tell 108 = .ok (.ireturn, 1) := by decide +kernel
theorem dX3_tell_109 : decode cX3_tell 109 = .ok (.aload_n 0, 1) := by decide +kernel
theorem dX3_tell_110 : decode cX3_tell 110 = .ok (.getfield 28, 3) := by decide +kernel
theorem dX3_tell_113 : decode cX3_tell 113 = .ok (.ireturn, 1) := by decide +kernel
theorem dX3_tell_114 : decode cX3_tell 114 = .ok (.aload_n 0, 1) := by decide +kernel
theorem dX3_tell_115 : decode cX3_tell 115 = .ok (.getfield 31, 3) := by decide +kernel
theorem dX3_tell_118 : decode cX3_tell 118 = .ok (.ireturn, 1) := by decide +kernel
theorem dX3_tell_119 : decode cX3_tell 119 = .ok (.aload_n 0, 1) := by decide +kernel
theorem dX3_tell_120 : decode cX3_tell 120 = .ok (.getfield 34, 3) := by decide +kernel
theorem dX3_tell_123 : decode cX3_tell 123 = .ok (.ifCond .eq 7, 3) := by decide +kernel
theorem dX3_tell_126 : decode cX3_tell 126 = .ok (.iconst 1, 1) := by decide +kernel
theorem dX3_tell_127 : decode cX3_tell 127 = .ok (.goto 4, 3) := by decide +kernel
theorem dX3_tell_130 : decode cX3_tell 130 = .ok (.iconst 0, 1) := by decide +kernel
theorem dX3_tell_131 : decode cX3_tell 131 = .ok (.ireturn, 1) := by decide +kernel
theorem dX3_tell_132 : decode cX3_tell 132 = .ok (.aload_n 0, 1) := by decide +kernel
theorem dX3_tell_133 : decode cX3_tell 133 = .ok (.getfield 38, 3) := by decide +kernel
theorem dX3_tell_136 : decode cX3_tell 136 = .ok (.ifCond .eq 7, 3) := by decide +kernel
theorem dX3_tell_139 : decode cX3_tell 139 = .ok (.iconst 1, 1) := by decide +kernel
theorem dX3_tell_140 : decode cX3_tell 140 = .ok (.goto 4, 3) := by decide +kernel
theorem dX3_tell_143 : decode cX3_tell 143 = .ok (.iconst 0, 1) := by decide +kernel
theorem dX3_tell_144 : decode cX3_tell 144 = .ok (.ireturn, 1) := by decide +kernel
theorem dX3_tell_145 : decode cX3_tell 145 = .ok (.aload_n 0, 1) := by decide +kernel
theorem dX3_tell_146 : decode cX3_tell 146 = .ok (.getfield 41, 3) := by decide +kernel
theorem dX3_tell_149 : decode cX3_tell 149 = .ok (.ireturn, 1) := by decide +kernel
theorem dX3_tell_150 : decode cX3_tell 150 = .ok (.aload_n 0, 1) := by decide +kernel
theorem dX3_tell_151 : decode cX3_tell 151 = .ok (.getfield 9, 3) := by decide +kernel
theorem dX3_tell_154 : decode cX3_tell 154 = .ok (.iconst 2, 1) := by decide +kernel
theorem dX3_tell_155 : decode cX3_tell 155 = .ok (.iaload, 1) := by decide +kernel
theorem dX3_tell_156 : decode cX3_tell 156 = .ok (.aload_n 0, 1) := by decide +kernel
theorem dX3_tell_157 : decode cX3_tell 157 = .ok (.getfield 9, 3) := by decide +kernel
theorem dX3_tell_160 : decode cX3_tell 160 = .ok (.iconst 0, 1) := by decide +kernel
theorem dX3_tell_161 : decode cX3_tell 161 = .ok (.iaload, 1) := by decide +kernel
theorem dX3_tell_162 : decode cX3_tell 162 = .ok (.iload_n 2, 1) := by decide +kernel
theorem dX3_tell_163 : decode cX3_tell 163 = .ok (.iadd, 1) := by decide +kernel
theorem dX3_tell_164 : decode cX3_tell 164 = .ok (.if_icmp .gt 7, 3) := by decide +kernel
theorem dX3_tell_167 : decode cX3_tell 167 = .ok (.iconst 1, 1) := by decide +kernel
theorem dX3_tell_168 : decode cX3_tell 168 = .ok (.goto 4, 3) := by decide +kernel
theorem dX3_tell_171 : decode cX3_tell 171 = .ok (.iconst 0, 1) := by decide +kernel
theorem dX3_tell_172 : decode cX3_tell 172 = .ok (.ireturn, 1) := by decide +kernel
theorem dX3_tell_173 : decode cX3_tell 173 = .ok (.bipush (-2), 2) := by decide +kernel
theorem dX3_tell_175 : decode cX3_tell 175 = .ok (.ireturn, 1) := by decide +kernel
theorem dX4_init_0 : decode cX4_init 0 = .ok (.aload_n 0, 1) := by decide +kernel
theorem dX4_init_1 : decode cX4_init 1 = .ok (.invokespecial 3, 3) := by decide +kernel
theorem dX4_init_4 : decode cX4_init 4 = .ok (.aload_n 0, 1) := by decide +kernel
theorem dX4_init_5 : decode cX4_init 5 = .ok (.bipush 50, 2) := by decide +kernel
theorem dX4_init_7 : decode cX4_init 7 = .ok (.newarray .int, 2) := by decide +kernel
theorem dX4_init_9 : decode cX4_init 9 = .ok (.putfield 9, 3) := by decide +kernel
theorem dX4_init_12 : decode cX4_init 12 = .ok (.aload_n 0, 1) := by decide +kernel
theorem dX4_init_13 : decode cX4_init 13 = .ok (.bipush 50, 2) := by decide +kernel
theorem dX4_init_15 : decode cX4_init 15 = .ok (.newarray .int, 2) := by decide +kernel
theorem dX4_init_17 : decode cX4_init 17 = .ok (.putfield 15, 3) := by decide +kernel
theorem dX4_init_20 : decode cX4_init 20 = .ok (.aload_n 0, 1) := by decide +kernel
theorem dX4_init_21 : decode cX4_init 21 = .ok (.bipush 50, 2) := by decide +kernel
theorem dX4_init_23 : decode cX4_init 23 = .ok (.newarray .int, 2) := by decide +kernel
theorem dX4_init_25 : decode cX4_init 25 = .ok (.putfield 18, 3) := by decide +kernel
theorem dX4_init_28 : decode cX4_init 28 = .ok (.return_, 1) := by decide +kernel
theorem dX4_clear_0 : decode cX4_clear 0 = .ok (.aload_n 0, 1) := by decide +kernel
theorem dX4_clear_1 : decode cX4_clear 1 = .ok (.iconst 0, 1) := by decide +kernel
theorem dX4_clear_2 : decode cX4_clear 2 = .ok (.putfield 21, 3) := by decide +kernel
theorem dX4_clear_5 : decode cX4_clear 5 = .ok (.aload_n 0, 1) := by decide +kernel
theorem dX4_clear_6 : decode cX4_clear 6 = .ok (.iconst 0, 1) := by decide +kernel
theorem dX4_clear_7 : decode cX4_clear 7 = .ok (.putfield 25, 3) := by decide +kernel
theorem dX4_clear_10 : decode cX4_clear 10 = .ok (.return_, 1) := by decide +kernel
theorem dX4_copyFrom_0 : decode cX4_copyFrom 0 = .ok (.aload_n 1, 1) := by decide +kernel
theorem dX4_copyFrom_1 : decode cX4_copyFrom 1 = .ok (.getfield 9, 3) := by decide +kernel
theorem dX4_copyFrom_4 : decode cX4_copyFrom 4 = .ok (.iconst 0, 1) := by decide +kernel
theorem dX4_copyFrom_5 : decode cX4_copyFrom 5 = .ok (.aload_n 0, 1) := by decide +kernel
theorem dX4_copyFrom_6 : decode cX4_copyFrom 6 = .ok (.getfield 9, 3) := by decide +kernel
theorem dX4_copyFrom_9 : decode cX4_copyFrom 9 = .ok (.iconst 0, 1) := by decide +kernel
theorem dX4_copyFrom_10 : decode cX4_copyFrom 10 = .ok (.bipush 50, 2) := by decide +kernel
theorem dX4_copyFrom_12 : decode cX4_copyFrom 12 = .ok (.invokestatic 28, 3) := by decide +kernel
theorem dX4_copyFrom_15 : decode cX4_copyFrom 15 = .ok (.aload_n 1, 1) := by decide +kernel
theorem dX4_copyFrom_16 : decode cX4_copyFrom 16 = .ok (.getfield 15, 3) := by decide +kernel
theorem dX4_copyFrom_19 : decode cX4_copyFrom 19 = .ok (.iconst 0, 1) := by decide +kernel
theorem dX4_copyFrom_20 : decode cX4_copyFrom 20 = .ok (.aload_n 0, 1) := by decide +kernel
theorem dX4_copyFrom_21 : decode cX4_copyFrom 21 = .ok (.getfield 15, 3) := by decide +kernel
theorem dX4_copyFrom_24 : decode cX4_copyFrom 24 = .ok (.iconst 0, 1) := by decide +kernel
theorem dX4_copyFrom_25 : decode cX4_copyFrom 25 = .ok (.bipush 50, 2) := by decide +kernel
theorem dX4_copyFrom_27 : decode cX4_copyFrom 27 = .ok (.invokestatic 28, 3) := by decide +kernel
theorem dX4_copyFrom_30 : decode cX4_copyFrom 30 = .ok (.aload_n 1, 1) := by decide +kernel
theorem dX4_copyFrom_31 : decode cX4_copyFrom 31 = .ok (.getfield 18, 3) := by decide +kernel
theorem dX4_copyFrom_34 : decode cX4_copyFrom 34 = .ok (.iconst 0, 1) := by decide +kernel
theorem dX4_copyFrom_35 : decode cX4_copyFrom 35 = .ok (.aload_n 0, 1) := by decide +kernel
theorem dX4_copyFrom_36 : decode cX4_copyFrom 36 = .ok (.getfield 18, 3) := by decide +kernel
theorem dX4_copyFrom_39 : decode cX4_copyFrom 39 = .ok (.iconst 0, 1) := by decide +kernel
theorem dX4_copyFrom_40 : decode cX4_copyFrom 40 = .ok (.bipush 50, 2) := by decide +kernel
theorem dX4_copyFrom_42 : decode cX4_copyFrom 42 = .ok (.invokestatic 28, 3) := by decide +kernel
theorem dX4_copyFrom_45 : decode cX4_copyFrom 45 = .ok (.aload_n 0, 1) := by decide +kernel
theorem dX4_copyFrom_46 : decode cX4_copyFrom 46 = .ok (.aload_n 1, 1) := by decide +kernel
theorem dX4_copyFrom_47 : decode cX4_copyFrom 47 = .ok (.getfield 21, 3) := by decide +kernel
theorem dX4_copyFrom_50 : decode cX4_copyFrom 50 = .ok (.putfield 21, 3) := by decide +kernel
theorem dX4_copyFrom_53 : decode cX4_copyFrom 53 = .ok (.aload_n 0, 1) := by decide +kernel
theorem dX4_copyFrom_54 : decode cX4_copyFrom 54 = .ok (.aload_n 1, 1) := by decide +kernel
theorem dX4_copyFrom_55 : decode cX4_copyFrom 55 = .ok (.getfield 25, 3) := by decide +kernel
theorem dX4_copyFrom_58 : decode cX4_copyFrom 58 = .ok (.putfield 25, 3) := by decide +kernel
theorem dX4_copyFrom_61 : decode cX4_copyFrom 61 = .ok (.return_, 1) := by decide +kernel
theorem dX4_append_0 : decode cX4_append 0 = .ok (.aload_n 0, 1) := by decide +kernel
theorem dX4_append_1 : decode cX4_append 1 = .ok (.getfield 21, 3) := by decide +kernel
theorem dX4_append_4 : decode cX4_append 4 = .ok (.bipush 50, 2) := by decide +kernel
theorem dX4_append_6 : decode cX4_append 6 = .ok (.irem, 1) := by decide +kernel
theorem dX4_append_7 : decode cX4_append 7 = .ok (.istore 4, 2) := by decide +kernel
theorem dX4_append_9 : decode cX4_append 9 = .ok (.aload_n 0, 1) := by decide +kernel
theorem dX4_append_10 : decode cX4_append 10 = .ok (.getfield 9, 3) := by decide +kernel
theorem dX4_append_13 : decode cX4_append 13 = .ok (.iload 4, 2) := by decide +kernel
theorem dX4_append_15 : decode cX4_append 15 = .ok (.iload_n 1, 1) := by decide +kernel
theorem dX4_append_16 : decode cX4_append 16 = .ok (.iastore, 1) := by decide +kernel
theorem dX4_append_17 : decode cX4_append 17 = .ok (.aload_n 0, 1) := by decide +kernel
theorem dX4_append_18 : decode cX4_append 18 = .ok (.getfield 15, 3) := by decide +kernel
theorem dX4_append_21 : decode cX4_append 21 = .ok (.iload 4, 2) := by decide +kernel
theorem dX4_append_23 : decode cX4_append 23 = .ok (.iload_n 2, 1) := by decide +kernel
theorem dX4_append_24 : decode cX4_append 24 = .ok (.iastore, 1) := by decide +kernel
theorem dX4_append_25 : decode cX4_append 25 = .ok (.aload_n 0, 1) := by decide +kernel
theorem dX4_append_26 : decode cX4_append 26 = .ok (.getfield 18, 3) := by decide +kernel
theorem dX4_append_29 : decode cX4_append 29 = .ok (.iload 4, 2) := by decide +kernel
theorem dX4_append_31 : decode cX4_append 31 = .ok (.iload_n 3, 1) := by decide +kernel
theorem dX4_append_32 : decode cX4_append 32 = .ok (.iastore, 1) := by decide +kernel
theorem dX4_append_33 : decode cX4_append 33 = .ok (.aload_n 0, 1) := by decide +kernel
theorem dX4_append_34 : decode cX4_append 34 = .ok (.dup, 1) := by decide +kernel
theorem dX4_append_35 : decode cX4_append 35 = .ok (.getfield 21, 3) := by decide +kernel
theorem dX4_append_38 : decode cX4_append 38 = .ok (.iconst 1, 1) := by decide +kernel
theorem dX4_append_39 : decode cX4_append 39 = .ok (.iadd, 1) := by decide +kernel
theorem dX4_append_40 : decode cX4_append 40 = .ok (.putfield 21, 3) := by decide +kernel
theorem dX4_append_43 : decode cX4_append 43 = .ok (.aload_n 0, 1) := by decide +kernel
theorem dX4_append_44 : decode cX4_append 44 = .ok (.dup, 1) := by decide +kernel
theorem dX4_append_45 : decode cX4_append 45 = .ok (.getfield 25, 3) := by decide +kernel
theorem dX4_append_48 : decode cX4_append 48 = .ok (.iload_n 3, 1) := by decide +kernel
theorem dX4_append_49 : decode cX4_append 49 = .ok (.iadd, 1) := by decide +kernel
theorem dX4_append_50 : decode cX4_append 50 = .ok (.putfield 25, 3) := by decide +kernel
theorem dX4_append_53 : decode cX4_append 53 = .ok (.return_, 1) := by decide +kernel
theorem dX4_wrongWords_0 : decode cX4_wrongWords 0 = .ok (.aload_n 0, 1) := by decide +kernel
theorem dX4_wrongWords_1 : decode cX4_wrongWords 1 = .ok (.getfield 21, 3) := by decide +kernel
theorem dX4_wrongWords_4 : decode cX4_wrongWords 4 = .ok (.aload_n 0, 1) := by decide +kernel
theorem dX4_wrongWords_5 : decode cX4_wrongWords 5 = .ok (.getfield 25, 3) := by decide +kernel
theorem dX4_wrongWords_8 : decode cX4_wrongWords 8 = .ok (.isub, 1) := by decide +kernel
theorem dX4_wrongWords_9 : decode cX4_wrongWords 9 = .ok (.ireturn, 1) := by decide +kernel
theorem dX4_tell_0 : decode cX4_tell 0 = .ok (.iload_n 1, 1) := by decide +kernel
theorem dX4_tell_1 : decode cX4_tell 1 = .ok (.ifCond .lt 17, 3) := by decide +kernel
theorem dX4_tell_4 : decode cX4_tell 4 = .ok (.iload_n 1, 1) := by decide +kernel
theorem dX4_tell_5 : decode cX4_tell 5 = .ok (.aload_n 0, 1) := by decide +kernel
theorem dX4_tell_6 : decode cX4_tell 6 = .ok (.getfield 21, 3) := by decide +kernel
theorem dX4_tell_9 : decode cX4_tell 9 = .ok (.if_icmp .ge 9, 3) := by decide +kernel
theorem dX4_tell_12 : decode cX4_tell 12 = .ok (.iload_n 1, 1) := by decide +kernel
theorem dX4_tell_13 : decode cX4_tell 13 = .ok (.bipush 50, 2) := by decide +kernel
theorem dX4_tell_15 : decode cX4_tell 15 = .ok (.if_icmp .lt 6, 3) := by decide +kernel
theorem dX4_tell_18 : decode cX4_tell 18 = .ok (.bipush (-5), 2) := by decide +kernel
theorem dX4_tell_20 : decode cX4_tell 20 = .ok (.ireturn, 1) := by decide +kernel
theorem dX4_tell_21 : decode cX4_tell 21 = .ok (.aload_n 0, 1) := by decide +kernel
theorem dX4_tell_22 : decode cX4_tell 22 = .ok (.getfield 21, 3) := by decide +kernel
theorem dX4_tell_25 : decode cX4_tell 25 = .ok (.iconst 1, 1) := by decide +kernel
theorem dX4_tell_26 : decode cX4_tell 26 = .ok (.isub, 1) := by decide +kernel
theorem dX4_tell_27 : decode cX4_tell 27 = .ok (.iload_n 1, 1) := by decide +kernel
theorem dX4_tell_28 : decode cX4_tell 28 = .ok (.isub, 1) := by decide +kernel
theorem dX4_tell_29 : decode cX4_tell 29 = .ok (.bipush 50, 2) := by decide +kernel
theorem dX4_tell_31 : decode cX4_tell 31 = .ok (.irem, 1) := by decide +kernel
theorem dX4_tell_32 : decode cX4_tell 32 = .ok (.istore_n 3, 1) := by decide +kernel
theorem dX4_tell_33 : decode cX4_tell 33 = .ok (.iload_n 2, 1) := by decide +kernel
theorem dX4_tell_34 : decode cX4_tell 34 = .ok (.lookupswitch 40 #[(0, 26), (1, 33)], 26) := by decide +kernel
theorem dX4_tell_60 : decode cX4_tell 60 = .ok (.aload_n 0, 1) := by decide +kernel
theorem dX4_tell_61 : decode cX4_tell 61 = .ok (.getfield 9, 3) := by decide +kernel
theorem dX4_tell_64 : decode cX4_tell 64 = .ok (.iload_n 3, 1) := by decide +kernel
theorem dX4_tell_65 : decode cX4_tell 65 = .ok (.iaload, 1) := by decide +kernel
theorem dX4_tell_66 : decode cX4_tell 66 = .ok (.ireturn, 1) := by decide +kernel
theorem dX4_tell_67 : decode cX4_tell 67 = .ok (.aload_n 0, 1) := by decide +kernel
theorem dX4_tell_68 : decode cX4_tell 68 = .ok (.getfield 15, 3) := by decide +kernel
theorem dX4_tell_71 : decode cX4_tell 71 = .ok (.iload_n 3, 1) := by decide +kernel
theorem dX4_tell_72 : decode cX4_tell 72 = .ok (.iaload, 1) := by decide +kernel
theorem dX4_tell_73 : decode cX4_tell 73 = .ok (.ireturn, 1) := by decide +kernel
theorem dX4_tell_74 : decode cX4_tell 74 = .ok (.aload_n 0, 1) := by decide +kernel
theorem dX4_tell_75 : decode cX4_tell 75 = .ok (.getfield 18, 3) := by decide +kernel
theorem dX4_tell_78 : decode cX4_tell 78 = .ok (.iload_n 3, 1) := by decide +kernel
theorem dX4_tell_79 : decode cX4_tell 79 = .ok (.iaload, 1) := by decide +kernel
theorem dX4_tell_80 : decode cX4_tell 80 = .ok (.ireturn, 1) := by decide +kernel
theorem dX5_init_0 : decode cX5_init 0 = .ok (.aload_n 0, 1) := by decide +kernel
theorem dX5_init_1 : decode cX5_init 1 = .ok (.invokespecial 3, 3) := by decide +kernel
theorem dX5_init_4 : decode cX5_init 4 = .ok (.aload_n 0, 1) := by decide +kernel
theorem dX5_init_5 : decode cX5_init 5 = .ok (.bipush 20, 2) := by decide +kernel
theorem dX5_init_7 : decode cX5_init 7 = .ok (.newarray .int, 2) := by decide +kernel
theorem dX5_init_9 : decode cX5_init 9 = .ok (.putfield 9, 3) := by decide +kernel
theorem dX5_init_12 : decode cX5_init 12 = .ok (.return_, 1) := by decide +kernel
theorem dX5_copyFrom_0 : decode cX5_copyFrom 0 = .ok (.aload_n 0, 1) := by decide +kernel
theorem dX5_copyFrom_1 : decode cX5_copyFrom 1 = .ok (.aload_n 1, 1) := by decide +kernel
theorem dX5_copyFrom_2 : decode cX5_copyFrom 2 = .ok (.getfield 15, 3) := by decide +kernel
theorem dX5_copyFrom_5 : decode cX5_copyFrom 5 = .ok (.putfield 15, 3) := by decide +kernel
theorem dX5_copyFrom_8 : decode cX5_copyFrom 8 = .ok (.aload_n 1, 1) := by decide +kernel
theorem dX5_copyFrom_9 : decode cX5_copyFrom 9 = .ok (.getfield 9, 3) := by decide +kernel
theorem dX5_copyFrom_12 : decode cX5_copyFrom 12 = .ok (.iconst 0, 1) := by decide +kernel
theorem dX5_copyFrom_13 : decode cX5_copyFrom 13 = .ok (.aload_n 0, 1) := by decide +kernel
theorem dX5_copyFrom_14 : decode cX5_copyFrom 14 = .ok (.getfield 9, 3) := by decide +kernel
theorem dX5_copyFrom_17 : decode cX5_copyFrom 17 = .ok (.iconst 0, 1) := by decide +kernel
theorem dX5_copyFrom_18 : decode cX5_copyFrom 18 = .ok (.bipush 20, 2) := by decide +kernel
theorem dX5_copyFrom_20 : decode cX5_copyFrom 20 = .ok (.invokestatic 19, 3) := by decide +kernel
theorem dX5_copyFrom_23 : decode cX5_copyFrom 23 = .ok (.return_, 1) := by decide +kernel
theorem dX5_append_0 : decode cX5_append 0 = .ok (.aload_n 0, 1) := by decide +kernel
theorem dX5_append_1 : decode cX5_append 1 = .ok (.getfield 15, 3) := by decide +kernel
theorem dX5_append_4 : decode cX5_append 4 = .ok (.bipush 20, 2) := by decide +kernel
theorem dX5_append_6 : decode cX5_append 6 = .ok (.if_icmp .ge 23, 3) := by decide +kernel
theorem dX5_append_9 : decode cX5_append 9 = .ok (.aload_n 0, 1) := by decide +kernel
theorem dX5_append_10 : decode cX5_append 10 = .ok (.getfield 9, 3) := by decide +kernel
theorem dX5_append_13 : decode cX5_append 13 = .ok (.aload_n 0, 1) := by decide +kernel
theorem dX5_append_14 : decode cX5_append 14 = .ok (.getfield 15, 3) := by decide +kernel
theorem dX5_append_17 : decode cX5_append 17 = .ok (.iload_n 1, 1) := by decide +kernel
theorem dX5_append_18 : decode cX5_append 18 = .ok (.iastore, 1) := by decide +kernel
theorem dX5_append_19 : decode cX5_append 19 = .ok (.aload_n 0, 1) := by decide +kernel
theorem dX5_append_20 : decode cX5_append 20 = .ok (.dup, 1) := by decide +kernel
theorem dX5_append_21 : decode cX5_append 21 = .ok (.getfield 15, 3) := by decide +kernel
theorem dX5_append_24 : decode cX5_append 24 = .ok (.iconst 1, 1) := by decide +kernel
theorem dX5_append_25 : decode cX5_append 25 = .ok (.iadd, 1) := by decide +kernel
theorem dX5_append_26 : decode cX5_append 26 = .ok (.putfield 15, 3) := by decide +kernel
theorem dX5_append_29 : decode cX5_append 29 = .ok (.return_, 1) := by decide +kernel
theorem dX5_wordAt_0 : decode cX5_wordAt 0 = .ok (.iload_n 1, 1) := by decide +kernel
theorem dX5_wordAt_1 : decode cX5_wordAt 1 = .ok (.ifCond .lt 20, 3) := by decide +kernel
theorem dX5_wordAt_4 : decode cX5_wordAt 4 = .ok (.iload_n 1, 1) := by decide +kernel
theorem dX5_wordAt_5 : decode cX5_wordAt 5 = .ok (.aload_n 0, 1) := by decide +kernel
theorem dX5_wordAt_6 : decode cX5_wordAt 6 = .ok (.getfield 15, 3) := by decide +kernel
theorem dX5_wordAt_9 : decode cX5_wordAt 9 = .ok (.if_icmp .ge 12, 3) := by decide +kernel
theorem dX5_wordAt_12 : decode cX5_wordAt 12 = .ok (.aload_n 0, 1) := by decide +kernel
theorem dX5_wordAt_13 : decode cX5_wordAt 13 = .ok (.getfield 9, 3) := by decide +kernel
theorem dX5_wordAt_16 : decode cX5_wordAt 16 = .ok (.iload_n 1, 1) := by decide +kernel
theorem dX5_wordAt_17 : decode cX5_wordAt 17 = .ok (.iaload, 1) := by decide +kernel
theorem dX5_wordAt_18 : decode cX5_wordAt 18 = .ok (.goto 4, 3) := by decide +kernel
theorem dX5_wordAt_21 : decode cX5_wordAt 21 = .ok (.iconst (-1), 1) := by decide +kernel
theorem dX5_wordAt_22 : decode cX5_wordAt 22 = .ok (.ireturn, 1) := by decide +kernel
theorem dX5_removeFirst_0 : decode cX5_removeFirst 0 = .ok (.aload_n 0, 1) := by decide +kernel
theorem dX5_removeFirst_1 : decode cX5_removeFirst 1 = .ok (.getfield 15, 3) := by decide +kernel
theorem dX5_removeFirst_4 : decode cX5_removeFirst 4 = .ok (.ifCond .gt 5, 3) := by decide +kernel
theorem dX5_removeFirst_7 : decode cX5_removeFirst 7 = .ok (.iconst (-1), 1) := by decide +kernel
theorem dX5_removeFirst_8 : decode cX5_removeFirst 8 = .ok (.ireturn, 1) := by decide +kernel
theorem dX5_removeFirst_9 : decode cX5_removeFirst 9 = .ok (.aload_n 0, 1) := by decide +kernel
theorem dX5_removeFirst_10 : decode cX5_removeFirst 10 = .ok (.getfield 9, 3) := by decide +kernel
theorem dX5_removeFirst_13 : decode cX5_removeFirst 13 = .ok (.iconst 0, 1) := by decide +kernel
theorem dX5_removeFirst_14 : decode cX5_removeFirst 14 = .ok (.iaload, 1) := by decide +kernel
theorem dX5_removeFirst_15 : decode cX5_removeFirst 15 = .ok (.istore_n 1, 1) := by decide +kernel
theorem dX5_removeFirst_16 : decode cX5_removeFirst 16 = .ok (.aload_n 0, 1) := by decide +kernel
theorem dX5_removeFirst_17 : decode cX5_removeFirst 17 = .ok (.dup, 1) := by decide +kernel
theorem dX5_removeFirst_18 : decode cX5_removeFirst 18 = .ok (.getfield 15, 3) := by decide +kernel
theorem dX5_removeFirst_21 : decode cX5_removeFirst 21 = .ok (.iconst 1, 1) := by decide +kernel
theorem dX5_removeFirst_22 : decode cX5_removeFirst 22 = .ok (.isub, 1) := by decide +kernel
theorem dX5_removeFirst_23 : decode cX5_removeFirst 23 = .ok (.putfield 15, 3) := by decide +kernel
theorem dX5_removeFirst_26 : decode cX5_removeFirst 26 = .ok (.iconst 0, 1) := by decide +kernel
theorem dX5_removeFirst_27 : decode cX5_removeFirst 27 = .ok (.istore_n 2, 1) := by decide +kernel
theorem dX5_removeFirst_28 : decode cX5_removeFirst 28 = .ok (.iload_n 2, 1) := by decide +kernel
theorem dX5_removeFirst_29 : decode cX5_removeFirst 29 = .ok (.aload_n 0, 1) := by decide +kernel
theorem dX5_removeFirst_30 : decode cX5_removeFirst 30 = .ok (.getfield 15, 3) := by decide +kernel
theorem dX5_removeFirst_33 : decode cX5_removeFirst 33 = .ok (.if_icmp .ge 23, 3) := by decide +kernel
theorem dX5_removeFirst_36 : decode cX5_removeFirst 36 = .ok (.aload_n 0, 1) := by decide +kernel
theorem dX5_removeFirst_37 : decode cX5_removeFirst 37 = .ok (.getfield 9, 3) := by decide +kernel
theorem dX5_removeFirst_40 : decode cX5_removeFirst 40 = .ok (.iload_n 2, 1) := by decide +kernel
theorem dX5_removeFirst_41 : decode cX5_removeFirst 41 = .ok (.aload_n 0, 1) := by decide +kernel
theorem dX5_removeFirst_42 : decode cX5_removeFirst 42 = .ok (.getfield 9, 3) := by decide +kernel
theorem dX5_removeFirst_45 : decode cX5_removeFirst 45 = .ok (.iload_n 2, 1) := by decide +kernel
theorem dX5_removeFirst_46 : decode cX5_removeFirst 46 = .ok (.iconst 1, 1) := by decide +kernel
theorem dX5_removeFirst_47 : decode cX5_removeFirst 47 = .ok (.iadd, 1) := by decide +kernel
theorem dX5_removeFirst_48 : decode cX5_removeFirst 48 = .ok (.iaload, 1) := by decide +kernel
theorem dX5_removeFirst_49 : decode cX5_removeFirst 49 = .ok (.iastore, 1) := by decide +kernel
theorem dX5_removeFirst_50 : decode cX5_removeFirst 50 = .ok (.iinc 2 1, 3) := by decide +kernel
theorem dX5_removeFirst_53 : decode cX5_removeFirst 53 = .ok (.goto (-25), 3) := by decide +kernel
theorem dX5_removeFirst_56 : decode cX5_removeFirst 56 = .ok (.iload_n 1, 1) := by decide +kernel
theorem dX5_removeFirst_57 : decode cX5_removeFirst 57 = .ok (.ireturn, 1) := by decide +kernel
theorem dX6_init_0 : decode cX6_init 0 = .ok (.aload_n 0, 1) := by decide +kernel
theorem dX6_init_1 : decode cX6_init 1 = .ok (.invokespecial 3, 3) := by decide +kernel
theorem dX6_init_4 : decode cX6_init 4 = .ok (.aload_n 0, 1) := by decide +kernel
theorem dX6_init_5 : decode cX6_init 5 = .ok (.bipush 60, 2) := by decide +kernel
theorem dX6_init_7 : decode cX6_init 7 = .ok (.newarray .int, 2) := by decide +kernel
theorem dX6_init_9 : decode cX6_init 9 = .ok (.putfield 9, 3) := by decide +kernel
theorem dX6_init_12 : decode cX6_init 12 = .ok (.aload_n 0, 1) := by decide +kernel
theorem dX6_init_13 : decode cX6_init 13 = .ok (.bipush 20, 2) := by decide +kernel
theorem dX6_init_15 : decode cX6_init 15 = .ok (.newarray .int, 2) := by decide +kernel
theorem dX6_init_17 : decode cX6_init 17 = .ok (.putfield 15, 3) := by decide +kernel
theorem dX6_init_20 : decode cX6_init 20 = .ok (.aload_n 0, 1) := by decide +kernel
theorem dX6_init_21 : decode cX6_init 21 = .ok (.bipush 20, 2) := by decide +kernel
theorem dX6_init_23 : decode cX6_init 23 = .ok (.newarray .int, 2) := by decide +kernel
theorem dX6_init_25 : decode cX6_init 25 = .ok (.putfield 18, 3) := by decide +kernel
theorem dX6_init_28 : decode cX6_init 28 = .ok (.aload_n 0, 1) := by decide +kernel
theorem dX6_init_29 : decode cX6_init 29 = .ok (.bipush 20, 2) := by decide +kernel
theorem dX6_init_31 : decode cX6_init 31 = .ok (.newarray .int, 2) := by decide +kernel
theorem dX6_init_33 : decode cX6_init 33 = .ok (.putfield 21, 3) := by decide +kernel
theorem dX6_init_36 : decode cX6_init 36 = .ok (.return_, 1) := by decide +kernel
theorem dX6_append_0 : decode cX6_append 0 = .ok (.aload_n 0, 1) := by decide +kernel
theorem dX6_append_1 : decode cX6_append 1 = .ok (.getfield 24, 3) := by decide +kernel
theorem dX6_append_4 : decode cX6_append 4 = .ok (.bipush 60, 2) := by decide +kernel
theorem dX6_append_6 : decode cX6_append 6 = .ok (.if_icmp .lt 6, 3) := by decide +kernel
theorem dX6_append_9 : decode cX6_append 9 = .ok (.bipush (-3), 2) := by decide +kernel
theorem dX6_append_11 : decode cX6_append 11 = .ok (.ireturn, 1) := by decide +kernel
theorem dX6_append_12 : decode cX6_append 12 = .ok (.aload_n 0, 1) := by decide +kernel
theorem dX6_append_13 : decode cX6_append 13 = .ok (.getfield 9, 3) := by decide +kernel
theorem dX6_append_16 : decode cX6_append 16 = .ok (.aload_n 0, 1) := by decide +kernel
theorem dX6_append_17 : decode cX6_append 17 = .ok (.getfield 24, 3) := by decide +kernel
theorem dX6_append_20 : decode cX6_append 20 = .ok (.iload_n 1, 1) := by decide +kernel
theorem dX6_append_21 : decode cX6_append 21 = .ok (.iastore, 1) := by decide +kernel
theorem dX6_append_22 : decode cX6_append 22 = .ok (.aload_n 0, 1) := by decide +kernel
theorem dX6_append_23 : decode cX6_append 23 = .ok (.dup, 1) := by decide +kernel
theorem dX6_append_24 : decode cX6_append 24 = .ok (.getfield 24, 3) := by decide +kernel
theorem dX6_append_27 : decode cX6_append 27 = .ok (.iconst 1, 1) := by decide +kernel
theorem dX6_append_28 : decode cX6_append 28 = .ok (.iadd, 1) := by decide +kernel
theorem dX6_append_29 : decode cX6_append 29 = .ok (.putfield 24, 3) := by decide +kernel
theorem dX6_append_32 : decode cX6_append 32 = .ok (.aload_n 0, 1) := by decide +kernel
theorem dX6_append_33 : decode cX6_append 33 = .ok (.getfield 24, 3) := by decide +kernel
theorem dX6_append_36 : decode cX6_append 36 = .ok (.ireturn, 1) := by decide +kernel
set_option maxRecDepth 20000 in
theorem ggX6_readOrders_X6_readOrder : GoodIn wsX6_readOrders wsX6_readOrder := goodIn_r _ [8, 1, 9, 10, 11, 7, 12, 3, 13, 14, 15, 16, 17, 18, 19, 20, 21, 22, 23, 24, 25, 2, 26, 27, 28, 29, 30, 31, 32, 33, 34, 35, 36, 37, 38, 39, 40, 41, 42, 43, 44, 45, 46, 47] (by decide +kernel) (by decide +kernel)
set_option maxRecDepth 20000 in
theorem gX6_readOrders_X6_readOrder : GoodIn wsX6_readOrders (wsV RX6 34 RX6 yX6_readOrder wsX6_readOrder) := goodIn_app (goodIn_of _ (by decide +kernel)) ggX6_readOrders_X6_readOrder
set_option maxRecDepth 20000 in
theorem ggX6_readOrders_X6_readSign : GoodIn wsX6_readOrders wsX6_readSign := goodIn_r _ [40, 1, 9, 10, 11, 7, 12, 3, 13, 41, 42, 43, 44, 45, 46, 47] (by decide +kernel) (by decide +kernel)
set_option maxRecDepth 20000 in
theorem gX6_readOrders_X6_readSign : GoodIn wsX6_readOrders (wsV RX6 38 RX6 yX6_readSign wsX6_readSign) := goodIn_app (goodIn_of _ (by decide +kernel)) ggX6_readOrders_X6_readSign
theorem dX6_readOrders_0 : decode cX6_readOrders 0 = .ok (.aload_n 0, 1) := by decide +kernel
theorem dX6_readOrders_1 : decode cX6_readOrders 1 = .ok (.iconst 0, 1) := by decide +kernel
theorem dX6_readOrders_2 : decode cX6_readOrders 2 = .ok (.putfield 28, 3) := by decide +kernel
theorem dX6_readOrders_5 : decode cX6_readOrders 5 = .ok (.aload_n 0, 1) := by decide +kernel
theorem dX6_readOrders_6 : decode cX6_readOrders 6 = .ok (.iconst 0, 1) := by decide +kernel
theorem dX6_readOrders_7 : decode cX6_readOrders 7 = .ok (.putfield 31, 3) := by decide +kernel
theorem dX6_readOrders_10 : decode cX6_readOrders 10 = .ok (.iconst 0, 1) := by decide +kernel
theorem dX6_readOrders_11 : decode cX6_readOrders 11 = .ok (.istore_n 1, 1) := by decide +kernel
theorem dX6_readOrders_12 : decode cX6_readOrders 12 = .ok (.iload_n 1, 1) := by decide +kernel
theorem dX6_readOrders_13 : decode cX6_readOrders 13 = .ok (.bipush 20, 2) := by decide +kernel
theorem dX6_readOrders_15 : decode cX6_readOrders 15 = .ok (.if_icmp .gt 48, 3) := by decide +kernel
theorem dX6_readOrders_18 : decode cX6_readOrders 18 = .ok (.aload_n 0, 1) := by decide +kernel
theorem dX6_readOrders_19 : decode cX6_readOrders 19 = .ok (.invokevirtual 34, 3) := by decide +kernel
theorem dX6_readOrders_22 : decode cX6_readOrders 22 = .ok (.ifCond .ne 8, 3) := by decide +kernel
theorem dX6_readOrders_25 : decode cX6_readOrders 25 = .ok (.aload_n 0, 1) := by decide +kernel
theorem dX6_readOrders_26 : decode cX6_readOrders 26 = .ok (.getfield 28, 3) := by decide +kernel
theorem dX6_readOrders_29 : decode cX6_readOrders 29 = .ok (.ireturn, 1) := by decide +kernel
theorem dX6_readOrders_30 : decode cX6_readOrders 30 = .ok (.aload_n 0, 1) := by decide +kernel
theorem dX6_readOrders_31 : decode cX6_readOrders 31 = .ok (.getfield 28, 3) := by decide +kernel
theorem dX6_readOrders_34 : decode cX6_readOrders 34 = .ok (.aload_n 0, 1) := by decide +kernel
theorem dX6_readOrders_35 : decode cX6_readOrders 35 = .ok (.getfield 24, 3) := by decide +kernel
theorem dX6_readOrders_38 : decode cX6_readOrders 38 = .ok (.if_icmp .lt 5, 3) := by decide +kernel
theorem dX6_readOrders_41 : decode cX6_readOrders 41 = .ok (.iconst (-1), 1) := by decide +kernel
theorem dX6_readOrders_42 : decode cX6_readOrders 42 = .ok (.ireturn, 1) := by decide +kernel
theorem dX6_readOrders_43 : decode cX6_readOrders 43 = .ok (.aload_n 0, 1) := by decide +kernel
theorem dX6_readOrders_44 : decode cX6_readOrders 44 = .ok (.bipush 44, 2) := by decide +kernel
theorem dX6_readOrders_46 : decode cX6_readOrders 46 = .ok (.invokevirtual 38, 3) := by decide +kernel
theorem dX6_readOrders_49 : decode cX6_readOrders 49 = .ok (.ifCond .ne 8, 3) := by decide +kernel
theorem dX6_readOrders_52 : decode cX6_readOrders 52 = .ok (.aload_n 0, 1) := by decide +kernel
theorem dX6_readOrders_53 : decode cX6_readOrders 53 = .ok (.getfield 28, 3) := by decide +kernel
theorem dX6_readOrders_56 : decode cX6_readOrders 56 = .ok (.ireturn, 1) := by decide +kernel
theorem dX6_readOrders_57 : decode cX6_readOrders 57 = .ok (.iinc 1 1, 3) := by decide +kernel
theorem dX6_readOrders_60 : decode cX6_readOrders 60 = .ok (.goto (-48), 3) := by decide +kernel
theorem dX6_readOrders_63 : decode cX6_readOrders 63 = .ok (.aload_n 0, 1) := by decide +kernel
theorem dX6_readOrders_64 : decode cX6_readOrders 64 = .ok (.getfield 28, 3) := by decide +kernel
theorem dX6_readOrders_67 : decode cX6_readOrders 67 = .ok (.ireturn, 1) := by decide +kernel
set_option maxRecDepth 20000 in
theorem ggX6_readOrder_X6_current : GoodIn wsX6_readOrder wsX6_current := goodIn_r _ [6, 1, 7, 8, 37, 38, 39, 40, 41, 42, 43] (by decide +kernel) (by decide +kernel)
set_option maxRecDepth 20000 in
theorem gX6_readOrder_X6_current : GoodIn wsX6_readOrder (wsV RX6 42 RX6 yX6_current wsX6_current) := goodIn_app (goodIn_of _ (by decide +kernel)) ggX6_readOrder_X6_current
set_option maxRecDepth 20000 in
theorem ggX6_readOrder_X6_readDigit : GoodIn wsX6_readOrder wsX6_readDigit := goodIn_r _ [12, 1, 2, 3, 4, 5, 6, 7, 8, 13, 14, 15, 16, 37, 38, 39, 40, 41, 42, 43] (by decide +kernel) (by decide +kernel)
set_option maxRecDepth 20000 in
theorem gX6_readOrder_X6_readDigit : GoodIn wsX6_readOrder (wsV RX6 46 RX6 yX6_readDigit wsX6_readDigit) := goodIn_app (goodIn_of _ (by decide +kernel)) ggX6_readOrder_X6_readDigit
set_option maxRecDepth 20000 in
theorem ggX6_readOrder_X6_store : GoodIn wsX6_readOrder wsX6_store := goodIn_r _ [20, 21, 22, 23, 24, 37, 38, 39, 40, 41, 42, 43] (by decide +kernel) (by decide +kernel)
set_option maxRecDepth 20000 in
theorem gX6_readOrder_X6_store : GoodIn wsX6_readOrder (wsV RX6 50 RX6 yX6_store wsX6_store) := goodIn_app (goodIn_of _ (by decide +kernel)) ggX6_readOrder_X6_store
set_option maxRecDepth 20000 in
theorem ggX6_readOrder_X6_readNumber : GoodIn wsX6_readOrder wsX6_readNumber := goodIn_r _ [28, 1, 2, 3, 4, 5, 6, 7, 8, 13, 14, 15, 16, 37, 38, 39, 40, 41, 42, 43] (by decide +kernel) (by decide +kernel)
set_option maxRecDepth 20000 in
theorem gX6_readOrder_X6_readNumber : GoodIn wsX6_readOrder (wsV RX6 54 RX6 yX6_readNumber wsX6_readNumber) := goodIn_app (goodIn_of _ (by decide +kernel)) ggX6_readOrder_X6_readNumber
set_option maxRecDepth 20000 in
theorem ggX6_readOrder_X6_readDelay : GoodIn wsX6_readOrder wsX6_readDelay := goodIn_r _ [32, 9, 10, 11, 5, 12, 1, 2, 3, 4, 6, 7, 8, 13, 14, 15, 16, 33, 34, 35, 36, 25, 26, 27, 28, 17, 18, 19, 20, 21, 22, 23, 24, 37, 38, 39, 40, 41, 42, 43] (by decide +kernel) (by decide +kernel)
set_option maxRecDepth 20000 in
theorem gX6_readOrder_X6_readDelay : GoodIn wsX6_readOrder (wsV RX6 57 RX6 yX6_readDelay wsX6_readDelay) := goodIn_app (goodIn_of _ (by decide +kernel)) ggX6_readOrder_X6_readDelay
theorem dX6_readOrder_0 : decode cX6_readOrder 0 = .ok (.aload_n 0, 1) := by decide +kernel
theorem dX6_readOrder_1 : decode cX6_readOrder 1 = .ok (.invokevirtual 42, 3) := by decide +kernel
theorem dX6_readOrder_4 : decode cX6_readOrder 4 = .ok (.istore_n 1, 1) := by decide +kernel
theorem dX6_readOrder_5 : decode cX6_readOrder 5 = .ok (.iload_n 1, 1) := by decide +kernel
theorem dX6_readOrder_6 : decode cX6_readOrder 6 = .ok (.lookupswitch 122 #[(46, 82), (97, 58), (98, 58), (100, 106), (107, 106), (114, 106)], 58) := by decide +kernel
theorem dX6_readOrder_64 : decode cX6_readOrder 64 = .ok (.aload_n 0, 1) := by decide +kernel
theorem dX6_readOrder_65 : decode cX6_readOrder 65 = .ok (.dup, 1) := by decide +kernel
theorem dX6_readOrder_66 : decode cX6_readOrder 66 = .ok (.getfield 28, 3) := by decide +kernel
theorem dX6_readOrder_69 : decode cX6_readOrder 69 = .ok (.iconst 1, 1) := by decide +kernel
theorem dX6_readOrder_70 : decode cX6_readOrder 70 = .ok (.iadd, 1) := by decide +kernel
theorem dX6_readOrder_71 : decode cX6_readOrder 71 = .ok (.putfield 28, 3) := by decide +kernel
theorem dX6_readOrder_74 : decode cX6_readOrder 74 = .ok (.aload_n 0, 1) := by decide +kernel
theorem dX6_readOrder_75 : decode cX6_readOrder 75 = .ok (.iload_n 1, 1) := by decide +kernel
theorem dX6_readOrder_76 : decode cX6_readOrder 76 = .ok (.iconst 0, 1) := by decide +kernel
theorem dX6_readOrder_77 : decode cX6_readOrder 77 = .ok (.aload_n 0, 1) := by decide +kernel
theorem dX6_readOrder_78 : decode cX6_readOrder 78 = .ok (.bipush 15, 2) := by decide +kernel
theorem dX6_readOrder_80 : decode cX6_readOrder 80 = .ok (.invokevirtual 46, 3) := by decide +kernel
theorem dX6_readOrder_83 : decode cX6_readOrder 83 = .ok (.iconst 0, 1) := by decide +kernel
theorem dX6_readOrder_84 : decode cX6_readOrder 84 = .ok (.invokevirtual 50, 3) := by decide +kernel
theorem dX6_readOrder_87 : decode cX6_readOrder 87 = .ok (.ireturn, 1) := by decide +kernel
theorem dX6_readOrder_88 : decode cX6_readOrder 88 = .ok (.aload_n 0, 1) := by decide +kernel
theorem dX6_readOrder_89 : decode cX6_readOrder 89 = .ok (.dup, 1) := by decide +kernel
theorem dX6_readOrder_90 : decode cX6_readOrder 90 = .ok (.getfield 28, 3) := by decide +kernel
theorem dX6_readOrder_93 : decode cX6_readOrder 93 = .ok (.iconst 1, 1) := by decide +kernel
theorem dX6_readOrder_94 : decode cX6_readOrder 94 = .ok (.iadd, 1) := by decide +kernel
theorem dX6_readOrder_95 : decode cX6_readOrder 95 = .ok (.putfield 28, 3) := by decide +kernel
theorem dX6_readOrder_98 : decode cX6_readOrder 98 = .ok (.aload_n 0, 1) := by decide +kernel
theorem dX6_readOrder_99 : decode cX6_readOrder 99 = .ok (.iload_n 1, 1) := by decide +kernel
theorem dX6_readOrder_100 : decode cX6_readOrder 100 = .ok (.iconst 0, 1) := by decide +kernel
theorem dX6_readOrder_101 : decode cX6_readOrder 101 = .ok (.aload_n 0, 1) := by decide +kernel
theorem dX6_readOrder_102 : decode cX6_readOrder 102 = .ok (.bipush 99, 2) := by decide +kernel
theorem dX6_readOrder_104 : decode cX6_readOrder 104 = .ok (.invokevirtual 54, 3) := by decide +kernel
theorem dX6_readOrder_107 : decode cX6_readOrder 107 = .ok (.iconst 1, 1) := by decide +kernel
theorem dX6_readOrder_108 : decode cX6_readOrder 108 = .ok (.invokevirtual 50, 3) := by decide +kernel
theorem dX6_readOrder_111 : decode cX6_readOrder 111 = .ok (.ireturn, 1) := by decide +kernel
theorem dX6_readOrder_112 : decode cX6_readOrder 112 = .ok (.aload_n 0, 1) := by decide +kernel
theorem dX6_readOrder_113 : decode cX6_readOrder 113 = .ok (.dup, 1) := by decide +kernel
theorem dX6_readOrder_114 : decode cX6_readOrder 114 = .ok (.getfield 28, 3) := by decide +kernel
theorem dX6_readOrder_117 : decode cX6_readOrder 117 = .ok (.iconst 1, 1) := by decide +kernel
theorem dX6_readOrder_118 : decode cX6_readOrder 118 = .ok (.iadd, 1) := by decide +kernel
theorem dX6_readOrder_119 : decode cX6_readOrder 119 = .ok (.putfield 28, 3) := by decide +kernel
theorem dX6_readOrder_122 : decode cX6_readOrder 122 = .ok (.aload_n 0, 1) := by decide +kernel
theorem dX6_readOrder_123 : decode cX6_readOrder 123 = .ok (.iload_n 1, 1) := by decide +kernel
theorem dX6_readOrder_124 : decode cX6_readOrder 124 = .ok (.invokevirtual 57, 3) := by decide +kernel
theorem dX6_readOrder_127 : decode cX6_readOrder 127 = .ok (.ireturn, 1) := by decide +kernel
theorem dX6_readOrder_128 : decode cX6_readOrder 128 = .ok (.iconst 0, 1) := by decide +kernel
theorem dX6_readOrder_129 : decode cX6_readOrder 129 = .ok (.ireturn, 1) := by decide +kernel
set_option maxRecDepth 20000 in
theorem ggX6_readDelay_X6_readDigit : GoodIn wsX6_readDelay wsX6_readDigit := goodIn_r _ [5, 6, 7, 8, 9, 4, 10, 11, 12, 13, 14, 15, 16, 33, 34, 35, 36, 37, 38, 39] (by decide +kernel) (by decide +kernel)
set_option maxRecDepth 20000 in
theorem gX6_readDelay_X6_readDigit : GoodIn wsX6_readDelay (wsV RX6 46 RX6 yX6_readDigit wsX6_readDigit) := goodIn_app (goodIn_of _ (by decide +kernel)) ggX6_readDelay_X6_readDigit
set_option maxRecDepth 20000 in
theorem ggX6_readDelay_X6_readSign : GoodIn wsX6_readDelay wsX6_readSign := goodIn_r _ [20, 6, 7, 8, 9, 4, 10, 11, 12, 33, 34, 35, 36, 37, 38, 39] (by decide +kernel) (by decide +kernel)
set_option maxRecDepth 20000 in
theorem gX6_readDelay_X6_readSign : GoodIn wsX6_readDelay (wsV RX6 38 RX6 yX6_readSign wsX6_readSign) := goodIn_app (goodIn_of _ (by decide +kernel)) ggX6_readDelay_X6_readSign
set_option maxRecDepth 20000 in
theorem ggX6_readDelay_X6_readNumber : GoodIn wsX6_readDelay wsX6_readNumber := goodIn_r _ [24, 6, 7, 8, 9, 4, 10, 11, 12, 13, 14, 15, 16, 33, 34, 35, 36, 37, 38, 39] (by decide +kernel) (by decide +kernel)
set_option maxRecDepth 20000 in
theorem gX6_readDelay_X6_readNumber : GoodIn wsX6_readDelay (wsV RX6 54 RX6 yX6_readNumber wsX6_readNumber) := goodIn_app (goodIn_of _ (by decide +kernel)) ggX6_readDelay_X6_readNumber
set_option maxRecDepth 20000 in
theorem ggX6_readDelay_X6_store : GoodIn wsX6_readDelay wsX6_store := goodIn_r _ [28, 29, 30, 31, 32, 33, 34, 35, 36, 37, 38, 39] (by decide +kernel) (by decide +kernel)
set_option maxRecDepth 20000 in
theorem gX6_readDelay_X6_store : GoodIn wsX6_readDelay (wsV RX6 50 RX6 yX6_store wsX6_store) := goodIn_app (goodIn_of _ (by decide +kernel)) ggX6_readDelay_X6_store
theorem dX6_readDelay_0 : decode cX6_readDelay 0 = .ok (.aload_n 0, 1) := by decide +kernel
theorem dX6_readDelay_1 : decode cX6_readDelay 1 = .ok (.bipush 6, 2) := by decide +kernel
theorem dX6_readDelay_3 : decode cX6_readDelay 3 = .ok (.invokevirtual 46, 3) := by decide +kernel
theorem dX6_readDelay_6 : decode cX6_readDelay 6 = .ok (.istore_n 2, 1) := by decide +kernel
theorem dX6_readDelay_7 : decode cX6_readDelay 7 = .ok (.iload_n 2, 1) := by decide +kernel
theorem dX6_readDelay_8 : decode cX6_readDelay 8 = .ok (.iconst (-1), 1) := by decide +kernel
theorem dX6_readDelay_9 : decode cX6_readDelay 9 = .ok (.if_icmp .eq 12, 3) := by decide +kernel
theorem dX6_readDelay_12 : decode cX6_readDelay 12 = .ok (.aload_n 0, 1) := by decide +kernel
theorem dX6_readDelay_13 : decode cX6_readDelay 13 = .ok (.bipush 61, 2) := by decide +kernel
theorem dX6_readDelay_15 : decode cX6_readDelay 15 = .ok (.invokevirtual 38, 3) := by decide +kernel
theorem dX6_readDelay_18 : decode cX6_readDelay 18 = .ok (.ifCond .ne 5, 3) := by decide +kernel
theorem dX6_readDelay_21 : decode cX6_readDelay 21 = .ok (.iconst 0, 1) := by decide +kernel
theorem dX6_readDelay_22 : decode cX6_readDelay 22 = .ok (.ireturn, 1) := by decide +kernel
theorem dX6_readDelay_23 : decode cX6_readDelay 23 = .ok (.aload_n 0, 1) := by decide +kernel
theorem dX6_readDelay_24 : decode cX6_readDelay 24 = .ok (.iload_n 1, 1) := by decide +kernel
theorem dX6_readDelay_25 : decode cX6_readDelay 25 = .ok (.iload_n 2, 1) := by decide +kernel
theorem dX6_readDelay_26 : decode cX6_readDelay 26 = .ok (.aload_n 0, 1) := by decide +kernel
theorem dX6_readDelay_27 : decode cX6_readDelay 27 = .ok (.bipush 20, 2) := by decide +kernel
theorem dX6_readDelay_29 : decode cX6_readDelay 29 = .ok (.invokevirtual 54, 3) := by decide +kernel
theorem dX6_readDelay_32 : decode cX6_readDelay 32 = .ok (.iconst 1, 1) := by decide +kernel
theorem dX6_readDelay_33 : decode cX6_readDelay 33 = .ok (.invokevirtual 50, 3) := by decide +kernel
theorem dX6_readDelay_36 : decode cX6_readDelay 36 = .ok (.ireturn, 1) := by decide +kernel
theorem dX6_store_0 : decode cX6_store 0 = .ok (.iload_n 3, 1) := by decide +kernel
theorem dX6_store_1 : decode cX6_store 1 = .ok (.iload 4, 2) := by decide +kernel
theorem dX6_store_3 : decode cX6_store 3 = .ok (.if_icmp .lt 12, 3) := by decide +kernel
theorem dX6_store_6 : decode cX6_store 6 = .ok (.aload_n 0, 1) := by decide +kernel
theorem dX6_store_7 : decode cX6_store 7 = .ok (.getfield 31, 3) := by decide +kernel
theorem dX6_store_10 : decode cX6_store 10 = .ok (.bipush 20, 2) := by decide +kernel
theorem dX6_store_12 : decode cX6_store 12 = .ok (.if_icmp .lt 5, 3) := by decide +kernel
theorem dX6_store_15 : decode cX6_store 15 = .ok (.iconst 0, 1) := by decide +kernel
theorem dX6_store_16 : decode cX6_store 16 = .ok (.ireturn, 1) := by decide +kernel
theorem dX6_store_17 : decode cX6_store 17 = .ok (.aload_n 0, 1) := by decide +kernel
theorem dX6_store_18 : decode cX6_store 18 = .ok (.getfield 15, 3) := by decide +kernel
theorem dX6_store_21 : decode cX6_store 21 = .ok (.aload_n 0, 1) := by decide +kernel
theorem dX6_store_22 : decode cX6_store 22 = .ok (.getfield 31, 3) := by decide +kernel
theorem dX6_store_25 : decode cX6_store 25 = .ok (.iload_n 1, 1) := by decide +kernel
theorem dX6_store_26 : decode cX6_store 26 = .ok (.iastore, 1) := by decide +kernel
theorem dX6_store_27 : decode cX6_store 27 = .ok (.aload_n 0, 1) := by decide +kernel
theorem dX6_store_28 : decode cX6_store 28 = .ok (.getfield 18, 3) := by decide +kernel
theorem dX6_store_31 : decode cX6_store 31 = .ok (.aload_n 0, 1) := by decide +kernel
theorem dX6_store_32 : decode cX6_store 32 = .ok (.getfield 31, 3) := by decide +kernel
theorem dX6_store_35 : decode cX6_store 35 = .ok (.iload_n 2, 1) := by decide +kernel
theorem dX6_store_36 : decode cX6_store 36 = .ok (.iastore, 1) := by decide +kernel
theorem dX6_store_37 : decode cX6_store 37 = .ok (.aload_n 0, 1) := by decide +kernel
theorem dX6_store_38 : decode cX6_store 38 = .ok (.getfield 21, 3) := by decide +kernel
theorem dX6_store_41 : decode cX6_store 41 = .ok (.aload_n 0, 1) := by decide +kernel
theorem dX6_store_42 : decode cX6_store 42 = .ok (.getfield 31, 3) := by decide +kernel
theorem dX6_store_45 : decode cX6_store 45 = .ok (.iload_n 3, 1) := by decide +kernel
theorem dX6_store_46 : decode cX6_store 46 = .ok (.iastore, 1) := by decide +kernel
theorem dX6_store_47 : decode cX6_store 47 = .ok (.aload_n 0, 1) := by decide +kernel
theorem dX6_store_48 : decode cX6_store 48 = .ok (.dup, 1) := by decide +kernel
theorem dX6_store_49 : decode cX6_store 49 = .ok (.getfield 31, 3) := by decide +kernel
theorem dX6_store_52 : decode cX6_store 52 = .ok (.iconst 1, 1) := by decide +kernel
theorem dX6_store_53 : decode cX6_store 53 = .ok (.iadd, 1) := by decide +kernel
theorem dX6_store_54 : decode cX6_store 54 = .ok (.putfield 31, 3) := by decide +kernel
theorem dX6_store_57 : decode cX6_store 57 = .ok (.iconst 1, 1) := by decide +kernel
theorem dX6_store_58 : decode cX6_store 58 = .ok (.ireturn, 1) := by decide +kernel
theorem dX6_current_0 : decode cX6_current 0 = .ok (.aload_n 0, 1) := by decide +kernel
theorem dX6_current_1 : decode cX6_current 1 = .ok (.getfield 28, 3) := by decide +kernel
theorem dX6_current_4 : decode cX6_current 4 = .ok (.ifCond .lt 26, 3) := by decide +kernel
theorem dX6_current_7 : decode cX6_current 7 = .ok (.aload_n 0, 1) := by decide +kernel
theorem dX6_current_8 : decode cX6_current 8 = .ok (.getfield 28, 3) := by decide +kernel
theorem dX6_current_11 : decode cX6_current 11 = .ok (.aload_n 0, 1) := by decide +kernel
theorem dX6_current_12 : decode cX6_current 12 = .ok (.getfield 24, 3) := by decide +kernel
theorem dX6_current_15 : decode cX6_current 15 = .ok (.if_icmp .ge 15, 3) := by decide +kernel
theorem dX6_current_18 : decode cX6_current 18 = .ok (.aload_n 0, 1) := by decide +kernel
theorem dX6_current_19 : decode cX6_current 19 = .ok (.getfield 9, 3) := by decide +kernel
theorem dX6_current_22 : decode cX6_current 22 = .ok (.aload_n 0, 1) := by decide +kernel
theorem dX6_current_23 : decode cX6_current 23 = .ok (.getfield 28, 3) := by decide +kernel
theorem dX6_current_26 : decode cX6_current 26 = .ok (.iaload, 1) := by decide +kernel
theorem dX6_current_27 : decode cX6_current 27 = .ok (.goto 4, 3) := by decide +kernel
theorem dX6_current_30 : decode cX6_current 30 = .ok (.iconst (-1), 1) := by decide +kernel
theorem dX6_current_31 : decode cX6_current 31 = .ok (.ireturn, 1) := by decide +kernel
set_option maxRecDepth 20000 in
theorem ggX6_readSign_X6_current : GoodIn wsX6_readSign wsX6_current := goodIn_r _ [6, 1, 7, 8, 9, 10, 11, 12, 13, 14, 15] (by decide +kernel) (by decide +kernel)
set_option maxRecDepth 20000 in
theorem gX6_readSign_X6_current : GoodIn wsX6_readSign (wsV RX6 42 RX6 yX6_current wsX6_current) := goodIn_app (goodIn_of _ (by decide +kernel)) ggX6_readSign_X6_current
theorem dX6_readSign_0 : decode cX6_readSign 0 = .ok (.aload_n 0, 1) := by decide +kernel
theorem dX6_readSign_1 : decode cX6_readSign 1 = .ok (.invokevirtual 42, 3) := by decide +kernel
theorem dX6_readSign_4 : decode cX6_readSign 4 = .ok (.iload_n 1, 1) := by decide +kernel
theorem dX6_readSign_5 : decode cX6_readSign 5 = .ok (.if_icmp .eq 5, 3) := by decide +kernel
theorem dX6_readSign_8 : decode cX6_readSign 8 = .ok (.iconst 0, 1) := by decide +kernel
theorem dX6_readSign_9 : decode cX6_readSign 9 = .ok (.ireturn, 1) := by decide +kernel
theorem dX6_readSign_10 : decode cX6_readSign 10 = .ok (.aload_n 0, 1) := by decide +kernel
theorem dX6_readSign_11 : decode cX6_readSign 11 = .ok (.dup, 1) := by decide +kernel
theorem dX6_readSign_12 : decode cX6_readSign 12 = .ok (.getfield 28, 3) := by decide +kernel
theorem dX6_readSign_15 : decode cX6_readSign 15 = .ok (.iconst 1, 1) := by decide +kernel
theorem dX6_readSign_16 : decode cX6_readSign 16 = .ok (.iadd, 1) := by decide +kernel
theorem dX6_readSign_17 : decode cX6_readSign 17 = .ok (.putfield 28, 3) := by decide +kernel
theorem dX6_readSign_20 : decode cX6_readSign 20 = .ok (.iconst 1, 1) := by decide +kernel
theorem dX6_readSign_21 : decode cX6_readSign 21 = .ok (.ireturn, 1) := by decide +kernel
set_option maxRecDepth 20000 in
theorem ggX6_readDigit_X6_current : GoodIn wsX6_readDigit wsX6_current := goodIn_r _ [6, 1, 7, 8, 13, 14, 15, 16, 17, 18, 19] (by decide +kernel) (by decide +kernel)
set_option maxRecDepth 20000 in
theorem gX6_readDigit_X6_current : GoodIn wsX6_readDigit (wsV RX6 42 RX6 yX6_current wsX6_current) := goodIn_app (goodIn_of _ (by decide +kernel)) ggX6_readDigit_X6_current
set_option maxRecDepth 20000 in
theorem ggX6_readDigit_X6_digitOf : GoodIn wsX6_readDigit wsX6_digitOf := goodIn_r _ [12] (by decide +kernel) (by decide +kernel)
set_option maxRecDepth 20000 in
theorem gX6_readDigit_X6_digitOf : GoodIn wsX6_readDigit (wsV RX6 60 RX6 yX6_digitOf wsX6_digitOf) := goodIn_app (goodIn_of _ (by decide +kernel)) ggX6_readDigit_X6_digitOf
theorem dX6_readDigit_0 : decode cX6_readDigit 0 = .ok (.aload_n 0, 1) := by decide +kernel
theorem dX6_readDigit_1 : decode cX6_readDigit 1 = .ok (.aload_n 0, 1) := by decide +kernel
theorem dX6_readDigit_2 : decode cX6_readDigit 2 = .ok (.invokevirtual 42, 3) := by decide +kernel
theorem dX6_readDigit_5 : decode cX6_readDigit 5 = .ok (.invokevirtual 60, 3) := by decide +kernel
theorem dX6_readDigit_8 : decode cX6_readDigit 8 = .ok (.istore_n 2, 1) := by decide +kernel
theorem dX6_readDigit_9 : decode cX6_readDigit 9 = .ok (.iload_n 2, 1) := by decide +kernel
theorem dX6_readDigit_10 : decode cX6_readDigit 10 = .ok (.iconst (-1), 1) := by decide +kernel
theorem dX6_readDigit_11 : decode cX6_readDigit 11 = .ok (.if_icmp .eq 8, 3) := by decide +kernel
theorem dX6_readDigit_14 : decode cX6_readDigit 14 = .ok (.iload_n 2, 1) := by decide +kernel
theorem dX6_readDigit_15 : decode cX6_readDigit 15 = .ok (.iload_n 1, 1) := by decide +kernel
theorem dX6_readDigit_16 : decode cX6_readDigit 16 = .ok (.if_icmp .le 5, 3) := by decide +kernel
theorem dX6_readDigit_19 : decode cX6_readDigit 19 = .ok (.iconst (-1), 1) := by decide +kernel
theorem dX6_readDigit_20 : decode cX6_readDigit 20 = .ok (.ireturn, 1) := by decide +kernel
theorem dX6_readDigit_21 : decode cX6_readDigit 21 = .ok (.aload_n 0, 1) := by decide +kernel
theorem dX6_readDigit_22 : decode cX6_readDigit 22 = .ok (.dup, 1) := by decide +kernel
theorem dX6_readDigit_23 : decode cX6_readDigit 23 = .ok (.getfield 28, 3) := by decide +kernel
theorem dX6_readDigit_26 : decode cX6_readDigit 26 = .ok (.iconst 1, 1) := by decide +kernel
theorem dX6_readDigit_27 : decode cX6_readDigit 27 = .ok (.iadd, 1) := by decide +kernel
theorem dX6_readDigit_28 : decode cX6_readDigit 28 = .ok (.putfield 28, 3) := by decide +kernel
theorem dX6_readDigit_31 : decode cX6_readDigit 31 = .ok (.iload_n 2, 1) := by decide +kernel
theorem dX6_readDigit_32 : decode cX6_readDigit 32 = .ok (.ireturn, 1) := by decide +kernel
set_option maxRecDepth 20000 in
theorem ggX6_readNumber_X6_current : GoodIn wsX6_readNumber wsX6_current := goodIn_r _ [6, 1, 7, 8, 13, 14, 15, 16, 17, 18, 19] (by decide +kernel) (by decide +kernel)
set_option maxRecDepth 20000 in
theorem gX6_readNumber_X6_current : GoodIn wsX6_readNumber (wsV RX6 42 RX6 yX6_current wsX6_current) := goodIn_app (goodIn_of _ (by decide +kernel)) ggX6_readNumber_X6_current
set_option maxRecDepth 20000 in
theorem ggX6_readNumber_X6_digitOf : GoodIn wsX6_readNumber wsX6_digitOf := goodIn_r _ [12] (by decide +kernel) (by decide +kernel)
set_option maxRecDepth 20000 in
theorem gX6_readNumber_X6_digitOf : GoodIn wsX6_readNumber (wsV RX6 60 RX6 yX6_digitOf wsX6_digitOf) := goodIn_app (goodIn_of _ (by decide +kernel)) ggX6_readNumber_X6_digitOf
theorem dX6_readNumber_0 : decode cX6_readNumber 0 = .ok (.iconst 0, 1) := by decide +kernel
theorem dX6_readNumber_1 : decode cX6_readNumber 1 = .ok (.istore_n 2, 1) := by decide +kernel
theorem dX6_readNumber_2 : decode cX6_readNumber 2 = .ok (.iconst 0, 1) := by decide +kernel
theorem dX6_readNumber_3 : decode cX6_readNumber 3 = .ok (.istore_n 3, 1) := by decide +kernel
theorem dX6_readNumber_4 : decode cX6_readNumber 4 = .ok (.iload_n 3, 1) := by decide +kernel
theorem dX6_readNumber_5 : decode cX6_readNumber 5 = .ok (.bipush 60, 2) := by decide +kernel
theorem dX6_readNumber_7 : decode cX6_readNumber 7 = .ok (.if_icmp .ge 84, 3) := by decide +kernel
theorem dX6_readNumber_10 : decode cX6_readNumber 10 = .ok (.aload_n 0, 1) := by decide +kernel
theorem dX6_readNumber_11 : decode cX6_readNumber 11 = .ok (.aload_n 0, 1) := by decide +kernel
theorem dX6_readNumber_12 : decode cX6_readNumber 12 = .ok (.invokevirtual 42, 3) := by decide +kernel
theorem dX6_readNumber_15 : decode cX6_readNumber 15 = .ok (.invokevirtual 60, 3) := by decide +kernel
theorem dX6_readNumber_18 : decode cX6_readNumber 18 = .ok (.istore 4, 2) := by decide +kernel
theorem dX6_readNumber_20 : decode cX6_readNumber 20 = .ok (.iload_n 2, 1) := by decide +kernel
theorem dX6_readNumber_21 : decode cX6_readNumber 21 = .ok (.ifCond .ne 12, 3) := by decide +kernel
theorem dX6_readNumber_24 : decode cX6_readNumber 24 = .ok (.iload 4, 2) := by decide +kernel
theorem dX6_readNumber_26 : decode cX6_readNumber 26 = .ok (.ifCond .ne 7, 3) := by decide +kernel
theorem dX6_readNumber_29 : decode cX6_readNumber 29 = .ok (.iconst 1, 1) := by decide +kernel
theorem dX6_readNumber_30 : decode cX6_readNumber 30 = .ok (.goto 4, 3) := by decide +kernel
theorem dX6_readNumber_33 : decode cX6_readNumber 33 = .ok (.iconst 0, 1) := by decide +kernel
theorem dX6_readNumber_34 : decode cX6_readNumber 34 = .ok (.istore 5, 2) := by decide +kernel
theorem dX6_readNumber_36 : decode cX6_readNumber 36 = .ok (.iload 4, 2) := by decide +kernel
theorem dX6_readNumber_38 : decode cX6_readNumber 38 = .ok (.iconst (-1), 1) := by decide +kernel
theorem dX6_readNumber_39 : decode cX6_readNumber 39 = .ok (.if_icmp .eq 26, 3) := by decide +kernel
theorem dX6_readNumber_42 : decode cX6_readNumber 42 = .ok (.iload 4, 2) := by decide +kernel
theorem dX6_readNumber_44 : decode cX6_readNumber 44 = .ok (.bipush 9, 2) := by decide +kernel
theorem dX6_readNumber_46 : decode cX6_readNumber 46 = .ok (.if_icmp .gt 19, 3) := by decide +kernel
theorem dX6_readNumber_49 : decode cX6_readNumber 49 = .ok (.iload 5, 2) := by decide +kernel
theorem dX6_readNumber_51 : decode cX6_readNumber 51 = .ok (.ifCond .ne 14, 3) := by decide +kernel
theorem dX6_readNumber_54 : decode cX6_readNumber 54 = .ok (.iload_n 2, 1) := by decide +kernel
theorem dX6_readNumber_55 : decode cX6_readNumber 55 = .ok (.bipush 10, 2) := by decide +kernel
theorem dX6_readNumber_57 : decode cX6_readNumber 57 = .ok (.imul, 1) := by decide +kernel
theorem dX6_readNumber_58 : decode cX6_readNumber 58 = .ok (.iload 4, 2) := by decide +kernel
theorem dX6_readNumber_60 : decode cX6_readNumber 60 = .ok (.iadd, 1) := by decide +kernel
theorem dX6_readNumber_61 : decode cX6_readNumber 61 = .ok (.iload_n 1, 1) := by decide +kernel
theorem dX6_readNumber_62 : decode cX6_readNumber 62 = .ok (.if_icmp .le 5, 3) := by decide +kernel
theorem dX6_readNumber_65 : decode cX6_readNumber 65 = .ok (.iload_n 2, 1) := by decide +kernel
theorem dX6_readNumber_66 : decode cX6_readNumber 66 = .ok (.ireturn, 1) := by decide +kernel
theorem dX6_readNumber_67 : decode cX6_readNumber 67 = .ok (.iload_n 2, 1) := by decide +kernel
theorem dX6_readNumber_68 : decode cX6_readNumber 68 = .ok (.bipush 10, 2) := by decide +kernel
theorem dX6_readNumber_70 : decode cX6_readNumber 70 = .ok (.imul, 1) := by decide +kernel
theorem dX6_readNumber_71 : decode cX6_readNumber 71 = .ok (.iload 4, 2) := by decide +kernel
theorem dX6_readNumber_73 : decode cX6_readNumber 73 = .ok (.iadd, 1) := by decide +kernel
theorem dX6_readNumber_74 : decode cX6_readNumber 74 = .ok (.istore_n 2, 1) := by decide +kernel
theorem dX6_readNumber_75 : decode cX6_readNumber 75 = .ok (.aload_n 0, 1) := by decide +kernel
theorem dX6_readNumber_76 : decode cX6_readNumber 76 = .ok (.dup, 1) := by decide +kernel
theorem dX6_readNumber_77 : decode cX6_readNumber 77 = .ok (.getfield 28, 3) := by decide +kernel
theorem dX6_readNumber_80 : decode cX6_readNumber 80 = .ok (.iconst 1, 1) := by decide +kernel
theorem dX6_readNumber_81 : decode cX6_readNumber 81 = .ok (.iadd, 1) := by decide +kernel
theorem dX6_readNumber_82 : decode cX6_readNumber 82 = .ok (.putfield 28, 3) := by decide +kernel
theorem dX6_readNumber_85 : decode cX6_readNumber 85 = .ok (.iinc 3 1, 3) := by decide +kernel
theorem dX6_readNumber_88 : decode cX6_readNumber 88 = .ok (.goto (-84), 3) := by decide +kernel
theorem dX6_readNumber_91 : decode cX6_readNumber 91 = .ok (.iload_n 2, 1) := by decide +kernel
theorem dX6_readNumber_92 : decode cX6_readNumber 92 = .ok (.ireturn, 1) := by decide +kernel
theorem dX6_digitOf_0 : decode cX6_digitOf 0 = .ok (.iload_n 1, 1) := by decide +kernel
theorem dX6_digitOf_1 : decode cX6_digitOf 1 = .ok (.bipush 48, 2) := by decide +kernel
theorem dX6_digitOf_3 : decode cX6_digitOf 3 = .ok (.if_icmp .lt 14, 3) := by decide +kernel
theorem dX6_digitOf_6 : decode cX6_digitOf 6 = .ok (.iload_n 1, 1) := by decide +kernel
theorem dX6_digitOf_7 : decode cX6_digitOf 7 = .ok (.bipush 57, 2) := by decide +kernel
theorem dX6_digitOf_9 : decode cX6_digitOf 9 = .ok (.if_icmp .gt 8, 3) := by decide +kernel
theorem dX6_digitOf_12 : decode cX6_digitOf 12 = .ok (.iload_n 1, 1) := by decide +kernel
theorem dX6_digitOf_13 : decode cX6_digitOf 13 = .ok (.bipush 48, 2) := by decide +kernel
theorem dX6_digitOf_15 : decode cX6_digitOf 15 = .ok (.isub, 1) := by decide +kernel
theorem dX6_digitOf_16 : decode cX6_digitOf 16 = .ok (.ireturn, 1) := by decide +kernel
theorem dX6_digitOf_17 : decode cX6_digitOf 17 = .ok (.iload_n 1, 1) := by decide +kernel
theorem dX6_digitOf_18 : decode cX6_digitOf 18 = .ok (.bipush 97, 2) := by decide +kernel
theorem dX6_digitOf_20 : decode cX6_digitOf 20 = .ok (.if_icmp .lt 17, 3) := by decide +kernel
theorem dX6_digitOf_23 : decode cX6_digitOf 23 = .ok (.iload_n 1, 1) := by decide +kernel
theorem dX6_digitOf_24 : decode cX6_digitOf 24 = .ok (.bipush 102, 2) := by decide +kernel
theorem dX6_digitOf_26 : decode cX6_digitOf 26 = .ok (.if_icmp .gt 11, 3) := by decide +kernel
theorem dX6_digitOf_29 : decode cX6_digitOf 29 = .ok (.iload_n 1, 1) := by decide +kernel
theorem dX6_digitOf_30 : decode cX6_digitOf 30 = .ok (.bipush 97, 2) := by decide +kernel
theorem dX6_digitOf_32 : decode cX6_digitOf 32 = .ok (.isub, 1) := by decide +kernel
theorem dX6_digitOf_33 : decode cX6_digitOf 33 = .ok (.bipush 10, 2) := by decide +kernel
theorem dX6_digitOf_35 : decode cX6_digitOf 35 = .ok (.iadd, 1) := by decide +kernel
theorem dX6_digitOf_36 : decode cX6_digitOf 36 = .ok (.ireturn, 1) := by decide +kernel
theorem dX6_digitOf_37 : decode cX6_digitOf 37 = .ok (.iconst (-1), 1) := by decide +kernel
theorem dX6_digitOf_38 : decode cX6_digitOf 38 = .ok (.ireturn, 1) := by decide +kernel
set_option maxRecDepth 20000 in
theorem ggX7_init_X2_init : GoodIn wsX7_init wsX2_init := goodIn_r _ [21, 22, 2, 3, 23, 24, 25, 26, 27, 28, 29, 30, 31, 32, 33, 34, 35, 36, 37, 38, 39, 40, 41, 42, 43, 44, 45, 46, 47, 48, 49, 50, 51, 52, 53, 54, 55, 56, 57, 58, 59, 60, 61, 62, 63, 64, 6, 65, 66, 67, 68, 69, 70, 71, 72, 73, 74, 75, 76, 77, 78, 79, 80, 81, 82, 83, 84, 85, 86, 87, 88, 89, 90, 91, 106, 107, 108, 109, 110, 111, 112, 113, 114, 115, 116, 117, 133, 134, 135, 136, 137, 138, 139, 140, 141, 142, 143, 144, 145, 146, 147, 148, 149, 150, 151, 152, 153] (by decide +kernel) (by decide +kernel)
set_option maxRecDepth 20000 in
theorem gX7_init_X2_init : GoodIn wsX7_init (wsX2_init) := ggX7_init_X2_init
set_option maxRecDepth 20000 in
theorem ggX7_init_X1_init : GoodIn wsX7_init wsX1_init := goodIn_r _ [94, 95, 2, 3, 96, 97, 5, 6, 98, 20, 21, 22, 23, 24, 25, 26, 27, 28, 29, 30, 31, 32, 33, 34, 35, 36, 37, 38, 39, 40, 41, 42, 43, 44, 45, 46, 47, 48, 49, 50, 51, 52, 53, 54, 55, 56, 57, 58, 59, 60, 61, 62, 63, 64, 65, 66, 67, 68, 69, 70, 71, 72, 73, 74, 75, 76, 77, 78, 79, 80, 81, 82, 83, 84, 85, 86, 87, 88, 89, 90, 91, 124, 125, 106, 107, 108, 109, 110, 111, 112, 113, 114, 115, 116, 117, 133, 134, 135, 136, 137, 138, 139, 140, 141, 142, 143, 144, 145, 146, 147, 148, 149, 150, 151, 152, 153] (by decide +kernel) (by decide +kernel)
set_option maxRecDepth 20000 in
theorem gX7_init_X1_init : GoodIn wsX7_init (wsX1_init) := ggX7_init_X1_init
set_option maxRecDepth 20000 in
theorem ggX7_init_X6_init : GoodIn wsX7_init wsX6_init := goodIn_r _ [100, 101, 2, 3, 23, 102, 103, 104, 105, 126, 127, 128, 129, 130, 131, 132] (by decide +kernel) (by decide +kernel)
set_option maxRecDepth 20000 in
theorem gX7_init_X6_init_n35 : GoodIn wsX7_init (wsX6_init) := ggX7_init_X6_init
