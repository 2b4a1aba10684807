theorem dX7_init_0 : decode cX7_init 0 = .ok (.aload_n 0, 1) := by decide +kernel
theorem dX7_init_1 : decode cX7_init 1 = .ok (.invokespecial 3, 3) := by decide +kernel
theorem dX7_init_4 : decode cX7_init 4 = .ok (.aload_n 0, 1) := by decide +kernel
theorem dX7_init_5 : decode cX7_init 5 = .ok (.new 9, 3) := by decide +kernel
theorem dX7_init_8 : decode cX7_init 8 = .ok (.dup, 1) := by decide +kernel
theorem dX7_init_9 : decode cX7_init 9 = .ok (.invokespecial 11, 3) := by decide +kernel
theorem dX7_init_12 : decode cX7_init 12 = .ok (.putfield 12, 3) := by decide +kernel
theorem dX7_init_15 : decode cX7_init 15 = .ok (.aload_n 0, 1) := by decide +kernel
theorem dX7_init_16 : decode cX7_init 16 = .ok (.new 9, 3) := by decide +kernel
theorem dX7_init_19 : decode cX7_init 19 = .ok (.dup, 1) := by decide +kernel
theorem dX7_init_20 : decode cX7_init 20 = .ok (.invokespecial 11, 3) := by decide +kernel
theorem dX7_init_23 : decode cX7_init 23 = .ok (.putfield 16, 3) := by decide +kernel
theorem dX7_init_26 : decode cX7_init 26 = .ok (.aload_n 0, 1) := by decide +kernel
theorem dX7_init_27 : decode cX7_init 27 = .ok (.new 9, 3) := by decide +kernel
theorem dX7_init_30 : decode cX7_init 30 = .ok (.dup, 1) := by decide +kernel
theorem dX7_init_31 : decode cX7_init 31 = .ok (.invokespecial 11, 3) := by decide +kernel
theorem dX7_init_34 : decode cX7_init 34 = .ok (.putfield 19, 3) := by decide +kernel
theorem dX7_init_37 : decode cX7_init 37 = .ok (.aload_n 0, 1) := by decide +kernel
theorem dX7_init_38 : decode cX7_init 38 = .ok (.iconst 0, 1) := by decide +kernel
theorem dX7_init_39 : decode cX7_init 39 = .ok (.putfield 22, 3) := by decide +kernel
theorem dX7_init_42 : decode cX7_init 42 = .ok (.aload_n 0, 1) := by decide +kernel
theorem dX7_init_43 : decode cX7_init 43 = .ok (.new 26, 3) := by decide +kernel
theorem dX7_init_46 : decode cX7_init 46 = .ok (.dup, 1) := by decide +kernel
theorem dX7_init_47 : decode cX7_init 47 = .ok (.invokespecial 28, 3) := by decide +kernel
theorem dX7_init_50 : decode cX7_init 50 = .ok (.putfield 29, 3) := by decide +kernel
theorem dX7_init_53 : decode cX7_init 53 = .ok (.aload_n 0, 1) := by decide +kernel
theorem dX7_init_54 : decode cX7_init 54 = .ok (.new 33, 3) := by decide +kernel
theorem dX7_init_57 : decode cX7_init 57 = .ok (.dup, 1) := by decide +kernel
theorem dX7_init_58 : decode cX7_init 58 = .ok (.invokespecial 35, 3) := by decide +kernel
theorem dX7_init_61 : decode cX7_init 61 = .ok (.putfield 36, 3) := by decide +kernel
theorem dX7_init_64 : decode cX7_init 64 = .ok (.return_, 1) := by decide +kernel
set_option maxRecDepth 20000 in
theorem ggX7_build_X2_copyFrom : GoodIn wsX7_build wsX2_copyFrom := goodIn_r _ [7, 8, 9, 10, 11, 12, 13, 14, 15, 16, 17, 18, 19, 20, 21, 22, 23, 24, 25, 26, 27, 28, 29, 30, 31, 32, 33, 34, 35, 36, 37, 38, 39, 40, 41, 42, 43, 44, 45, 46, 47, 48, 49, 50, 51, 52, 53, 54, 55, 56, 57, 58, 59, 60, 61, 62, 63, 64, 65, 66, 67, 68, 115, 116, 117, 118, 119, 120, 121, 122, 123, 124, 125, 126, 127, 128, 129, 130, 131, 132, 133, 134, 135, 136, 137, 138, 139, 140, 141, 142, 143, 144, 145, 146, 147] (by decide +kernel) (by decide +kernel)
set_option maxRecDepth 20000 in
theorem gX7_build_X2_copyFrom : GoodIn wsX7_build (wsV RX7 40 RX2 yX2_copyFrom wsX2_copyFrom) := goodIn_app (goodIn_of _ (by decide +kernel)) ggX7_build_X2_copyFrom
set_option maxRecDepth 20000 in
theorem ggX7_build_X2_clearTo : GoodIn wsX7_build wsX2_clearTo := goodIn_r _ [72, 8, 9, 10, 11, 12, 18, 19, 20, 73, 21, 74, 22, 75, 76, 77, 27, 78, 29, 31, 32, 33, 34, 35, 36, 37, 38, 39, 79, 80, 81, 61, 82, 67, 68, 115, 116, 117, 118, 119, 120, 121, 122, 123, 124, 125, 126, 137, 138, 139, 140, 141, 142, 127, 128, 129, 130, 131, 132, 133, 134, 135, 136, 143, 144, 145, 146, 147] (by decide +kernel) (by decide +kernel)
set_option maxRecDepth 20000 in
theorem gX7_build_X2_clearTo : GoodIn wsX7_build (wsV RX7 44 RX2 yX2_clearTo wsX2_clearTo) := goodIn_app (goodIn_of _ (by decide +kernel)) ggX7_build_X2_clearTo
set_option maxRecDepth 20000 in
theorem ggX7_build_X2_fullStages : GoodIn wsX7_build wsX2_fullStages := goodIn_r _ [86, 8, 19, 115, 116, 117, 118, 119, 120, 121, 122, 123, 124, 125, 126] (by decide +kernel) (by decide +kernel)
set_option maxRecDepth 20000 in
theorem gX7_build_X2_fullStages : GoodIn wsX7_build (wsV RX7 48 RX2 yX2_fullStages wsX2_fullStages) := goodIn_app (goodIn_of _ (by decide +kernel)) ggX7_build_X2_fullStages
set_option maxRecDepth 20000 in
theorem ggX7_build_X2_waitingWords : GoodIn wsX7_build wsX2_waitingWords := goodIn_r _ [90, 20, 73, 115, 116, 117, 118, 119, 120, 121, 122, 123, 124, 125, 126, 137, 138] (by decide +kernel) (by decide +kernel)
set_option maxRecDepth 20000 in
theorem gX7_build_X2_waitingWords : GoodIn wsX7_build (wsV RX7 52 RX2 yX2_waitingWords wsX2_waitingWords) := goodIn_app (goodIn_of _ (by decide +kernel)) ggX7_build_X2_waitingWords
set_option maxRecDepth 20000 in
theorem ggX7_build_X7_accept : GoodIn wsX7_build wsX7_accept := goodIn_r _ [95, 96, 2, 1, 97, 98, 99, 100, 101, 102, 103, 104, 105, 106, 107, 108, 4, 5, 6, 7, 8, 9, 10, 11, 12, 13, 14, 15, 16, 17, 18, 19, 20, 21, 22, 23, 24, 25, 26, 27, 28, 29, 30, 31, 32, 33, 34, 35, 36, 37, 38, 39, 40, 41, 42, 43, 44, 45, 46, 47, 48, 49, 50, 51, 52, 53, 54, 55, 56, 57, 58, 59, 60, 61, 62, 63, 64, 65, 66, 67, 68, 3, 109, 110, 111, 112, 113, 114, 148, 149, 115, 116, 117, 118, 119, 120, 121, 122, 123, 124, 125, 126, 127, 128, 129, 130, 131, 132, 133, 134, 135, 136, 137, 138, 139, 140, 141, 142, 143, 144, 145, 146, 147] (by decide +kernel) (by decide +kernel)
set_option maxRecDepth 20000 in
theorem gX7_build_X7_accept : GoodIn wsX7_build (wsV RX7 55 RX7 yX7_accept wsX7_accept) := goodIn_app (goodIn_of _ (by decide +kernel)) ggX7_build_X7_accept
theorem dX7_build_0 : decode cX7_build 0 = .ok (.iload_n 1, 1) := by decide +kernel
theorem dX7_build_1 : decode cX7_build 1 = .ok (.iconst 1, 1) := by decide +kernel
theorem dX7_build_2 : decode cX7_build 2 = .ok (.if_icmp .lt 9, 3) := by decide +kernel
theorem dX7_build_5 : decode cX7_build 5 = .ok (.iload_n 1, 1) := by decide +kernel
theorem dX7_build_6 : decode cX7_build 6 = .ok (.bipush 6, 2) := by decide +kernel
theorem dX7_build_8 : decode cX7_build 8 = .ok (.if_icmp .le 6, 3) := by decide +kernel
theorem dX7_build_11 : decode cX7_build 11 = .ok (.bipush (-2), 2) := by decide +kernel
theorem dX7_build_13 : decode cX7_build 13 = .ok (.ireturn, 1) := by decide +kernel
theorem dX7_build_14 : decode cX7_build 14 = .ok (.aload_n 0, 1) := by decide +kernel
theorem dX7_build_15 : decode cX7_build 15 = .ok (.getfield 16, 3) := by decide +kernel
theorem dX7_build_18 : decode cX7_build 18 = .ok (.aload_n 0, 1) := by decide +kernel
theorem dX7_build_19 : decode cX7_build 19 = .ok (.getfield 12, 3) := by decide +kernel
theorem dX7_build_22 : decode cX7_build 22 = .ok (.invokevirtual 40, 3) := by decide +kernel
theorem dX7_build_25 : decode cX7_build 25 = .ok (.aload_n 0, 1) := by decide +kernel
theorem dX7_build_26 : decode cX7_build 26 = .ok (.getfield 16, 3) := by decide +kernel
theorem dX7_build_29 : decode cX7_build 29 = .ok (.iload_n 1, 1) := by decide +kernel
theorem dX7_build_30 : decode cX7_build 30 = .ok (.invokevirtual 44, 3) := by decide +kernel
theorem dX7_build_33 : decode cX7_build 33 = .ok (.aload_n 0, 1) := by decide +kernel
theorem dX7_build_34 : decode cX7_build 34 = .ok (.aload_n 0, 1) := by decide +kernel
theorem dX7_build_35 : decode cX7_build 35 = .ok (.getfield 12, 3) := by decide +kernel
theorem dX7_build_38 : decode cX7_build 38 = .ok (.invokevirtual 48, 3) := by decide +kernel
theorem dX7_build_41 : decode cX7_build 41 = .ok (.aload_n 0, 1) := by decide +kernel
theorem dX7_build_42 : decode cX7_build 42 = .ok (.getfield 12, 3) := by decide +kernel
theorem dX7_build_45 : decode cX7_build 45 = .ok (.invokevirtual 52, 3) := by decide +kernel
theorem dX7_build_48 : decode cX7_build 48 = .ok (.iadd, 1) := by decide +kernel
theorem dX7_build_49 : decode cX7_build 49 = .ok (.invokevirtual 55, 3) := by decide +kernel
theorem dX7_build_52 : decode cX7_build 52 = .ok (.ireturn, 1) := by decide +kernel
set_option maxRecDepth 20000 in
theorem ggX7_add_X2_copyFrom : GoodIn wsX7_add wsX2_copyFrom := goodIn_r _ [7, 8, 9, 10, 11, 12, 13, 14, 15, 16, 17, 18, 19, 20, 21, 22, 23, 24, 25, 26, 27, 28, 29, 30, 31, 32, 33, 34, 35, 36, 37, 38, 39, 40, 41, 42, 43, 44, 45, 46, 47, 48, 49, 50, 51, 52, 53, 54, 55, 56, 57, 58, 59, 60, 61, 62, 63, 64, 65, 66, 67, 68, 131, 132, 133, 134, 135, 136, 137, 138, 139, 140, 141, 142, 143, 144, 145, 146, 147, 148, 149, 150, 151, 152, 153, 154, 155, 156, 157, 158, 159, 160, 161, 162, 163] (by decide +kernel) (by decide +kernel)
set_option maxRecDepth 20000 in
theorem gX7_add_X2_copyFrom : GoodIn wsX7_add (wsV RX7 40 RX2 yX2_copyFrom wsX2_copyFrom) := goodIn_app (goodIn_of _ (by decide +kernel)) ggX7_add_X2_copyFrom
set_option maxRecDepth 20000 in
theorem ggX7_add_X2_addWord : GoodIn wsX7_add wsX2_addWord := goodIn_r _ [72, 20, 73, 18, 74, 75, 76, 77, 43, 78, 45, 46, 79, 80, 81, 6, 82, 10, 23, 11, 83, 84, 85, 86, 13, 87, 88, 89, 90, 91, 92, 93, 94, 95, 21, 9, 96, 97, 98, 99, 100, 51, 101, 54, 55, 53, 57, 102, 103, 104, 105, 106, 131, 132, 133, 134, 135, 136, 137, 138, 139, 140, 141, 142, 153, 154, 143, 144, 145, 146, 147, 148, 149, 150, 151, 152, 155, 156, 157, 158] (by decide +kernel) (by decide +kernel)
set_option maxRecDepth 20000 in
theorem gX7_add_X2_addWord : GoodIn wsX7_add (wsV RX7 59 RX2 yX2_addWord wsX2_addWord) := goodIn_app (goodIn_of _ (by decide +kernel)) ggX7_add_X2_addWord
set_option maxRecDepth 20000 in
theorem ggX7_add_X7_accept : GoodIn wsX7_add wsX7_accept := goodIn_r _ [111, 112, 2, 1, 113, 114, 115, 116, 117, 118, 119, 120, 121, 122, 123, 124, 4, 5, 6, 7, 8, 9, 10, 11, 12, 13, 14, 15, 16, 17, 18, 19, 20, 21, 22, 23, 24, 25, 26, 27, 28, 29, 30, 31, 32, 33, 34, 35, 36, 37, 38, 39, 40, 41, 42, 43, 44, 45, 46, 47, 48, 49, 50, 51, 52, 53, 54, 55, 56, 57, 58, 59, 60, 61, 62, 63, 64, 65, 66, 67, 68, 3, 125, 126, 127, 128, 129, 130, 164, 165, 131, 132, 133, 134, 135, 136, 137, 138, 139, 140, 141, 142, 143, 144, 145, 146, 147, 148, 149, 150, 151, 152, 153, 154, 155, 156, 157, 158, 159, 160, 161, 162, 163] (by decide +kernel) (by decide +kernel)
set_option maxRecDepth 20000 in
theorem gX7_add_X7_accept : GoodIn wsX7_add (wsV RX7 55 RX7 yX7_accept wsX7_accept) := goodIn_app (goodIn_of _ (by decide +kernel)) ggX7_add_X7_accept
theorem dX7_add_0 : decode cX7_add 0 = .ok (.aload_n 0, 1) := by decide +kernel
theorem dX7_add_1 : decode cX7_add 1 = .ok (.getfield 16, 3) := by decide +kernel
theorem dX7_add_4 : decode cX7_add 4 = .ok (.aload_n 0, 1) := by decide +kernel
theorem dX7_add_5 : decode cX7_add 5 = .ok (.getfield 12, 3) := by decide +kernel
theorem dX7_add_8 : decode cX7_add 8 = .ok (.invokevirtual 40, 3) := by decide +kernel
theorem dX7_add_11 : decode cX7_add 11 = .ok (.aload_n 0, 1) := by decide +kernel
theorem dX7_add_12 : decode cX7_add 12 = .ok (.aload_n 0, 1) := by decide +kernel
theorem dX7_add_13 : decode cX7_add 13 = .ok (.getfield 16, 3) := by decide +kernel
theorem dX7_add_16 : decode cX7_add 16 = .ok (.iload_n 1, 1) := by decide +kernel
theorem dX7_add_17 : decode cX7_add 17 = .ok (.iload_n 2, 1) := by decide +kernel
theorem dX7_add_18 : decode cX7_add 18 = .ok (.invokevirtual 59, 3) := by decide +kernel
theorem dX7_add_21 : decode cX7_add 21 = .ok (.invokevirtual 55, 3) := by decide +kernel
theorem dX7_add_24 : decode cX7_add 24 = .ok (.ireturn, 1) := by decide +kernel
set_option maxRecDepth 20000 in
theorem ggX7_run_X2_copyFrom : GoodIn wsX7_run wsX2_copyFrom := goodIn_r _ [7, 8, 9, 10, 11, 12, 13, 14, 15, 16, 17, 18, 19, 20, 21, 22, 23, 24, 25, 26, 27, 28, 29, 30, 31, 32, 33, 34, 35, 36, 37, 38, 39, 40, 41, 42, 43, 44, 45, 46, 47, 48, 49, 50, 51, 52, 53, 54, 55, 56, 57, 58, 59, 60, 61, 62, 63, 64, 65, 66, 67, 68, 191, 192, 193, 194, 195, 196, 197, 198, 199, 200, 201, 202, 203, 204, 205, 206, 207, 208, 209, 210, 211, 212, 213, 214, 215, 216, 217, 218, 219, 220, 221, 222, 223] (by decide +kernel) (by decide +kernel)
set_option maxRecDepth 20000 in
theorem gX7_run_X2_copyFrom : GoodIn wsX7_run (wsV RX7 40 RX2 yX2_copyFrom wsX2_copyFrom) := goodIn_app (goodIn_of _ (by decide +kernel)) ggX7_run_X2_copyFrom
set_option maxRecDepth 20000 in
theorem ggX7_run_X2_passTicks : GoodIn wsX7_run wsX2_passTicks := goodIn_r _ [72, 9, 73, 22, 74, 75, 76, 77, 6, 78, 21, 12, 18, 79, 80, 81, 82, 83, 84, 85, 86, 87, 51, 88, 55, 53, 89, 90, 91, 92, 57, 93, 94, 95, 96, 97, 98, 99, 100, 101, 102, 103, 104, 54, 105, 106, 107, 108, 8, 109, 110, 111, 112, 113, 13, 19, 114, 115, 116, 117, 118, 119, 120, 121, 122, 123, 124, 125, 126, 127, 128, 129, 23, 130, 131, 132, 61, 133, 67, 63, 65, 66, 68, 134, 135, 136, 137, 138, 139, 140, 141, 142, 143, 144, 145, 146, 147, 148, 149, 150, 151, 152, 153, 154, 155, 156, 157, 20, 10, 11, 158, 159, 160, 161, 162, 163, 164, 165, 43, 166, 45, 46, 191, 192, 193, 194, 195, 196, 197, 198, 199, 200, 201, 202, 219, 220, 221, 222, 223, 203, 204, 205, 206, 207, 208, 209, 210, 211, 212, 215, 216, 217, 218, 213, 214] (by decide +kernel) (by decide +kernel)
set_option maxRecDepth 20000 in
theorem gX7_run_X2_passTicks : GoodIn wsX7_run (wsV RX7 63 RX2 yX2_passTicks wsX2_passTicks) := goodIn_app (goodIn_of _ (by decide +kernel)) ggX7_run_X2_passTicks
set_option maxRecDepth 20000 in
theorem ggX7_run_X7_accept : GoodIn wsX7_run wsX7_accept := goodIn_r _ [171, 172, 2, 1, 173, 174, 175, 176, 177, 178, 179, 180, 181, 182, 183, 184, 4, 5, 6, 7, 8, 9, 10, 11, 12, 13, 14, 15, 16, 17, 18, 19, 20, 21, 22, 23, 24, 25, 26, 27, 28, 29, 30, 31, 32, 33, 34, 35, 36, 37, 38, 39, 40, 41, 42, 43, 44, 45, 46, 47, 48, 49, 50, 51, 52, 53, 54, 55, 56, 57, 58, 59, 60, 61, 62, 63, 64, 65, 66, 67, 68, 3, 185, 186, 187, 188, 189, 190, 224, 225, 191, 192, 193, 194, 195, 196, 197, 198, 199, 200, 201, 202, 203, 204, 205, 206, 207, 208, 209, 210, 211, 212, 213, 214, 215, 216, 217, 218, 219, 220, 221, 222, 223] (by decide +kernel) (by decide +kernel)
set_option maxRecDepth 20000 in
theorem gX7_run_X7_accept : GoodIn wsX7_run (wsV RX7 55 RX7 yX7_accept wsX7_accept) := goodIn_app (goodIn_of _ (by decide +kernel)) ggX7_run_X7_accept
theorem dX7_run_0 : decode cX7_run 0 = .ok (.aload_n 0, 1) := by decide +kernel
theorem dX7_run_1 : decode cX7_run 1 = .ok (.getfield 16, 3) := by decide +kernel
theorem dX7_run_4 : decode cX7_run 4 = .ok (.aload_n 0, 1) := by decide +kernel
theorem dX7_run_5 : decode cX7_run 5 = .ok (.getfield 12, 3) := by decide +kernel
theorem dX7_run_8 : decode cX7_run 8 = .ok (.invokevirtual 40, 3) := by decide +kernel
theorem dX7_run_11 : decode cX7_run 11 = .ok (.aload_n 0, 1) := by decide +kernel
theorem dX7_run_12 : decode cX7_run 12 = .ok (.aload_n 0, 1) := by decide +kernel
theorem dX7_run_13 : decode cX7_run 13 = .ok (.getfield 16, 3) := by decide +kernel
theorem dX7_run_16 : decode cX7_run 16 = .ok (.iload_n 1, 1) := by decide +kernel
theorem dX7_run_17 : decode cX7_run 17 = .ok (.invokevirtual 63, 3) := by decide +kernel
theorem dX7_run_20 : decode cX7_run 20 = .ok (.invokevirtual 55, 3) := by decide +kernel
theorem dX7_run_23 : decode cX7_run 23 = .ok (.ireturn, 1) := by decide +kernel
set_option maxRecDepth 20000 in
theorem ggX7_finish_X2_isQuiet : GoodIn wsX7_finish wsX2_isQuiet := goodIn_r _ [10, 11, 12, 191, 192, 193, 194, 195, 196, 197, 198, 199, 200, 201, 202, 203, 204, 205, 206] (by decide +kernel) (by decide +kernel)
set_option maxRecDepth 20000 in
theorem gX7_finish_X2_isQuiet : GoodIn wsX7_finish (wsV RX7 66 RX2 yX2_isQuiet wsX2_isQuiet) := goodIn_app (goodIn_of _ (by decide +kernel)) ggX7_finish_X2_isQuiet
set_option maxRecDepth 20000 in
theorem ggX7_finish_X2_copyFrom : GoodIn wsX7_finish wsX2_copyFrom := goodIn_r _ [16, 17, 18, 19, 20, 21, 22, 23, 24, 25, 26, 27, 28, 29, 11, 30, 31, 32, 33, 34, 35, 36, 37, 38, 39, 40, 41, 42, 43, 44, 45, 46, 47, 48, 49, 50, 51, 52, 53, 54, 55, 56, 57, 58, 59, 60, 61, 62, 63, 64, 65, 66, 67, 68, 69, 70, 71, 72, 73, 74, 75, 76, 191, 192, 193, 194, 195, 196, 197, 198, 199, 200, 201, 202, 207, 208, 209, 210, 211, 212, 213, 214, 215, 216, 217, 218, 203, 204, 205, 206, 219, 220, 221, 222, 223] (by decide +kernel) (by decide +kernel)
set_option maxRecDepth 20000 in
theorem gX7_finish_X2_copyFrom : GoodIn wsX7_finish (wsV RX7 40 RX2 yX2_copyFrom wsX2_copyFrom) := goodIn_app (goodIn_of _ (by decide +kernel)) ggX7_finish_X2_copyFrom
set_option maxRecDepth 20000 in
theorem ggX7_finish_X2_letArriveUpTo : GoodIn wsX7_finish wsX2_letArriveUpTo := goodIn_r _ [80, 81, 11, 18, 21, 27, 82, 83, 7, 8, 9, 10, 12, 84, 85, 86, 59, 87, 63, 61, 88, 89, 90, 91, 65, 92, 93, 94, 95, 96, 97, 98, 99, 100, 101, 102, 103, 62, 104, 105, 106, 107, 17, 108, 109, 110, 111, 112, 22, 28, 113, 114, 115, 116, 117, 118, 119, 120, 121, 122, 123, 124, 125, 126, 127, 128, 31, 30, 129, 130, 131, 132, 69, 133, 75, 71, 73, 74, 76, 134, 135, 136, 137, 138, 139, 140, 141, 142, 143, 144, 145, 146, 147, 148, 149, 150, 151, 152, 153, 154, 155, 156, 157, 29, 19, 20, 158, 159, 160, 161, 162, 163, 164, 165, 51, 166, 53, 54, 191, 192, 193, 194, 195, 196, 197, 198, 199, 200, 201, 202, 207, 208, 209, 210, 211, 212, 213, 214, 215, 216, 203, 204, 205, 206, 219, 220, 221, 222, 223, 217, 218] (by decide +kernel) (by decide +kernel)
set_option maxRecDepth 20000 in
theorem gX7_finish_X2_letArriveUpTo : GoodIn wsX7_finish (wsV RX7 71 RX2 yX2_letArriveUpTo wsX2_letArriveUpTo) := goodIn_app (goodIn_of _ (by decide +kernel)) ggX7_finish_X2_letArriveUpTo
set_option maxRecDepth 20000 in
theorem ggX7_finish_X7_accept : GoodIn wsX7_finish wsX7_accept := goodIn_r _ [171, 172, 1, 2, 173, 174, 175, 176, 177, 178, 179, 180, 181, 182, 183, 184, 14, 15, 9, 16, 17, 18, 19, 20, 21, 22, 23, 24, 25, 26, 27, 28, 29, 11, 30, 31, 32, 33, 34, 35, 36, 37, 38, 39, 40, 41, 42, 43, 44, 45, 46, 47, 48, 49, 50, 51, 52, 53, 54, 55, 56, 57, 58, 59, 60, 61, 62, 63, 64, 65, 66, 67, 68, 69, 70, 71, 72, 73, 74, 75, 76, 13, 185, 186, 187, 188, 189, 190, 224, 225, 191, 192, 193, 194, 195, 196, 197, 198, 199, 200, 201, 202, 207, 208, 209, 210, 211, 212, 213, 214, 215, 216, 217, 218, 203, 204, 205, 206, 219, 220, 221, 222, 223] (by decide +kernel) (by decide +kernel)
set_option maxRecDepth 20000 in
theorem gX7_finish_X7_accept : GoodIn wsX7_finish (wsV RX7 55 RX7 yX7_accept wsX7_accept) := goodIn_app (goodIn_of _ (by decide +kernel)) ggX7_finish_X7_accept
theorem dX7_finish_0 : decode cX7_finish 0 = .ok (.aload_n 0, 1) := by decide +kernel
theorem dX7_finish_1 : decode cX7_finish 1 = .ok (.getfield 12, 3) := by decide +kernel
theorem dX7_finish_4 : decode cX7_finish 4 = .ok (.invokevirtual 66, 3) := by decide +kernel
theorem dX7_finish_7 : decode cX7_finish 7 = .ok (.ifCond .eq 6, 3) := by decide +kernel
theorem dX7_finish_10 : decode cX7_finish 10 = .ok (.bipush (-5), 2) := by decide +kernel
theorem dX7_finish_12 : decode cX7_finish 12 = .ok (.ireturn, 1) := by decide +kernel
theorem dX7_finish_13 : decode cX7_finish 13 = .ok (.aload_n 0, 1) := by decide +kernel
theorem dX7_finish_14 : decode cX7_finish 14 = .ok (.getfield 16, 3) := by decide +kernel
theorem dX7_finish_17 : decode cX7_finish 17 = .ok (.aload_n 0, 1) := by decide +kernel
theorem dX7_finish_18 : decode cX7_finish 18 = .ok (.getfield 12, 3) := by decide +kernel
theorem dX7_finish_21 : decode cX7_finish 21 = .ok (.invokevirtual 40, 3) := by decide +kernel
theorem dX7_finish_24 : decode cX7_finish 24 = .ok (.aload_n 0, 1) := by decide +kernel
theorem dX7_finish_25 : decode cX7_finish 25 = .ok (.getfield 16, 3) := by decide +kernel
theorem dX7_finish_28 : decode cX7_finish 28 = .ok (.ldc 70, 2) := by decide +kernel
theorem dX7_finish_30 : decode cX7_finish 30 = .ok (.invokevirtual 71, 3) := by decide +kernel
theorem dX7_finish_33 : decode cX7_finish 33 = .ok (.aload_n 0, 1) := by decide +kernel
theorem dX7_finish_34 : decode cX7_finish 34 = .ok (.getfield 16, 3) := by decide +kernel
theorem dX7_finish_37 : decode cX7_finish 37 = .ok (.getfield 74, 3) := by decide +kernel
theorem dX7_finish_40 : decode cX7_finish 40 = .ok (.ldc 78, 2) := by decide +kernel
theorem dX7_finish_42 : decode cX7_finish 42 = .ok (.if_icmp .le 6, 3) := by decide +kernel
theorem dX7_finish_45 : decode cX7_finish 45 = .ok (.bipush (-3), 2) := by decide +kernel
theorem dX7_finish_47 : decode cX7_finish 47 = .ok (.ireturn, 1) := by decide +kernel
theorem dX7_finish_48 : decode cX7_finish 48 = .ok (.aload_n 0, 1) := by decide +kernel
theorem dX7_finish_49 : decode cX7_finish 49 = .ok (.aload_n 0, 1) := by decide +kernel
theorem dX7_finish_50 : decode cX7_finish 50 = .ok (.getfield 16, 3) := by decide +kernel
theorem dX7_finish_53 : decode cX7_finish 53 = .ok (.getfield 74, 3) := by decide +kernel
theorem dX7_finish_56 : decode cX7_finish 56 = .ok (.aload_n 0, 1) := by decide +kernel
theorem dX7_finish_57 : decode cX7_finish 57 = .ok (.getfield 12, 3) := by decide +kernel
theorem dX7_finish_60 : decode cX7_finish 60 = .ok (.getfield 74, 3) := by decide +kernel
theorem dX7_finish_63 : decode cX7_finish 63 = .ok (.isub, 1) := by decide +kernel
theorem dX7_finish_64 : decode cX7_finish 64 = .ok (.invokevirtual 55, 3) := by decide +kernel
theorem dX7_finish_67 : decode cX7_finish 67 = .ok (.ireturn, 1) := by decide +kernel
set_option maxRecDepth 20000 in
theorem ggX7_setDelay_X2_copyFrom : GoodIn wsX7_setDelay wsX2_copyFrom := goodIn_r _ [7, 8, 9, 10, 11, 12, 13, 14, 15, 16, 17, 18, 19, 20, 21, 22, 23, 24, 25, 26, 27, 28, 29, 30, 31, 32, 33, 34, 35, 36, 37, 38, 39, 40, 41, 42, 43, 44, 45, 46, 47, 48, 49, 50, 51, 52, 53, 54, 55, 56, 57, 58, 59, 60, 61, 62, 63, 64, 65, 66, 67, 68, 102, 103, 104, 105, 106, 107, 108, 109, 110, 111, 112, 113, 114, 115, 116, 117, 118, 119, 120, 121, 122, 123, 124, 125, 126, 127, 128, 129, 130, 131, 132, 133, 134] (by decide +kernel) (by decide +kernel)
set_option maxRecDepth 20000 in
theorem gX7_setDelay_X2_copyFrom : GoodIn wsX7_setDelay (wsV RX7 40 RX2 yX2_copyFrom wsX2_copyFrom) := goodIn_app (goodIn_of _ (by decide +kernel)) ggX7_setDelay_X2_copyFrom
set_option maxRecDepth 20000 in
theorem ggX7_setDelay_X2_changeDelay : GoodIn wsX7_setDelay wsX2_changeDelay := goodIn_r _ [72, 18, 73, 74, 75, 76, 6, 77, 8, 102, 103, 104, 105, 106, 107, 108, 109, 110, 111, 112, 113, 114, 115, 116, 117, 118, 119, 120, 121, 122, 123] (by decide +kernel) (by decide +kernel)
set_option maxRecDepth 20000 in
theorem gX7_setDelay_X2_changeDelay : GoodIn wsX7_setDelay (wsV RX7 79 RX2 yX2_changeDelay wsX2_changeDelay) := goodIn_app (goodIn_of _ (by decide +kernel)) ggX7_setDelay_X2_changeDelay
set_option maxRecDepth 20000 in
theorem ggX7_setDelay_X7_accept : GoodIn wsX7_setDelay wsX7_accept := goodIn_r _ [82, 83, 2, 1, 84, 85, 86, 87, 88, 89, 90, 91, 92, 93, 94, 95, 4, 5, 6, 7, 8, 9, 10, 11, 12, 13, 14, 15, 16, 17, 18, 19, 20, 21, 22, 23, 24, 25, 26, 27, 28, 29, 30, 31, 32, 33, 34, 35, 36, 37, 38, 39, 40, 41, 42, 43, 44, 45, 46, 47, 48, 49, 50, 51, 52, 53, 54, 55, 56, 57, 58, 59, 60, 61, 62, 63, 64, 65, 66, 67, 68, 3, 96, 97, 98, 99, 100, 101, 135, 136, 102, 103, 104, 105, 106, 107, 108, 109, 110, 111, 112, 113, 114, 115, 116, 117, 118, 119, 120, 121, 122, 123, 124, 125, 126, 127, 128, 129, 130, 131, 132, 133, 134] (by decide +kernel) (by decide +kernel)
set_option maxRecDepth 20000 in
theorem gX7_setDelay_X7_accept : GoodIn wsX7_setDelay (wsV RX7 55 RX7 yX7_accept wsX7_accept) := goodIn_app (goodIn_of _ (by decide +kernel)) ggX7_setDelay_X7_accept
theorem dX7_setDelay_0 : decode cX7_setDelay 0 = .ok (.aload_n 0, 1) := by decide +kernel
theorem dX7_setDelay_1 : decode cX7_setDelay 1 = .ok (.getfield 16, 3) := by decide +kernel
theorem dX7_setDelay_4 : decode cX7_setDelay 4 = .ok (.aload_n 0, 1) := by decide +kernel
theorem dX7_setDelay_5 : decode cX7_setDelay 5 = .ok (.getfield 12, 3) := by decide +kernel
theorem dX7_setDelay_8 : decode cX7_setDelay 8 = .ok (.invokevirtual 40, 3) := by decide +kernel
theorem dX7_setDelay_11 : decode cX7_setDelay 11 = .ok (.aload_n 0, 1) := by decide +kernel
theorem dX7_setDelay_12 : decode cX7_setDelay 12 = .ok (.aload_n 0, 1) := by decide +kernel
theorem dX7_setDelay_13 : decode cX7_setDelay 13 = .ok (.getfield 16, 3) := by decide +kernel
theorem dX7_setDelay_16 : decode cX7_setDelay 16 = .ok (.iload_n 1, 1) := by decide +kernel
theorem dX7_setDelay_17 : decode cX7_setDelay 17 = .ok (.iload_n 2, 1) := by decide +kernel
theorem dX7_setDelay_18 : decode cX7_setDelay 18 = .ok (.iload_n 3, 1) := by decide +kernel
theorem dX7_setDelay_19 : decode cX7_setDelay 19 = .ok (.invokevirtual 79, 3) := by decide +kernel
theorem dX7_setDelay_22 : decode cX7_setDelay 22 = .ok (.invokevirtual 55, 3) := by decide +kernel
theorem dX7_setDelay_25 : decode cX7_setDelay 25 = .ok (.ireturn, 1) := by decide +kernel
set_option maxRecDepth 20000 in
theorem ggX7_set_X2_copyFrom : GoodIn wsX7_set wsX2_copyFrom := goodIn_r _ [8, 9, 10, 11, 12, 13, 14, 15, 16, 17, 18, 19, 20, 21, 22, 23, 24, 25, 26, 27, 28, 29, 30, 31, 32, 33, 34, 35, 36, 37, 38, 39, 40, 41, 42, 43, 44, 45, 46, 47, 48, 49, 50, 51, 52, 53, 54, 55, 56, 57, 58, 59, 60, 61, 62, 63, 64, 65, 66, 67, 68, 69, 94, 95, 96, 97, 98, 99, 100, 101, 102, 103, 104, 105, 106, 107, 108, 109, 110, 111, 112, 113, 114, 115, 116, 117, 118, 119, 120, 121, 122, 123, 124, 125, 126] (by decide +kernel) (by decide +kernel)
set_option maxRecDepth 20000 in
theorem gX7_set_X2_copyFrom : GoodIn wsX7_set (wsV RX7 40 RX2 yX2_copyFrom wsX2_copyFrom) := goodIn_app (goodIn_of _ (by decide +kernel)) ggX7_set_X2_copyFrom
set_option maxRecDepth 20000 in
theorem ggX7_set_X7_accept : GoodIn wsX7_set wsX7_accept := goodIn_r _ [74, 75, 1, 3, 76, 77, 78, 79, 80, 81, 82, 83, 84, 85, 86, 87, 5, 6, 7, 8, 9, 10, 11, 12, 13, 14, 15, 16, 17, 18, 19, 20, 21, 22, 23, 24, 25, 26, 27, 28, 29, 30, 31, 32, 33, 34, 35, 36, 37, 38, 39, 40, 41, 42, 43, 44, 45, 46, 47, 48, 49, 50, 51, 52, 53, 54, 55, 56, 57, 58, 59, 60, 61, 62, 63, 64, 65, 66, 67, 68, 69, 4, 88, 89, 90, 91, 92, 93, 127, 128, 94, 95, 96, 97, 98, 99, 100, 101, 102, 103, 104, 105, 106, 107, 108, 109, 110, 111, 112, 113, 114, 115, 116, 117, 118, 119, 120, 121, 122, 123, 124, 125, 126] (by decide +kernel) (by decide +kernel)
set_option maxRecDepth 20000 in
theorem gX7_set_X7_accept : GoodIn wsX7_set (wsV RX7 55 RX7 yX7_accept wsX7_accept) := goodIn_app (goodIn_of _ (by decide +kernel)) ggX7_set_X7_accept
theorem dX7_set_0 : decode cX7_set 0 = .ok (.iload_n 1, 1) := by decide +kernel
theorem dX7_set_1 : decode cX7_set 1 = .ok (.ifCond .lt 8, 3) := by decide +kernel
theorem dX7_set_4 : decode cX7_set 4 = .ok (.iload_n 1, 1) := by decide +kernel
theorem dX7_set_5 : decode cX7_set 5 = .ok (.iconst 3, 1) := by decide +kernel
theorem dX7_set_6 : decode cX7_set 6 = .ok (.if_icmp .lt 5, 3) := by decide +kernel
theorem dX7_set_9 : decode cX7_set 9 = .ok (.iconst (-1), 1) := by decide +kernel
theorem dX7_set_10 : decode cX7_set 10 = .ok (.ireturn, 1) := by decide +kernel
theorem dX7_set_11 : decode cX7_set 11 = .ok (.iload_n 1, 1) := by decide +kernel
theorem dX7_set_12 : decode cX7_set 12 = .ok (.iconst 2, 1) := by decide +kernel
theorem dX7_set_13 : decode cX7_set 13 = .ok (.if_icmp .ne 7, 3) := by decide +kernel
theorem dX7_set_16 : decode cX7_set 16 = .ok (.iconst 1, 1) := by decide +kernel
theorem dX7_set_17 : decode cX7_set 17 = .ok (.goto 5, 3) := by decide +kernel
theorem dX7_set_20 : decode cX7_set 20 = .ok (.bipush 20, 2) := by decide +kernel
theorem dX7_set_22 : decode cX7_set 22 = .ok (.istore_n 3, 1) := by decide +kernel
theorem dX7_set_23 : decode cX7_set 23 = .ok (.iload_n 2, 1) := by decide +kernel
theorem dX7_set_24 : decode cX7_set 24 = .ok (.ifCond .lt 8, 3) := by decide +kernel
theorem dX7_set_27 : decode cX7_set 27 = .ok (.iload_n 2, 1) := by decide +kernel
theorem dX7_set_28 : decode cX7_set 28 = .ok (.iload_n 3, 1) := by decide +kernel
theorem dX7_set_29 : decode cX7_set 29 = .ok (.if_icmp .le 6, 3) := by decide +kernel
theorem dX7_set_32 : decode cX7_set 32 = .ok (.bipush (-2), 2) := by decide +kernel
theorem dX7_set_34 : decode cX7_set 34 = .ok (.ireturn, 1) := by decide +kernel
theorem dX7_set_35 : decode cX7_set 35 = .ok (.aload_n 0, 1) := by decide +kernel
theorem dX7_set_36 : decode cX7_set 36 = .ok (.getfield 12, 3) := by decide +kernel
theorem dX7_set_39 : decode cX7_set 39 = .ok (.getfield 83, 3) := by decide +kernel
theorem dX7_set_42 : decode cX7_set 42 = .ok (.iload_n 1, 1) := by decide +kernel
theorem dX7_set_43 : decode cX7_set 43 = .ok (.iaload, 1) := by decide +kernel
theorem dX7_set_44 : decode cX7_set 44 = .ok (.istore 4, 2) := by decide +kernel
theorem dX7_set_46 : decode cX7_set 46 = .ok (.iload 4, 2) := by decide +kernel
theorem dX7_set_48 : decode cX7_set 48 = .ok (.iload_n 2, 1) := by decide +kernel
theorem dX7_set_49 : decode cX7_set 49 = .ok (.if_icmp .ne 6, 3) := by decide +kernel
theorem dX7_set_52 : decode cX7_set 52 = .ok (.bipush (-5), 2) := by decide +kernel
theorem dX7_set_54 : decode cX7_set 54 = .ok (.ireturn, 1) := by decide +kernel
theorem dX7_set_55 : decode cX7_set 55 = .ok (.aload_n 0, 1) := by decide +kernel
theorem dX7_set_56 : decode cX7_set 56 = .ok (.getfield 16, 3) := by decide +kernel
theorem dX7_set_59 : decode cX7_set 59 = .ok (.aload_n 0, 1) := by decide +kernel
theorem dX7_set_60 : decode cX7_set 60 = .ok (.getfield 12, 3) := by decide +kernel
theorem dX7_set_63 : decode cX7_set 63 = .ok (.invokevirtual 40, 3) := by decide +kernel
theorem dX7_set_66 : decode cX7_set 66 = .ok (.aload_n 0, 1) := by decide +kernel
theorem dX7_set_67 : decode cX7_set 67 = .ok (.getfield 16, 3) := by decide +kernel
theorem dX7_set_70 : decode cX7_set 70 = .ok (.getfield 83, 3) := by decide +kernel
theorem dX7_set_73 : decode cX7_set 73 = .ok (.iload_n 1, 1) := by decide +kernel
theorem dX7_set_74 : decode cX7_set 74 = .ok (.iload_n 2, 1) := by decide +kernel
theorem dX7_set_75 : decode cX7_set 75 = .ok (.iastore, 1) := by decide +kernel
theorem dX7_set_76 : decode cX7_set 76 = .ok (.aload_n 0, 1) := by decide +kernel
theorem dX7_set_77 : decode cX7_set 77 = .ok (.iload 4, 2) := by decide +kernel
theorem dX7_set_79 : decode cX7_set 79 = .ok (.invokevirtual 55, 3) := by decide +kernel
theorem dX7_set_82 : decode cX7_set 82 = .ok (.ireturn, 1) := by decide +kernel
set_option maxRecDepth 20000 in
theorem ggX7_type_X6_append : GoodIn wsX7_type wsX6_append := goodIn_r _ [6, 7, 8, 15, 16, 17, 18, 19, 20, 21] (by decide +kernel) (by decide +kernel)
set_option maxRecDepth 20000 in
theorem gX7_type_X6_append : GoodIn wsX7_type (wsV RX7 87 RX6 yX6_append wsX6_append) := goodIn_app (goodIn_of _ (by decide +kernel)) ggX7_type_X6_append
theorem dX7_type_0 : decode cX7_type 0 = .ok (.aload_n 0, 1) := by decide +kernel
theorem dX7_type_1 : decode cX7_type 1 = .ok (.getfield 36, 3) := by decide +kernel
theorem dX7_type_4 : decode cX7_type 4 = .ok (.iload_n 1, 1) := by decide +kernel
theorem dX7_type_5 : decode cX7_type 5 = .ok (.invokevirtual 87, 3) := by decide +kernel
theorem dX7_type_8 : decode cX7_type 8 = .ok (.ireturn, 1) := by decide +kernel
theorem dX7_clearText_0 : decode cX7_clearText 0 = .ok (.aload_n 0, 1) := by decide +kernel
theorem dX7_clearText_1 : decode cX7_clearText 1 = .ok (.getfield 36, 3) := by decide +kernel
theorem dX7_clearText_4 : decode cX7_clearText 4 = .ok (.getfield 91, 3) := by decide +kernel
theorem dX7_clearText_7 : decode cX7_clearText 7 = .ok (.istore_n 1, 1) := by decide +kernel
theorem dX7_clearText_8 : decode cX7_clearText 8 = .ok (.aload_n 0, 1) := by decide +kernel
theorem dX7_clearText_9 : decode cX7_clearText 9 = .ok (.getfield 36, 3) := by decide +kernel
theorem dX7_clearText_12 : decode cX7_clearText 12 = .ok (.iconst 0, 1) := by decide +kernel
theorem dX7_clearText_13 : decode cX7_clearText 13 = .ok (.putfield 91, 3) := by decide +kernel
theorem dX7_clearText_16 : decode cX7_clearText 16 = .ok (.iload_n 1, 1) := by decide +kernel
theorem dX7_clearText_17 : decode cX7_clearText 17 = .ok (.ireturn, 1) := by decide +kernel
set_option maxRecDepth 20000 in
theorem ggX7_perform_X6_readOrders : GoodIn wsX7_perform wsX6_readOrders := goodIn_r _ [12, 13, 14, 15, 16, 17, 18, 11, 19, 20, 21, 22, 23, 24, 25, 26, 27, 28, 29, 30, 31, 32, 33, 34, 35, 36, 37, 38, 39, 40, 41, 42, 43, 44, 45, 46, 47, 48, 49, 50, 51, 252, 253, 254, 255, 256, 257, 258] (by decide +kernel) (by decide +kernel)
set_option maxRecDepth 20000 in
theorem gX7_perform_X6_readOrders : GoodIn wsX7_perform (wsV RX7 94 RX6 yX6_readOrders wsX6_readOrders) := goodIn_app (goodIn_of _ (by decide +kernel)) ggX7_perform_X6_readOrders
set_option maxRecDepth 20000 in
theorem ggX7_perform_X2_copyFrom : GoodIn wsX7_perform wsX2_copyFrom := goodIn_r _ [56, 57, 58, 59, 60, 61, 62, 63, 64, 65, 66, 67, 68, 69, 70, 71, 72, 73, 74, 75, 76, 77, 78, 79, 80, 81, 82, 83, 84, 85, 86, 87, 88, 89, 90, 91, 92, 93, 94, 95, 96, 97, 98, 99, 100, 101, 102, 103, 104, 105, 106, 107, 108, 109, 110, 111, 112, 113, 114, 115, 116, 117, 259, 260, 261, 262, 263, 264, 265, 266, 267, 268, 269, 270, 271, 272, 273, 274, 275, 276, 277, 278, 279, 280, 281, 282, 283, 284, 285, 286, 287, 288, 289, 290, 291] (by decide +kernel) (by decide +kernel)
set_option maxRecDepth 20000 in
theorem gX7_perform_X2_copyFrom : GoodIn wsX7_perform (wsV RX7 40 RX2 yX2_copyFrom wsX2_copyFrom) := goodIn_app (goodIn_of _ (by decide +kernel)) ggX7_perform_X2_copyFrom
set_option maxRecDepth 20000 in
theorem ggX7_perform_X2_addWord : GoodIn wsX7_perform wsX2_addWord := goodIn_r _ [121, 69, 122, 67, 123, 124, 125, 126, 92, 127, 94, 95, 128, 129, 130, 55, 131, 59, 72, 60, 132, 133, 134, 135, 62, 136, 137, 138, 139, 140, 141, 142, 143, 144, 70, 58, 145, 146, 147, 148, 149, 100, 150, 103, 104, 102, 106, 151, 152, 153, 154, 155, 259, 260, 261, 262, 263, 264, 265, 266, 267, 268, 269, 270, 281, 282, 271, 272, 273, 274, 275, 276, 277, 278, 279, 280, 283, 284, 285, 286] (by decide +kernel) (by decide +kernel)
set_option maxRecDepth 20000 in
theorem gX7_perform_X2_addWord : GoodIn wsX7_perform (wsV RX7 59 RX2 yX2_addWord wsX2_addWord) := goodIn_app (goodIn_of _ (by decide +kernel)) ggX7_perform_X2_addWord
set_option maxRecDepth 20000 in
theorem ggX7_perform_X2_passTicks : GoodIn wsX7_perform wsX2_passTicks := goodIn_r _ [159, 58, 160, 71, 161, 162, 163, 164, 55, 165, 70, 61, 67, 166, 167, 168, 169, 170, 171, 172, 173, 174, 100, 175, 104, 102, 176, 177, 178, 179, 106, 180, 181, 182, 183, 184, 185, 186, 187, 188, 189, 190, 191, 103, 192, 193, 194, 195, 57, 196, 197, 198, 199, 200, 62, 68, 201, 123, 202, 203, 204, 205, 206, 145, 147, 148, 149, 150, 207, 208, 209, 210, 72, 211, 212, 213, 110, 214, 116, 112, 114, 115, 117, 215, 216, 217, 218, 140, 141, 142, 143, 144, 146, 151, 152, 153, 154, 155, 219, 220, 221, 222, 223, 128, 129, 130, 131, 69, 59, 60, 132, 133, 134, 135, 122, 136, 137, 138, 92, 139, 94, 95, 259, 260, 261, 262, 263, 264, 265, 266, 267, 268, 269, 270, 287, 288, 289, 290, 291, 271, 272, 273, 274, 275, 276, 277, 278, 279, 280, 283, 284, 285, 286, 281, 282] (by decide +kernel) (by decide +kernel)
set_option maxRecDepth 20000 in
theorem gX7_perform_X2_passTicks : GoodIn wsX7_perform (wsV RX7 63 RX2 yX2_passTicks wsX2_passTicks) := goodIn_app (goodIn_of _ (by decide +kernel)) ggX7_perform_X2_passTicks
set_option maxRecDepth 20000 in
theorem ggX7_perform_X2_changeDelay : GoodIn wsX7_perform wsX2_changeDelay := goodIn_r _ [227, 67, 145, 192, 193, 194, 55, 195, 57, 259, 260, 261, 262, 263, 264, 265, 266, 267, 268, 269, 270, 271, 272, 273, 274, 275, 276, 277, 278, 279, 280] (by decide +kernel) (by decide +kernel)
set_option maxRecDepth 20000 in
theorem gX7_perform_X2_changeDelay : GoodIn wsX7_perform (wsV RX7 79 RX2 yX2_changeDelay wsX2_changeDelay) := goodIn_app (goodIn_of _ (by decide +kernel)) ggX7_perform_X2_changeDelay
set_option maxRecDepth 20000 in
theorem ggX7_perform_X7_accept : GoodIn wsX7_perform wsX7_accept := goodIn_r _ [232, 233, 3, 2, 234, 235, 236, 237, 238, 239, 240, 241, 242, 243, 244, 245, 53, 54, 55, 56, 57, 58, 59, 60, 61, 62, 63, 64, 65, 66, 67, 68, 69, 70, 71, 72, 73, 74, 75, 76, 77, 78, 79, 80, 81, 82, 83, 84, 85, 86, 87, 88, 89, 90, 91, 92, 93, 94, 95, 96, 97, 98, 99, 100, 101, 102, 103, 104, 105, 106, 107, 108, 109, 110, 111, 112, 113, 114, 115, 116, 117, 52, 246, 247, 248, 249, 250, 251, 292, 293, 259, 260, 261, 262, 263, 264, 265, 266, 267, 268, 269, 270, 271, 272, 273, 274, 275, 276, 277, 278, 279, 280, 281, 282, 283, 284, 285, 286, 287, 288, 289, 290, 291] (by decide +kernel) (by decide +kernel)
set_option maxRecDepth 20000 in
theorem gX7_perform_X7_accept : GoodIn wsX7_perform (wsV RX7 55 RX7 yX7_accept wsX7_accept) := goodIn_app (goodIn_of _ (by decide +kernel)) ggX7_perform_X7_accept
theorem dX7_perform_0 : decode cX7_perform 0 = .ok (.aload_n 0, 1) := by decide +kernel
theorem dX7_perform_1 : decode cX7_perform 1 = .ok (.getfield 36, 3) := by decide +kernel
theorem dX7_perform_4 : decode cX7_perform 4 = .ok (.invokevirtual 94, 3) := by decide +kernel
theorem dX7_perform_7 : decode cX7_perform 7 = .ok (.istore_n 1, 1) := by decide +kernel
theorem dX7_perform_8 : decode cX7_perform 8 = .ok (.iload_n 1, 1) := by decide +kernel
theorem dX7_perform_9 : decode cX7_perform 9 = .ok (.iconst (-1), 1) := by decide +kernel
theorem dX7_perform_10 : decode cX7_perform 10 = .ok (.if_icmp .eq 8, 3) := by decide +kernel
theorem dX7_perform_13 : decode cX7_perform 13 = .ok (.bipush (-100), 2) := by decide +kernel
theorem dX7_perform_15 : decode cX7_perform 15 = .ok (.iload_n 1, 1) := by decide +kernel
theorem dX7_perform_16 : decode cX7_perform 16 = .ok (.isub, 1) := by decide +kernel
theorem dX7_perform_17 : decode cX7_perform 17 = .ok (.ireturn, 1) := by decide +kernel
theorem dX7_perform_18 : decode cX7_perform 18 = .ok (.aload_n 0, 1) := by decide +kernel
theorem dX7_perform_19 : decode cX7_perform 19 = .ok (.getfield 16, 3) := by decide +kernel
theorem dX7_perform_22 : decode cX7_perform 22 = .ok (.aload_n 0, 1) := by decide +kernel
theorem dX7_perform_23 : decode cX7_perform 23 = .ok (.getfield 12, 3) := by decide +kernel
theorem dX7_perform_26 : decode cX7_perform 26 = .ok (.invokevirtual 40, 3) := by decide +kernel
theorem dX7_perform_29 : decode cX7_perform 29 = .ok (.iconst 0, 1) := by decide +kernel
theorem dX7_perform_30 : decode cX7_perform 30 = .ok (.istore_n 2, 1) := by decide +kernel
theorem dX7_perform_31 : decode cX7_perform 31 = .ok (.iload_n 2, 1) := by decide +kernel
theorem dX7_perform_32 : decode cX7_perform 32 = .ok (.aload_n 0, 1) := by decide +kernel
theorem dX7_perform_33 : decode cX7_perform 33 = .ok (.getfield 36, 3) := by decide +kernel
theorem dX7_perform_36 : decode cX7_perform 36 = .ok (.getfield 97, 3) := by decide +kernel
theorem dX7_perform_39 : decode cX7_perform 39 = .ok (.if_icmp .ge 228, 3) := by decide +kernel
theorem dX7_perform_42 : decode cX7_perform 42 = .ok (.aload_n 0, 1) := by decide +kernel
theorem dX7_perform_43 : decode cX7_perform 43 = .ok (.getfield 36, 3) := by decide +kernel
theorem dX7_perform_46 : decode cX7_perform 46 = .ok (.getfield 100, 3) := by decide +kernel
theorem dX7_perform_49 : decode cX7_perform 49 = .ok (.iload_n 2, 1) := by decide +kernel
theorem dX7_perform_50 : decode cX7_perform 50 = .ok (.iaload, 1) := by decide +kernel
theorem dX7_perform_51 : decode cX7_perform 51 = .ok (.lookupswitch 171 #[(46, 91), (97, 49), (98, 70), (107, 141), (114, 111)], 49) := by decide +kernel
theorem dX7_perform_100 : decode cX7_perform 100 = .ok (.aload_n 0, 1) := by decide +kernel
theorem dX7_perform_101 : decode cX7_perform 101 = .ok (.getfield 16, 3) := by decide +kernel
theorem dX7_perform_104 : decode cX7_perform 104 = .ok (.iconst 0, 1) := by decide +kernel
theorem dX7_perform_105 : decode cX7_perform 105 = .ok (.aload_n 0, 1) := by decide +kernel
theorem dX7_perform_106 : decode cX7_perform 106 = .ok (.getfield 36, 3) := by decide +kernel
theorem dX7_perform_109 : decode cX7_perform 109 = .ok (.getfield 103, 3) := by decide +kernel
theorem dX7_perform_112 : decode cX7_perform 112 = .ok (.iload_n 2, 1) := by decide +kernel
theorem dX7_perform_113 : decode cX7_perform 113 = .ok (.iaload, 1) := by decide +kernel
theorem dX7_perform_114 : decode cX7_perform 114 = .ok (.invokevirtual 59, 3) := by decide +kernel
theorem dX7_perform_117 : decode cX7_perform 117 = .ok (.istore_n 3, 1) := by decide +kernel
theorem dX7_perform_118 : decode cX7_perform 118 = .ok (.goto 131, 3) := by decide +kernel
theorem dX7_perform_121 : decode cX7_perform 121 = .ok (.aload_n 0, 1) := by decide +kernel
theorem dX7_perform_122 : decode cX7_perform 122 = .ok (.getfield 16, 3) := by decide +kernel
theorem dX7_perform_125 : decode cX7_perform 125 = .ok (.iconst 1, 1) := by decide +kernel
theorem dX7_perform_126 : decode cX7_perform 126 = .ok (.aload_n 0, 1) := by decide +kernel
theorem dX7_perform_127 : decode cX7_perform 127 = .ok (.getfield 36, 3) := by decide +kernel
theorem dX7_perform_130 : decode cX7_perform 130 = .ok (.getfield 103, 3) := by decide +kernel
theorem dX7_perform_133 : decode cX7_perform 133 = .ok (.iload_n 2, 1) := by decide +kernel
theorem dX7_perform_134 : decode cX7_perform 134 = .ok (.iaload, 1) := by decide +kernel
theorem dX7_perform_135 : decode cX7_perform 135 = .ok (.invokevirtual 59, 3) := by decide +kernel
theorem dX7_perform_138 : decode cX7_perform 138 = .ok (.istore_n 3, 1) := by decide +kernel
theorem dX7_perform_139 : decode cX7_perform 139 = .ok (.goto 110, 3) := by decide +kernel
theorem dX7_perform_142 : decode cX7_perform 142 = .ok (.aload_n 0, 1) := by decide +kernel
theorem dX7_perform_143 : decode cX7_perform 143 = .ok (.getfield 16, 3) := by decide +kernel
theorem dX7_perform_146 : decode cX7_perform 146 = .ok (.aload_n 0, 1) := by decide +kernel
theorem dX7_perform_147 : decode cX7_perform 147 = .ok (.getfield 36, 3) := by decide +kernel
theorem dX7_perform_150 : decode cX7_perform 150 = .ok (.getfield 103, 3) := by decide +kernel
theorem dX7_perform_153 : decode cX7_perform 153 = .ok (.iload_n 2, 1) := by decide +kernel
theorem dX7_perform_154 : decode cX7_perform 154 = .ok (.iaload, 1) := by decide +kernel
theorem dX7_perform_155 : decode cX7_perform 155 = .ok (.invokevirtual 63, 3) := by decide +kernel
theorem dX7_perform_158 : decode cX7_perform 158 = .ok (.istore_n 3, 1) := by decide +kernel
theorem dX7_perform_159 : decode cX7_perform 159 = .ok (.goto 90, 3) := by decide +kernel
theorem dX7_perform_162 : decode cX7_perform 162 = .ok (.aload_n 0, 1) := by decide +kernel
theorem dX7_perform_163 : decode cX7_perform 163 = .ok (.getfield 16, 3) := by decide +kernel
theorem dX7_perform_166 : decode cX7_perform 166 = .ok (.aload_n 0, 1) := by decide +kernel
theorem dX7_perform_167 : decode cX7_perform 167 = .ok (.getfield 36, 3) := by decide +kernel
theorem dX7_perform_170 : decode cX7_perform 170 = .ok (.getfield 106, 3) := by decide +kernel
theorem dX7_perform_173 : decode cX7_perform 173 = .ok (.iload_n 2, 1) := by decide +kernel
theorem dX7_perform_174 : decode cX7_perform 174 = .ok (.iaload, 1) := by decide +kernel
theorem dX7_perform_175 : decode cX7_perform 175 = .ok (.iconst 0, 1) := by decide +kernel
theorem dX7_perform_176 : decode cX7_perform 176 = .ok (.aload_n 0, 1) := by decide +kernel
theorem dX7_perform_177 : decode cX7_perform 177 = .ok (.getfield 36, 3) := by decide +kernel
theorem dX7_perform_180 : decode cX7_perform 180 = .ok (.getfield 103, 3) := by decide +kernel
theorem dX7_perform_183 : decode cX7_perform 183 = .ok (.iload_n 2, 1) := by decide +kernel
theorem dX7_perform_184 : decode cX7_perform 184 = .ok (.iaload, 1) := by decide +kernel
theorem dX7_perform_185 : decode cX7_perform 185 = .ok (.invokevirtual 79, 3) := by decide +kernel
theorem dX7_perform_188 : decode cX7_perform 188 = .ok (.istore_n 3, 1) := by decide +kernel
theorem dX7_perform_189 : decode cX7_perform 189 = .ok (.goto 60, 3) := by decide +kernel
theorem dX7_perform_192 : decode cX7_perform 192 = .ok (.aload_n 0, 1) := by decide +kernel
theorem dX7_perform_193 : decode cX7_perform 193 = .ok (.getfield 16, 3) := by decide +kernel
theorem dX7_perform_196 : decode cX7_perform 196 = .ok (.aload_n 0, 1) := by decide +kernel
theorem dX7_perform_197 : decode cX7_perform 197 = .ok (.getfield 36, 3) := by decide +kernel
theorem dX7_perform_200 : decode cX7_perform 200 = .ok (.getfield 106, 3) := by decide +kernel
theorem dX7_perform_203 : decode cX7_perform 203 = .ok (.iload_n 2, 1) := by decide +kernel
theorem dX7_perform_204 : decode cX7_perform 204 = .ok (.iaload, 1) := by decide +kernel
theorem dX7_perform_205 : decode cX7_perform 205 = .ok (.iconst 1, 1) := by decide +kernel
theorem dX7_perform_206 : decode cX7_perform 206 = .ok (.aload_n 0, 1) := by decide +kernel
theorem dX7_perform_207 : decode cX7_perform 207 = .ok (.getfield 36, 3) := by decide +kernel
theorem dX7_perform_210 : decode cX7_perform 210 = .ok (.getfield 103, 3) := by decide +kernel
theorem dX7_perform_213 : decode cX7_perform 213 = .ok (.iload_n 2, 1) := by decide +kernel
theorem dX7_perform_214 : decode cX7_perform 214 = .ok (.iaload, 1) := by decide +kernel
theorem dX7_perform_215 : decode cX7_perform 215 = .ok (.invokevirtual 79, 3) := by decide +kernel
theorem dX7_perform_218 : decode cX7_perform 218 = .ok (.istore_n 3, 1) := by decide +kernel
theorem dX7_perform_219 : decode cX7_perform 219 = .ok (.goto 30, 3) := by decide +kernel
theorem dX7_perform_222 : decode cX7_perform 222 = .ok (.aload_n 0, 1) := by decide +kernel
theorem dX7_perform_223 : decode cX7_perform 223 = .ok (.getfield 16, 3) := by decide +kernel
theorem dX7_perform_226 : decode cX7_perform 226 = .ok (.aload_n 0, 1) := by decide +kernel
theorem dX7_perform_227 : decode cX7_perform 227 = .ok (.getfield 36, 3) := by decide +kernel
theorem dX7_perform_230 : decode cX7_perform 230 = .ok (.getfield 106, 3) := by decide +kernel
theorem dX7_perform_233 : decode cX7_perform 233 = .ok (.iload_n 2, 1) := by decide +kernel
theorem dX7_perform_234 : decode cX7_perform 234 = .ok (.iaload, 1) := by decide +kernel
theorem dX7_perform_235 : decode cX7_perform 235 = .ok (.iconst 2, 1) := by decide +kernel
theorem dX7_perform_236 : decode cX7_perform 236 = .ok (.aload_n 0, 1) := by decide +kernel
theorem dX7_perform_237 : decode cX7_perform 237 = .ok (.getfield 36, 3) := by decide +kernel
theorem dX7_perform_240 : decode cX7_perform 240 = .ok (.getfield 103, 3) := by decide +kernel
theorem dX7_perform_243 : decode cX7_perform 243 = .ok (.iload_n 2, 1) := by decide +kernel
theorem dX7_perform_244 : decode cX7_perform 244 = .ok (.iaload, 1) := by decide +kernel
theorem dX7_perform_245 : decode cX7_perform 245 = .ok (.invokevirtual 79, 3) := by decide +kernel
theorem dX7_perform_248 : decode cX7_perform 248 = .ok (.istore_n 3, 1) := by decide +kernel
theorem dX7_perform_249 : decode cX7_perform 249 = .ok (.iload_n 3, 1) := by decide +kernel
theorem dX7_perform_250 : decode cX7_perform 250 = .ok (.ifCond .ge 11, 3) := by decide +kernel
theorem dX7_perform_253 : decode cX7_perform 253 = .ok (.iload_n 3, 1) := by decide +kernel
theorem dX7_perform_254 : decode cX7_perform 254 = .ok (.bipush (-5), 2) := by decide +kernel
theorem dX7_perform_256 : decode cX7_perform 256 = .ok (.if_icmp .eq 5, 3) := by decide +kernel
theorem dX7_perform_259 : decode cX7_perform 259 = .ok (.iload_n 3, 1) := by decide +kernel
theorem dX7_perform_260 : decode cX7_perform 260 = .ok (.ireturn, 1) := by decide +kernel
theorem dX7_perform_261 : decode cX7_perform 261 = .ok (.iinc 2 1, 3) := by decide +kernel
theorem dX7_perform_264 : decode cX7_perform 264 = .ok (.goto (-233), 3) := by decide +kernel
theorem dX7_perform_267 : decode cX7_perform 267 = .ok (.aload_n 0, 1) := by decide +kernel
theorem dX7_perform_268 : decode cX7_perform 268 = .ok (.aload_n 0, 1) := by decide +kernel
theorem dX7_perform_269 : decode cX7_perform 269 = .ok (.getfield 36, 3) := by decide +kernel
theorem dX7_perform_272 : decode cX7_perform 272 = .ok (.getfield 97, 3) := by decide +kernel
theorem dX7_perform_275 : decode cX7_perform 275 = .ok (.invokevirtual 55, 3) := by decide +kernel
theorem dX7_perform_278 : decode cX7_perform 278 = .ok (.ireturn, 1) := by decide +kernel
set_option maxRecDepth 20000 in
theorem ggX7_undo_X1_giveBack : GoodIn wsX7_undo wsX1_giveBack := goodIn_r _ [7, 8, 9, 10, 11, 12, 13, 14, 15, 16, 17, 18, 19, 20, 21, 22, 23, 24, 25, 26, 27, 28, 29, 30, 31, 32, 33, 34, 35, 36, 37, 38, 39, 40, 41, 42, 43, 44, 45, 46, 47, 48, 49, 50, 51, 52, 53, 54, 55, 56, 57, 58, 59, 60, 61, 62, 63, 64, 65, 66, 67, 68, 69, 70, 71, 72, 73, 74, 75, 82, 83, 84, 85, 86, 87, 88, 89, 90, 91, 92, 93, 94, 95, 96, 97, 98, 99, 100, 101, 102, 103, 104, 105, 106, 107, 108, 109, 110, 111, 112, 113, 114, 115, 116] (by decide +kernel) (by decide +kernel)
set_option maxRecDepth 20000 in
theorem gX7_undo_X1_giveBack : GoodIn wsX7_undo (wsV RX7 109 RX1 yX1_giveBack wsX1_giveBack) := goodIn_app (goodIn_of _ (by decide +kernel)) ggX7_undo_X1_giveBack
theorem dX7_undo_0 : decode cX7_undo 0 = .ok (.aload_n 0, 1) := by decide +kernel
theorem dX7_undo_1 : decode cX7_undo 1 = .ok (.getfield 29, 3) := by decide +kernel
theorem dX7_undo_4 : decode cX7_undo 4 = .ok (.aload_n 0, 1) := by decide +kernel
theorem dX7_undo_5 : decode cX7_undo 5 = .ok (.getfield 12, 3) := by decide +kernel
theorem dX7_undo_8 : decode cX7_undo 8 = .ok (.invokevirtual 109, 3) := by decide +kernel
theorem dX7_undo_11 : decode cX7_undo 11 = .ok (.ireturn, 1) := by decide +kernel
set_option maxRecDepth 20000 in
theorem ggX7_keep_X2_copyFrom : GoodIn wsX7_keep wsX2_copyFrom := goodIn_r _ [9, 10, 11, 12, 13, 14, 15, 16, 17, 18, 19, 20, 21, 22, 23, 24, 25, 26, 27, 28, 29, 30, 31, 32, 33, 34, 35, 36, 37, 38, 39, 40, 41, 42, 43, 44, 45, 46, 47, 48, 49, 50, 51, 52, 53, 54, 55, 56, 57, 58, 59, 60, 61, 62, 63, 64, 65, 66, 67, 68, 69, 70, 77, 78, 79, 80, 81, 82, 83, 84, 85, 86, 87, 88, 89, 90, 91, 92, 93, 94, 95, 96, 97, 98, 99, 100, 101, 102, 103, 104, 105, 106, 107, 108, 109] (by decide +kernel) (by decide +kernel)
set_option maxRecDepth 20000 in
theorem gX7_keep_X2_copyFrom : GoodIn wsX7_keep (wsV RX7 40 RX2 yX2_copyFrom wsX2_copyFrom) := goodIn_app (goodIn_of _ (by decide +kernel)) ggX7_keep_X2_copyFrom
theorem dX7_keep_0 : decode cX7_keep 0 = .ok (.aload_n 0, 1) := by decide +kernel
theorem dX7_keep_1 : decode cX7_keep 1 = .ok (.getfield 19, 3) := by decide +kernel
theorem dX7_keep_4 : decode cX7_keep 4 = .ok (.aload_n 0, 1) := by decide +kernel
theorem dX7_keep_5 : decode cX7_keep 5 = .ok (.getfield 12, 3) := by decide +kernel
theorem dX7_keep_8 : decode cX7_keep 8 = .ok (.invokevirtual 40, 3) := by decide +kernel
theorem dX7_keep_11 : decode cX7_keep 11 = .ok (.aload_n 0, 1) := by decide +kernel
theorem dX7_keep_12 : decode cX7_keep 12 = .ok (.iconst 1, 1) := by decide +kernel
theorem dX7_keep_13 : decode cX7_keep 13 = .ok (.putfield 22, 3) := by decide +kernel
theorem dX7_keep_16 : decode cX7_keep 16 = .ok (.aload_n 0, 1) := by decide +kernel
theorem dX7_keep_17 : decode cX7_keep 17 = .ok (.getfield 12, 3) := by decide +kernel
theorem dX7_keep_20 : decode cX7_keep 20 = .ok (.getfield 74, 3) := by decide +kernel
theorem dX7_keep_23 : decode cX7_keep 23 = .ok (.ireturn, 1) := by decide +kernel
set_option maxRecDepth 20000 in
theorem ggX7_restore_X2_copyFrom : GoodIn wsX7_restore wsX2_copyFrom := goodIn_r _ [9, 10, 11, 12, 13, 14, 15, 16, 17, 18, 19, 20, 21, 22, 23, 24, 25, 26, 27, 28, 29, 30, 31, 32, 33, 34, 35, 36, 37, 38, 39, 40, 41, 42, 43, 44, 45, 46, 47, 48, 49, 50, 51, 52, 53, 54, 55, 56, 57, 58, 59, 60, 61, 62, 63, 64, 65, 66, 67, 68, 69, 70, 96, 97, 98, 99, 100, 101, 102, 103, 104, 105, 106, 107, 108, 109, 110, 111, 112, 113, 114, 115, 116, 117, 118, 119, 120, 121, 122, 123, 124, 125, 126, 127, 128] (by decide +kernel) (by decide +kernel)
set_option maxRecDepth 20000 in
theorem gX7_restore_X2_copyFrom : GoodIn wsX7_restore (wsV RX7 40 RX2 yX2_copyFrom wsX2_copyFrom) := goodIn_app (goodIn_of _ (by decide +kernel)) ggX7_restore_X2_copyFrom
set_option maxRecDepth 20000 in
theorem ggX7_restore_X7_accept : GoodIn wsX7_restore wsX7_accept := goodIn_r _ [75, 76, 77, 2, 78, 79, 80, 81, 82, 83, 84, 85, 86, 87, 88, 89, 6, 7, 8, 9, 10, 11, 12, 13, 14, 15, 16, 17, 18, 19, 20, 21, 22, 23, 24, 25, 26, 27, 28, 29, 30, 31, 32, 33, 34, 35, 36, 37, 38, 39, 40, 41, 42, 43, 44, 45, 46, 47, 48, 49, 50, 51, 52, 53, 54, 55, 56, 57, 58, 59, 60, 61, 62, 63, 64, 65, 66, 67, 68, 69, 70, 5, 90, 91, 92, 93, 94, 95, 129, 130, 96, 97, 98, 99, 100, 101, 102, 103, 104, 105, 106, 107, 108, 109, 110, 111, 112, 113, 114, 115, 116, 117, 118, 119, 120, 121, 122, 123, 124, 125, 126, 127, 128] (by decide +kernel) (by decide +kernel)
set_option maxRecDepth 20000 in
theorem gX7_restore_X7_accept : GoodIn wsX7_restore (wsV RX7 55 RX7 yX7_accept wsX7_accept) := goodIn_app (goodIn_of _ (by decide +kernel)) ggX7_restore_X7_accept
theorem dX7_restore_0 : decode cX7_restore 0 = .ok (.aload_n 0, 1) := by decide +kernel
theorem dX7_restore_1 : decode cX7_restore 1 = .ok (.getfield 22, 3) := by decide +kernel
theorem dX7_restore_4 : decode cX7_restore 4 = .ok (.ifCond .ne 6, 3) := by decide +kernel
theorem dX7_restore_7 : decode cX7_restore 7 = .ok (.bipush (-5), 2) := by decide +kernel
theorem dX7_restore_9 : decode cX7_restore 9 = .ok (.ireturn, 1) := by decide +kernel
theorem dX7_restore_10 : decode cX7_restore 10 = .ok (.aload_n 0, 1) := by decide +kernel
theorem dX7_restore_11 : decode cX7_restore 11 = .ok (.getfield 16, 3) := by decide +kernel
theorem dX7_restore_14 : decode cX7_restore 14 = .ok (.aload_n 0, 1) := by decide +kernel
theorem dX7_restore_15 : decode cX7_restore 15 = .ok (.getfield 19, 3) := by decide +kernel
theorem dX7_restore_18 : decode cX7_restore 18 = .ok (.invokevirtual 40, 3) := by decide +kernel
theorem dX7_restore_21 : decode cX7_restore 21 = .ok (.aload_n 0, 1) := by decide +kernel
theorem dX7_restore_22 : decode cX7_restore 22 = .ok (.aload_n 0, 1) := by decide +kernel
theorem dX7_restore_23 : decode cX7_restore 23 = .ok (.getfield 19, 3) := by decide +kernel
theorem dX7_restore_26 : decode cX7_restore 26 = .ok (.getfield 74, 3) := by decide +kernel
theorem dX7_restore_29 : decode cX7_restore 29 = .ok (.invokevirtual 55, 3) := by decide +kernel
theorem dX7_restore_32 : decode cX7_restore 32 = .ok (.ireturn, 1) := by decide +kernel
set_option maxRecDepth 20000 in
theorem ggX7_link_X2_hasLink : GoodIn wsX7_link wsX2_hasLink := goodIn_r _ [8, 9, 31, 32, 33, 34, 35, 36, 37, 38, 39, 40, 41, 42] (by decide +kernel) (by decide +kernel)
set_option maxRecDepth 20000 in
theorem gX7_link_X2_hasLink : GoodIn wsX7_link (wsV RX7 113 RX2 yX2_hasLink wsX2_hasLink) := goodIn_app (goodIn_of _ (by decide +kernel)) ggX7_link_X2_hasLink
set_option maxRecDepth 20000 in
theorem ggX7_link_X3_tell : GoodIn wsX7_link wsX3_tell := goodIn_r _ [14, 15, 16, 17, 18, 19, 20, 21, 22, 23, 24, 43, 44, 45, 46, 47, 48, 49, 50, 51, 52] (by decide +kernel) (by decide +kernel)
set_option maxRecDepth 20000 in
theorem gX7_link_X3_tell : GoodIn wsX7_link (wsV RX7 121 RX3 yX3_tell wsX3_tell) := goodIn_app (goodIn_of _ (by decide +kernel)) ggX7_link_X3_tell
theorem dX7_link_0 : decode cX7_link 0 = .ok (.aload_n 0, 1) := by decide +kernel
theorem dX7_link_1 : decode cX7_link 1 = .ok (.getfield 12, 3) := by decide +kernel
theorem dX7_link_4 : decode cX7_link 4 = .ok (.iload_n 1, 1) := by decide +kernel
theorem dX7_link_5 : decode cX7_link 5 = .ok (.invokevirtual 113, 3) := by decide +kernel
theorem dX7_link_8 : decode cX7_link 8 = .ok (.ifCond .ne 5, 3) := by decide +kernel
theorem dX7_link_11 : decode cX7_link 11 = .ok (.iconst (-1), 1) := by decide +kernel
theorem dX7_link_12 : decode cX7_link 12 = .ok (.ireturn, 1) := by decide +kernel
theorem dX7_link_13 : decode cX7_link 13 = .ok (.aload_n 0, 1) := by decide +kernel
theorem dX7_link_14 : decode cX7_link 14 = .ok (.getfield 12, 3) := by decide +kernel
theorem dX7_link_17 : decode cX7_link 17 = .ok (.getfield 117, 3) := by decide +kernel
theorem dX7_link_20 : decode cX7_link 20 = .ok (.iload_n 1, 1) := by decide +kernel
theorem dX7_link_21 : decode cX7_link 21 = .ok (.aaload, 1) := by decide +kernel
theorem dX7_link_22 : decode cX7_link 22 = .ok (.iload_n 2, 1) := by decide +kernel
theorem dX7_link_23 : decode cX7_link 23 = .ok (.aload_n 0, 1) := by decide +kernel
theorem dX7_link_24 : decode cX7_link 24 = .ok (.getfield 12, 3) := by decide +kernel
theorem dX7_link_27 : decode cX7_link 27 = .ok (.getfield 83, 3) := by decide +kernel
theorem dX7_link_30 : decode cX7_link 30 = .ok (.iconst 0, 1) := by decide +kernel
theorem dX7_link_31 : decode cX7_link 31 = .ok (.iaload, 1) := by decide +kernel
theorem dX7_link_32 : decode cX7_link 32 = .ok (.invokevirtual 121, 3) := by decide +kernel
theorem dX7_link_35 : decode cX7_link 35 = .ok (.ireturn, 1) := by decide +kernel
theorem dX7_stage_0 : decode cX7_stage 0 = .ok (.iload_n 1, 1) := by decide +kernel
theorem dX7_stage_1 : decode cX7_stage 1 = .ok (.ifCond .lt 14, 3) := by decide +kernel
theorem dX7_stage_4 : decode cX7_stage 4 = .ok (.iload_n 1, 1) := by decide +kernel
theorem dX7_stage_5 : decode cX7_stage 5 = .ok (.aload_n 0, 1) := by decide +kernel
theorem dX7_stage_6 : decode cX7_stage 6 = .ok (.getfield 12, 3) := by decide +kernel
theorem dX7_stage_9 : decode cX7_stage 9 = .ok (.getfield 126, 3) := by decide +kernel
theorem dX7_stage_12 : decode cX7_stage 12 = .ok (.if_icmp .lt 5, 3) := by decide +kernel
theorem dX7_stage_15 : decode cX7_stage 15 = .ok (.iconst (-1), 1) := by decide +kernel
theorem dX7_stage_16 : decode cX7_stage 16 = .ok (.ireturn, 1) := by decide +kernel
theorem dX7_stage_17 : decode cX7_stage 17 = .ok (.aload_n 0, 1) := by decide +kernel
theorem dX7_stage_18 : decode cX7_stage 18 = .ok (.getfield 12, 3) := by decide +kernel
theorem dX7_stage_21 : decode cX7_stage 21 = .ok (.getfield 129, 3) := by decide +kernel
theorem dX7_stage_24 : decode cX7_stage 24 = .ok (.iload_n 1, 1) := by decide +kernel
theorem dX7_stage_25 : decode cX7_stage 25 = .ok (.iaload, 1) := by decide +kernel
theorem dX7_stage_26 : decode cX7_stage 26 = .ok (.istore_n 2, 1) := by decide +kernel
theorem dX7_stage_27 : decode cX7_stage 27 = .ok (.iload_n 2, 1) := by decide +kernel
theorem dX7_stage_28 : decode cX7_stage 28 = .ok (.iconst (-1), 1) := by decide +kernel
theorem dX7_stage_29 : decode cX7_stage 29 = .ok (.if_icmp .ne 8, 3) := by decide +kernel
theorem dX7_stage_32 : decode cX7_stage 32 = .ok (.bipush (-5), 2) := by decide +kernel
theorem dX7_stage_34 : decode cX7_stage 34 = .ok (.goto 4, 3) := by decide +kernel
theorem dX7_stage_37 : decode cX7_stage 37 = .ok (.iload_n 2, 1) := by decide +kernel
theorem dX7_stage_38 : decode cX7_stage 38 = .ok (.ireturn, 1) := by decide +kernel
set_option maxRecDepth 20000 in
theorem ggX7_waiting_X5_wordAt : GoodIn wsX7_waiting wsX5_wordAt := goodIn_r _ [7, 8, 9, 28, 29] (by decide +kernel) (by decide +kernel)
set_option maxRecDepth 20000 in
theorem gX7_waiting_X5_wordAt : GoodIn wsX7_waiting (wsV RX7 136 RX5 yX5_wordAt wsX5_wordAt) := goodIn_app (goodIn_of _ (by decide +kernel)) ggX7_waiting_X5_wordAt
theorem dX7_waiting_0 : decode cX7_waiting 0 = .ok (.iload_n 1, 1) := by decide +kernel
theorem dX7_waiting_1 : decode cX7_waiting 1 = .ok (.ifCond .lt 8, 3) := by decide +kernel
theorem dX7_waiting_4 : decode cX7_waiting 4 = .ok (.iload_n 1, 1) := by decide +kernel
theorem dX7_waiting_5 : decode cX7_waiting 5 = .ok (.iconst 2, 1) := by decide +kernel
theorem dX7_waiting_6 : decode cX7_waiting 6 = .ok (.if_icmp .lt 5, 3) := by decide +kernel
theorem dX7_waiting_9 : decode cX7_waiting 9 = .ok (.iconst (-1), 1) := by decide +kernel
theorem dX7_waiting_10 : decode cX7_waiting 10 = .ok (.ireturn, 1) := by decide +kernel
theorem dX7_waiting_11 : decode cX7_waiting 11 = .ok (.iload_n 2, 1) := by decide +kernel
theorem dX7_waiting_12 : decode cX7_waiting 12 = .ok (.ifCond .ge 6, 3) := by decide +kernel
theorem dX7_waiting_15 : decode cX7_waiting 15 = .ok (.bipush (-2), 2) := by decide +kernel
theorem dX7_waiting_17 : decode cX7_waiting 17 = .ok (.ireturn, 1) := by decide +kernel
theorem dX7_waiting_18 : decode cX7_waiting 18 = .ok (.aload_n 0, 1) := by decide +kernel
theorem dX7_waiting_19 : decode cX7_waiting 19 = .ok (.getfield 12, 3) := by decide +kernel
theorem dX7_waiting_22 : decode cX7_waiting 22 = .ok (.getfield 132, 3) := by decide +kernel
theorem dX7_waiting_25 : decode cX7_waiting 25 = .ok (.iload_n 1, 1) := by decide +kernel
theorem dX7_waiting_26 : decode cX7_waiting 26 = .ok (.aaload, 1) := by decide +kernel
theorem dX7_waiting_27 : decode cX7_waiting 27 = .ok (.iload_n 2, 1) := by decide +kernel
theorem dX7_waiting_28 : decode cX7_waiting 28 = .ok (.invokevirtual 136, 3) := by decide +kernel
theorem dX7_waiting_31 : decode cX7_waiting 31 = .ok (.istore_n 3, 1) := by decide +kernel
theorem dX7_waiting_32 : decode cX7_waiting 32 = .ok (.iload_n 3, 1) := by decide +kernel
theorem dX7_waiting_33 : decode cX7_waiting 33 = .ok (.iconst (-1), 1) := by decide +kernel
theorem dX7_waiting_34 : decode cX7_waiting 34 = .ok (.if_icmp .ne 8, 3) := by decide +kernel
theorem dX7_waiting_37 : decode cX7_waiting 37 = .ok (.bipush (-5), 2) := by decide +kernel
theorem dX7_waiting_39 : decode cX7_waiting 39 = .ok (.goto 4, 3) := by decide +kernel
theorem dX7_waiting_42 : decode cX7_waiting 42 = .ok (.iload_n 3, 1) := by decide +kernel
theorem dX7_waiting_43 : decode cX7_waiting 43 = .ok (.ireturn, 1) := by decide +kernel
set_option maxRecDepth 20000 in
theorem ggX7_noted_X4_tell : GoodIn wsX7_noted wsX4_tell := goodIn_r _ [7, 8, 9, 10, 11, 30, 31, 32, 33, 34] (by decide +kernel) (by decide +kernel)
set_option maxRecDepth 20000 in
theorem gX7_noted_X4_tell : GoodIn wsX7_noted (wsV RX7 145 RX4 yX4_tell wsX4_tell) := goodIn_app (goodIn_of _ (by decide +kernel)) ggX7_noted_X4_tell
theorem dX7_noted_0 : decode cX7_noted 0 = .ok (.iload_n 1, 1) := by decide +kernel
theorem dX7_noted_1 : decode cX7_noted 1 = .ok (.ifCond .lt 12, 3) := by decide +kernel
theorem dX7_noted_4 : decode cX7_noted 4 = .ok (.iload_n 2, 1) := by decide +kernel
theorem dX7_noted_5 : decode cX7_noted 5 = .ok (.ifCond .lt 8, 3) := by decide +kernel
theorem dX7_noted_8 : decode cX7_noted 8 = .ok (.iload_n 2, 1) := by decide +kernel
theorem dX7_noted_9 : decode cX7_noted 9 = .ok (.iconst 2, 1) := by decide +kernel
theorem dX7_noted_10 : decode cX7_noted 10 = .ok (.if_icmp .le 6, 3) := by decide +kernel
theorem dX7_noted_13 : decode cX7_noted 13 = .ok (.bipush (-2), 2) := by decide +kernel
theorem dX7_noted_15 : decode cX7_noted 15 = .ok (.ireturn, 1) := by decide +kernel
theorem dX7_noted_16 : decode cX7_noted 16 = .ok (.aload_n 0, 1) := by decide +kernel
theorem dX7_noted_17 : decode cX7_noted 17 = .ok (.getfield 12, 3) := by decide +kernel
theorem dX7_noted_20 : decode cX7_noted 20 = .ok (.getfield 141, 3) := by decide +kernel
theorem dX7_noted_23 : decode cX7_noted 23 = .ok (.iload_n 1, 1) := by decide +kernel
theorem dX7_noted_24 : decode cX7_noted 24 = .ok (.iload_n 2, 1) := by decide +kernel
theorem dX7_noted_25 : decode cX7_noted 25 = .ok (.invokevirtual 145, 3) := by decide +kernel
theorem dX7_noted_28 : decode cX7_noted 28 = .ok (.ireturn, 1) := by decide +kernel
set_option maxRecDepth 20000 in
theorem ggX7_total_X2_waitingWords : GoodIn wsX7_total wsX2_waitingWords := goodIn_r _ [21, 22, 23, 36, 37, 38, 39, 40, 41, 42, 43, 44, 45, 46, 47, 66, 67] (by decide +kernel) (by decide +kernel)
set_option maxRecDepth 20000 in
theorem gX7_total_X2_waitingWords : GoodIn wsX7_total (wsV RX7 52 RX2 yX2_waitingWords wsX2_waitingWords) := goodIn_app (goodIn_of _ (by decide +kernel)) ggX7_total_X2_waitingWords
set_option maxRecDepth 20000 in
theorem ggX7_total_X2_fullStages : GoodIn wsX7_total wsX2_fullStages := goodIn_r _ [27, 28, 29, 36, 37, 38, 39, 40, 41, 42, 43, 44, 45, 46, 47] (by decide +kernel) (by decide +kernel)
set_option maxRecDepth 20000 in
theorem gX7_total_X2_fullStages : GoodIn wsX7_total (wsV RX7 48 RX2 yX2_fullStages wsX2_fullStages) := goodIn_app (goodIn_of _ (by decide +kernel)) ggX7_total_X2_fullStages
theorem dX7_total_0 : decode cX7_total 0 = .ok (.iload_n 1, 1) := by decide +kernel
theorem dX7_total_1 : decode cX7_total 1 = .ok (.tableswitch 210 0 14 #[75, 83, 91, 99, 107, 118, 126, 137, 148, 156, 164, 174, 184, 194, 202], 75) := by decide +kernel
theorem dX7_total_76 : decode cX7_total 76 = .ok (.aload_n 0, 1) := by decide +kernel
theorem dX7_total_77 : decode cX7_total 77 = .ok (.getfield 12, 3) := by decide +kernel
theorem dX7_total_80 : decode cX7_total 80 = .ok (.getfield 126, 3) := by decide +kernel
theorem dX7_total_83 : decode cX7_total 83 = .ok (.ireturn, 1) := by decide +kernel
theorem dX7_total_84 : decode cX7_total 84 = .ok (.aload_n 0, 1) := by decide +kernel
theorem dX7_total_85 : decode cX7_total 85 = .ok (.getfield 12, 3) := by decide +kernel
theorem dX7_total_88 : decode cX7_total 88 = .ok (.getfield 74, 3) := by decide +kernel
theorem dX7_total_91 : decode cX7_total 91 = .ok (.ireturn, 1) := by decide +kernel
theorem dX7_total_92 : decode cX7_total 92 = .ok (.aload_n 0, 1) := by decide +kernel
theorem dX7_total_93 : decode cX7_total 93 = .ok (.getfield 12, 3) := by decide +kernel
theorem dX7_total_96 : decode cX7_total 96 = .ok (.invokevirtual 52, 3) := by decide +kernel
theorem dX7_total_99 : decode cX7_total 99 = .ok (.ireturn, 1) := by decide +kernel
theorem dX7_total_100 : decode cX7_total 100 = .ok (.aload_n 0, 1) := by decide +kernel
theorem dX7_total_101 : decode cX7_total 101 = .ok (.getfield 12, 3) := by decide +kernel
theorem dX7_total_104 : decode cX7_total 104 = .ok (.invokevirtual 48, 3) := by decide +kernel
theorem dX7_total_107 : decode cX7_total 107 = .ok (.ireturn, 1) := by decide +kernel
theorem dX7_total_108 : decode cX7_total 108 = .ok (.aload_n 0, 1) := by decide +kernel
theorem dX7_total_109 : decode cX7_total 109 = .ok (.getfield 12, 3) := by decide +kernel
theorem dX7_total_112 : decode cX7_total 112 = .ok (.getfield 148, 3) := by decide +kernel
theorem dX7_total_115 : decode cX7_total 115 = .ok (.getfield 152, 3) := by decide +kernel
theorem dX7_total_118 : decode cX7_total 118 = .ok (.ireturn, 1) := by decide +kernel
theorem dX7_total_119 : decode cX7_total 119 = .ok (.aload_n 0, 1) := by decide +kernel
theorem dX7_total_120 : decode cX7_total 120 = .ok (.getfield 12, 3) := by decide +kernel
theorem dX7_total_123 : decode cX7_total 123 = .ok (.getfield 157, 3) := by decide +kernel
theorem dX7_total_126 : decode cX7_total 126 = .ok (.ireturn, 1) := by decide +kernel
theorem dX7_total_127 : decode cX7_total 127 = .ok (.aload_n 0, 1) := by decide +kernel
theorem dX7_total_128 : decode cX7_total 128 = .ok (.getfield 12, 3) := by decide +kernel
theorem dX7_total_131 : decode cX7_total 131 = .ok (.getfield 141, 3) := by decide +kernel
theorem dX7_total_134 : decode cX7_total 134 = .ok (.getfield 160, 3) := by decide +kernel
theorem dX7_total_137 : decode cX7_total 137 = .ok (.ireturn, 1) := by decide +kernel
theorem dX7_total_138 : decode cX7_total 138 = .ok (.aload_n 0, 1) := by decide +kernel
theorem dX7_total_139 : decode cX7_total 139 = .ok (.getfield 12, 3) := by decide +kernel
theorem dX7_total_142 : decode cX7_total 142 = .ok (.getfield 141, 3) := by decide +kernel
theorem dX7_total_145 : decode cX7_total 145 = .ok (.getfield 161, 3) := by decide +kernel
theorem dX7_total_148 : decode cX7_total 148 = .ok (.ireturn, 1) := by decide +kernel
theorem dX7_total_149 : decode cX7_total 149 = .ok (.aload_n 0, 1) := by decide +kernel
theorem dX7_total_150 : decode cX7_total 150 = .ok (.getfield 12, 3) := by decide +kernel
theorem dX7_total_153 : decode cX7_total 153 = .ok (.getfield 164, 3) := by decide +kernel
theorem dX7_total_156 : decode cX7_total 156 = .ok (.ireturn, 1) := by decide +kernel
theorem dX7_total_157 : decode cX7_total 157 = .ok (.aload_n 0, 1) := by decide +kernel
theorem dX7_total_158 : decode cX7_total 158 = .ok (.getfield 12, 3) := by decide +kernel
theorem dX7_total_161 : decode cX7_total 161 = .ok (.getfield 167, 3) := by decide +kernel
theorem dX7_total_164 : decode cX7_total 164 = .ok (.ireturn, 1) := by decide +kernel
theorem dX7_total_165 : decode cX7_total 165 = .ok (.aload_n 0, 1) := by decide +kernel
theorem dX7_total_166 : decode cX7_total 166 = .ok (.getfield 12, 3) := by decide +kernel
theorem dX7_total_169 : decode cX7_total 169 = .ok (.getfield 83, 3) := by decide +kernel
theorem dX7_total_172 : decode cX7_total 172 = .ok (.iconst 0, 1) := by decide +kernel
theorem dX7_total_173 : decode cX7_total 173 = .ok (.iaload, 1) := by decide +kernel
theorem dX7_total_174 : decode cX7_total 174 = .ok (.ireturn, 1) := by decide +kernel
theorem dX7_total_175 : decode cX7_total 175 = .ok (.aload_n 0, 1) := by decide +kernel
theorem dX7_total_176 : decode cX7_total 176 = .ok (.getfield 12, 3) := by decide +kernel
theorem dX7_total_179 : decode cX7_total 179 = .ok (.getfield 83, 3) := by decide +kernel
theorem dX7_total_182 : decode cX7_total 182 = .ok (.iconst 1, 1) := by decide +kernel
theorem dX7_total_183 : decode cX7_total 183 = .ok (.iaload, 1) := by decide +kernel
theorem dX7_total_184 : decode cX7_total 184 = .ok (.ireturn, 1) := by decide +kernel
theorem dX7_total_185 : decode cX7_total 185 = .ok (.aload_n 0, 1) := by decide +kernel
theorem dX7_total_186 : decode cX7_total 186 = .ok (.getfield 12, 3) := by decide +kernel
theorem dX7_total_189 : decode cX7_total 189 = .ok (.getfield 83, 3) := by decide +kernel
theorem dX7_total_192 : decode cX7_total 192 = .ok (.iconst 2, 1) := by decide +kernel
theorem dX7_total_193 : decode cX7_total 193 = .ok (.iaload, 1) := by decide +kernel
theorem dX7_total_194 : decode cX7_total 194 = .ok (.ireturn, 1) := by decide +kernel
theorem dX7_total_195 : decode cX7_total 195 = .ok (.aload_n 0, 1) := by decide +kernel
theorem dX7_total_196 : decode cX7_total 196 = .ok (.getfield 29, 3) := by decide +kernel
theorem dX7_total_199 : decode cX7_total 199 = .ok (.getfield 170, 3) := by decide +kernel
theorem dX7_total_202 : decode cX7_total 202 = .ok (.ireturn, 1) := by decide +kernel
theorem dX7_total_203 : decode cX7_total 203 = .ok (.aload_n 0, 1) := by decide +kernel
theorem dX7_total_204 : decode cX7_total 204 = .ok (.getfield 36, 3) := by decide +kernel
theorem dX7_total_207 : decode cX7_total 207 = .ok (.getfield 91, 3) := by decide +kernel
theorem dX7_total_210 : decode cX7_total 210 = .ok (.ireturn, 1) := by decide +kernel
theorem dX7_total_211 : decode cX7_total 211 = .ok (.bipush (-2), 2) := by decide +kernel
theorem dX7_total_213 : decode cX7_total 213 = .ok (.ireturn, 1) := by decide +kernel
set_option maxRecDepth 20000 in
theorem ggX7_next_X2_isQuiet : GoodIn wsX7_next wsX2_isQuiet := goodIn_r _ [7, 8, 9, 23, 24, 25, 26, 27, 28, 29, 30, 31, 32, 33, 34, 35, 36, 37, 38] (by decide +kernel) (by decide +kernel)
set_option maxRecDepth 20000 in
theorem gX7_next_X2_isQuiet : GoodIn wsX7_next (wsV RX7 66 RX2 yX2_isQuiet wsX2_isQuiet) := goodIn_app (goodIn_of _ (by decide +kernel)) ggX7_next_X2_isQuiet
set_option maxRecDepth 20000 in
theorem ggX7_next_X0_firstTime : GoodIn wsX7_next wsX0_firstTime := goodIn_r _ [14, 15, 16, 35, 36, 37, 38] (by decide +kernel) (by decide +kernel)
set_option maxRecDepth 20000 in
theorem gX7_next_X0_firstTime : GoodIn wsX7_next (wsV RX7 171 RX0 yX0_firstTime wsX0_firstTime) := goodIn_app (goodIn_of _ (by decide +kernel)) ggX7_next_X0_firstTime
theorem dX7_next_0 : decode cX7_next 0 = .ok (.aload_n 0, 1) := by decide +kernel
theorem dX7_next_1 : decode cX7_next 1 = .ok (.getfield 12, 3) := by decide +kernel
theorem dX7_next_4 : decode cX7_next 4 = .ok (.invokevirtual 66, 3) := by decide +kernel
theorem dX7_next_7 : decode cX7_next 7 = .ok (.ifCond .eq 8, 3) := by decide +kernel
theorem dX7_next_10 : decode cX7_next 10 = .ok (.bipush (-5), 2) := by decide +kernel
theorem dX7_next_12 : decode cX7_next 12 = .ok (.goto 13, 3) := by decide +kernel
theorem dX7_next_15 : decode cX7_next 15 = .ok (.aload_n 0, 1) := by decide +kernel
theorem dX7_next_16 : decode cX7_next 16 = .ok (.getfield 12, 3) := by decide +kernel
theorem dX7_next_19 : decode cX7_next 19 = .ok (.getfield 148, 3) := by decide +kernel
theorem dX7_next_22 : decode cX7_next 22 = .ok (.invokevirtual 171, 3) := by decide +kernel
theorem dX7_next_25 : decode cX7_next 25 = .ok (.ireturn, 1) := by decide +kernel
set_option maxRecDepth 20000 in
theorem ggX7_quietIn_X2_copyFrom : GoodIn wsX7_quietIn wsX2_copyFrom := goodIn_r _ [9, 10, 11, 12, 13, 14, 15, 16, 17, 18, 19, 20, 21, 22, 23, 24, 25, 26, 27, 28, 29, 30, 31, 32, 33, 34, 35, 36, 37, 38, 39, 40, 41, 42, 43, 44, 45, 46, 47, 48, 49, 50, 51, 52, 53, 54, 55, 56, 57, 58, 59, 60, 61, 62, 63, 64, 65, 66, 67, 68, 69, 70, 171, 172, 173, 174, 175, 176, 177, 178, 179, 180, 181, 182, 183, 184, 185, 186, 187, 188, 189, 190, 191, 192, 193, 194, 195, 196, 197, 198, 199, 200, 201, 202, 203] (by decide +kernel) (by decide +kernel)
set_option maxRecDepth 20000 in
theorem gX7_quietIn_X2_copyFrom : GoodIn wsX7_quietIn (wsV RX7 40 RX2 yX2_copyFrom wsX2_copyFrom) := goodIn_app (goodIn_of _ (by decide +kernel)) ggX7_quietIn_X2_copyFrom
set_option maxRecDepth 20000 in
theorem ggX7_quietIn_X2_letArriveUpTo : GoodIn wsX7_quietIn wsX2_letArriveUpTo := goodIn_r _ [74, 75, 23, 11, 14, 20, 76, 77, 78, 79, 8, 80, 81, 82, 83, 84, 53, 85, 57, 55, 86, 87, 88, 89, 59, 90, 91, 92, 93, 94, 95, 96, 97, 98, 99, 100, 101, 56, 102, 103, 104, 105, 10, 106, 107, 108, 109, 110, 15, 21, 111, 112, 113, 114, 115, 116, 117, 118, 119, 120, 121, 122, 123, 124, 125, 126, 25, 24, 127, 128, 129, 130, 63, 131, 69, 65, 67, 68, 70, 132, 133, 134, 135, 136, 137, 138, 139, 140, 141, 142, 143, 144, 145, 146, 147, 148, 149, 150, 151, 152, 153, 154, 155, 22, 12, 13, 156, 157, 158, 159, 160, 161, 162, 163, 45, 164, 47, 48, 171, 172, 173, 174, 175, 176, 177, 178, 179, 180, 181, 182, 183, 184, 185, 186, 187, 188, 189, 190, 191, 192, 195, 196, 197, 198, 199, 200, 201, 202, 203, 193, 194] (by decide +kernel) (by decide +kernel)
set_option maxRecDepth 20000 in
theorem gX7_quietIn_X2_letArriveUpTo : GoodIn wsX7_quietIn (wsV RX7 71 RX2 yX2_letArriveUpTo wsX2_letArriveUpTo) := goodIn_app (goodIn_of _ (by decide +kernel)) ggX7_quietIn_X2_letArriveUpTo
theorem dX7_quietIn_0 : decode cX7_quietIn 0 = .ok (.aload_n 0, 1) := by decide +kernel
theorem dX7_quietIn_1 : decode cX7_quietIn 1 = .ok (.getfield 16, 3) := by decide +kernel
theorem dX7_quietIn_4 : decode cX7_quietIn 4 = .ok (.aload_n 0, 1) := by decide +kernel
theorem dX7_quietIn_5 : decode cX7_quietIn 5 = .ok (.getfield 12, 3) := by decide +kernel
theorem dX7_quietIn_8 : decode cX7_quietIn 8 = .ok (.invokevirtual 40, 3) := by decide +kernel
theorem dX7_quietIn_11 : decode cX7_quietIn 11 = .ok (.aload_n 0, 1) := by decide +kernel
theorem dX7_quietIn_12 : decode cX7_quietIn 12 = .ok (.getfield 16, 3) := by decide +kernel
theorem dX7_quietIn_15 : decode cX7_quietIn 15 = .ok (.ldc 70, 2) := by decide +kernel
theorem dX7_quietIn_17 : decode cX7_quietIn 17 = .ok (.invokevirtual 71, 3) := by decide +kernel
theorem dX7_quietIn_20 : decode cX7_quietIn 20 = .ok (.aload_n 0, 1) := by decide +kernel
theorem dX7_quietIn_21 : decode cX7_quietIn 21 = .ok (.getfield 16, 3) := by decide +kernel
theorem dX7_quietIn_24 : decode cX7_quietIn 24 = .ok (.getfield 74, 3) := by decide +kernel
theorem dX7_quietIn_27 : decode cX7_quietIn 27 = .ok (.aload_n 0, 1) := by decide +kernel
theorem dX7_quietIn_28 : decode cX7_quietIn 28 = .ok (.getfield 12, 3) := by decide +kernel
theorem dX7_quietIn_31 : decode cX7_quietIn 31 = .ok (.getfield 74, 3) := by decide +kernel
theorem dX7_quietIn_34 : decode cX7_quietIn 34 = .ok (.isub, 1) := by decide +kernel
theorem dX7_quietIn_35 : decode cX7_quietIn 35 = .ok (.ireturn, 1) := by decide +kernel
set_option maxRecDepth 20000 in
theorem ggX7_ifLead_X7_settleTrialWithLead : GoodIn wsX7_ifLead wsX7_settleTrialWithLead := goodIn_r _ [10, 1, 3, 11, 12, 13, 14, 15, 16, 17, 18, 19, 20, 21, 22, 23, 24, 25, 26, 27, 28, 29, 30, 31, 32, 33, 34, 35, 36, 37, 38, 39, 40, 41, 42, 43, 44, 45, 46, 47, 48, 49, 50, 51, 52, 53, 54, 55, 56, 57, 58, 59, 60, 61, 62, 63, 64, 65, 66, 67, 68, 69, 70, 71, 72, 73, 74, 75, 76, 77, 78, 79, 80, 81, 82, 83, 84, 85, 86, 87, 88, 89, 90, 91, 92, 93, 94, 95, 96, 97, 98, 99, 100, 101, 102, 103, 104, 105, 106, 107, 108, 109, 110, 111, 112, 113, 114, 115, 116, 117, 118, 119, 120, 121, 122, 123, 124, 125, 126, 127, 128, 129, 130, 131, 132, 133, 134, 135, 136, 137, 138, 139, 140, 141, 142, 143, 144, 145, 146, 147, 148, 149, 150, 151, 152, 153, 154, 155, 156, 157, 158, 159, 160, 161, 162, 163, 164, 165, 166, 167, 168, 169, 170, 171, 172, 181, 182, 183, 184, 185, 186, 187, 188, 189, 190, 191, 192, 193, 194, 195, 196, 197, 198, 204, 205, 206, 207, 208, 209, 210, 211, 212, 213, 214, 215, 216, 217, 218, 219, 199, 200, 201, 202, 203] (by decide +kernel) (by decide +kernel)
set_option maxRecDepth 20000 in
theorem gX7_ifLead_X7_settleTrialWithLead : GoodIn wsX7_ifLead (wsV RX7 174 RX7 yX7_settleTrialWithLead wsX7_settleTrialWithLead) := goodIn_app (goodIn_of _ (by decide +kernel)) ggX7_ifLead_X7_settleTrialWithLead
set_option maxRecDepth 20000 in
theorem ggX7_ifLead_X7_wrongInTrial : GoodIn wsX7_ifLead wsX7_wrongInTrial := goodIn_r _ [176, 1, 4, 3, 177, 178, 179, 71, 180, 77, 78, 181, 182, 183, 184, 185, 186, 187, 188, 189, 190, 191, 192, 193, 194, 195, 196, 197, 198, 199, 200, 201, 202, 203] (by decide +kernel) (by decide +kernel)
set_option maxRecDepth 20000 in
theorem gX7_ifLead_X7_wrongInTrial : GoodIn wsX7_ifLead (wsV RX7 177 RX7 yX7_wrongInTrial wsX7_wrongInTrial) := goodIn_app (goodIn_of _ (by decide +kernel)) ggX7_ifLead_X7_wrongInTrial
theorem dX7_ifLead_0 : decode cX7_ifLead 0 = .ok (.iload_n 1, 1) := by decide +kernel
theorem dX7_ifLead_1 : decode cX7_ifLead 1 = .ok (.ifCond .lt 18, 3) := by decide +kernel
theorem dX7_ifLead_4 : decode cX7_ifLead 4 = .ok (.iload_n 1, 1) := by decide +kernel
theorem dX7_ifLead_5 : decode cX7_ifLead 5 = .ok (.bipush 20, 2) := by decide +kernel
theorem dX7_ifLead_7 : decode cX7_ifLead 7 = .ok (.if_icmp .gt 12, 3) := by decide +kernel
theorem dX7_ifLead_10 : decode cX7_ifLead 10 = .ok (.iload_n 2, 1) := by decide +kernel
theorem dX7_ifLead_11 : decode cX7_ifLead 11 = .ok (.ifCond .lt 8, 3) := by decide +kernel
theorem dX7_ifLead_14 : decode cX7_ifLead 14 = .ok (.iload_n 2, 1) := by decide +kernel
theorem dX7_ifLead_15 : decode cX7_ifLead 15 = .ok (.iconst 2, 1) := by decide +kernel
theorem dX7_ifLead_16 : decode cX7_ifLead 16 = .ok (.if_icmp .le 6, 3) := by decide +kernel
theorem dX7_ifLead_19 : decode cX7_ifLead 19 = .ok (.bipush (-2), 2) := by decide +kernel
theorem dX7_ifLead_21 : decode cX7_ifLead 21 = .ok (.ireturn, 1) := by decide +kernel
theorem dX7_ifLead_22 : decode cX7_ifLead 22 = .ok (.aload_n 0, 1) := by decide +kernel
theorem dX7_ifLead_23 : decode cX7_ifLead 23 = .ok (.iload_n 1, 1) := by decide +kernel
theorem dX7_ifLead_24 : decode cX7_ifLead 24 = .ok (.invokevirtual 174, 3) := by decide +kernel
theorem dX7_ifLead_27 : decode cX7_ifLead 27 = .ok (.iload_n 2, 1) := by decide +kernel
theorem dX7_ifLead_28 : decode cX7_ifLead 28 = .ok (.lookupswitch 66 #[(0, 28), (1, 44)], 28) := by decide +kernel
theorem dX7_ifLead_56 : decode cX7_ifLead 56 = .ok (.aload_n 0, 1) := by decide +kernel
theorem dX7_ifLead_57 : decode cX7_ifLead 57 = .ok (.getfield 16, 3) := by decide +kernel
theorem dX7_ifLead_60 : decode cX7_ifLead 60 = .ok (.getfield 74, 3) := by decide +kernel
theorem dX7_ifLead_63 : decode cX7_ifLead 63 = .ok (.aload_n 0, 1) := by decide +kernel
theorem dX7_ifLead_64 : decode cX7_ifLead 64 = .ok (.getfield 12, 3) := by decide +kernel
theorem dX7_ifLead_67 : decode cX7_ifLead 67 = .ok (.getfield 74, 3) := by decide +kernel
theorem dX7_ifLead_70 : decode cX7_ifLead 70 = .ok (.isub, 1) := by decide +kernel
theorem dX7_ifLead_71 : decode cX7_ifLead 71 = .ok (.ireturn, 1) := by decide +kernel
theorem dX7_ifLead_72 : decode cX7_ifLead 72 = .ok (.aload_n 0, 1) := by decide +kernel
theorem dX7_ifLead_73 : decode cX7_ifLead 73 = .ok (.getfield 16, 3) := by decide +kernel
theorem dX7_ifLead_76 : decode cX7_ifLead 76 = .ok (.getfield 141, 3) := by decide +kernel
theorem dX7_ifLead_79 : decode cX7_ifLead 79 = .ok (.getfield 160, 3) := by decide +kernel
theorem dX7_ifLead_82 : decode cX7_ifLead 82 = .ok (.aload_n 0, 1) := by decide +kernel
theorem dX7_ifLead_83 : decode cX7_ifLead 83 = .ok (.getfield 12, 3) := by decide +kernel
theorem dX7_ifLead_86 : decode cX7_ifLead 86 = .ok (.getfield 141, 3) := by decide +kernel
theorem dX7_ifLead_89 : decode cX7_ifLead 89 = .ok (.getfield 160, 3) := by decide +kernel
theorem dX7_ifLead_92 : decode cX7_ifLead 92 = .ok (.isub, 1) := by decide +kernel
theorem dX7_ifLead_93 : decode cX7_ifLead 93 = .ok (.ireturn, 1) := by decide +kernel
theorem dX7_ifLead_94 : decode cX7_ifLead 94 = .ok (.aload_n 0, 1) := by decide +kernel
theorem dX7_ifLead_95 : decode cX7_ifLead 95 = .ok (.invokevirtual 177, 3) := by decide +kernel
theorem dX7_ifLead_98 : decode cX7_ifLead 98 = .ok (.ireturn, 1) := by decide +kernel
set_option maxRecDepth 20000 in
theorem ggX7_leastLead_X7_settleTrialWithLead : GoodIn wsX7_leastLead wsX7_settleTrialWithLead := goodIn_r _ [5, 6, 7, 8, 9, 10, 11, 12, 13, 14, 15, 16, 17, 18, 19, 20, 21, 22, 23, 24, 25, 26, 27, 28, 29, 30, 31, 32, 33, 34, 35, 36, 37, 38, 39, 40, 41, 42, 43, 44, 45, 46, 47, 48, 49, 50, 51, 52, 53, 54, 55, 56, 57, 58, 59, 60, 61, 62, 63, 64, 65, 66, 67, 68, 69, 70, 71, 72, 73, 74, 75, 76, 77, 78, 79, 80, 81, 82, 83, 84, 85, 86, 87, 88, 89, 90, 91, 92, 93, 94, 95, 96, 97, 98, 99, 100, 101, 102, 103, 104, 105, 106, 107, 108, 109, 110, 111, 112, 113, 114, 115, 116, 117, 118, 119, 120, 121, 122, 123, 124, 125, 126, 127, 128, 129, 130, 131, 132, 133, 134, 135, 136, 137, 138, 139, 140, 141, 142, 143, 144, 145, 146, 147, 148, 149, 150, 151, 152, 153, 154, 155, 156, 157, 158, 159, 160, 161, 162, 163, 164, 165, 166, 167, 168, 169, 179, 180, 181, 182, 183, 184, 185, 186, 187, 188, 189, 190, 191, 192, 193, 194, 195, 196, 197, 198, 199, 200, 201, 202, 203, 204, 205, 206, 207, 208, 209, 210, 211, 212, 213, 214, 215, 216, 217] (by decide +kernel) (by decide +kernel)
set_option maxRecDepth 20000 in
theorem gX7_leastLead_X7_settleTrialWithLead : GoodIn wsX7_leastLead (wsV RX7 174 RX7 yX7_settleTrialWithLead wsX7_settleTrialWithLead) := goodIn_app (goodIn_of _ (by decide +kernel)) ggX7_leastLead_X7_settleTrialWithLead
set_option maxRecDepth 20000 in
theorem ggX7_leastLead_X7_wrongInTrial : GoodIn wsX7_leastLead wsX7_wrongInTrial := goodIn_r _ [173, 6, 174, 7, 175, 176, 177, 68, 178, 74, 75, 179, 180, 181, 182, 183, 184, 185, 186, 187, 188, 189, 190, 191, 192, 193, 194, 195, 196, 213, 214, 215, 216, 217] (by decide +kernel) (by decide +kernel)
set_option maxRecDepth 20000 in
theorem gX7_leastLead_X7_wrongInTrial : GoodIn wsX7_leastLead (wsV RX7 177 RX7 yX7_wrongInTrial wsX7_wrongInTrial) := goodIn_app (goodIn_of _ (by decide +kernel)) ggX7_leastLead_X7_wrongInTrial
theorem dX7_leastLead_0 : decode cX7_leastLead 0 = .ok (.iconst 0, 1) := by decide +kernel
theorem dX7_leastLead_1 : decode cX7_leastLead 1 = .ok (.istore_n 1, 1) := by decide +kernel
theorem dX7_leastLead_2 : decode cX7_leastLead 2 = .ok (.iload_n 1, 1) := by decide +kernel
theorem dX7_leastLead_3 : decode cX7_leastLead 3 = .ok (.bipush 20, 2) := by decide +kernel
theorem dX7_leastLead_5 : decode cX7_leastLead 5 = .ok (.if_icmp .gt 23, 3) := by decide +kernel
theorem dX7_leastLead_8 : decode cX7_leastLead 8 = .ok (.aload_n 0, 1) := by decide +kernel
theorem dX7_leastLead_9 : decode cX7_leastLead 9 = .ok (.iload_n 1, 1) := by decide +kernel
theorem dX7_leastLead_10 : decode cX7_leastLead 10 = .ok (.invokevirtual 174, 3) := by decide +kernel
theorem dX7_leastLead_13 : decode cX7_leastLead 13 = .ok (.aload_n 0, 1) := by decide +kernel
theorem dX7_leastLead_14 : decode cX7_leastLead 14 = .ok (.invokevirtual 177, 3) := by decide +kernel
theorem dX7_leastLead_17 : decode cX7_leastLead 17 = .ok (.ifCond .ne 5, 3) := by decide +kernel
theorem dX7_leastLead_20 : decode cX7_leastLead 20 = .ok (.iload_n 1, 1) := by decide +kernel
theorem dX7_leastLead_21 : decode cX7_leastLead 21 = .ok (.ireturn, 1) := by decide +kernel
theorem dX7_leastLead_22 : decode cX7_leastLead 22 = .ok (.iinc 1 1, 3) := by decide +kernel
theorem dX7_leastLead_25 : decode cX7_leastLead 25 = .ok (.goto (-23), 3) := by decide +kernel
theorem dX7_leastLead_28 : decode cX7_leastLead 28 = .ok (.bipush (-5), 2) := by decide +kernel
theorem dX7_leastLead_30 : decode cX7_leastLead 30 = .ok (.ireturn, 1) := by decide +kernel
set_option maxRecDepth 20000 in
theorem ggX7_dearest_X7_quietTimeWithLess : GoodIn wsX7_dearest wsX7_quietTimeWithLess := goodIn_r _ [9, 10, 1, 3, 4, 11, 12, 13, 14, 15, 16, 17, 18, 19, 20, 21, 22, 23, 24, 25, 26, 27, 28, 29, 30, 31, 32, 33, 34, 35, 36, 37, 38, 39, 40, 41, 42, 43, 44, 45, 46, 47, 48, 49, 50, 51, 52, 53, 54, 55, 56, 57, 58, 59, 60, 61, 62, 63, 64, 65, 66, 67, 68, 69, 70, 71, 72, 73, 74, 75, 76, 77, 78, 79, 80, 81, 82, 83, 84, 85, 86, 87, 88, 89, 90, 91, 92, 93, 94, 95, 96, 97, 98, 99, 100, 101, 102, 103, 104, 105, 106, 107, 108, 109, 110, 111, 112, 113, 114, 115, 116, 117, 118, 119, 120, 121, 122, 123, 124, 125, 126, 127, 128, 129, 130, 131, 132, 133, 134, 135, 136, 137, 138, 139, 140, 141, 142, 143, 144, 145, 146, 147, 148, 149, 150, 151, 152, 153, 154, 155, 156, 157, 158, 159, 160, 161, 162, 163, 164, 165, 166, 167, 168, 169, 170, 171, 172, 173, 174, 175, 176, 177, 178, 179, 180, 181, 182, 183, 184, 185, 186, 187, 188, 189, 190, 191, 192, 193, 194, 195, 196, 197, 198, 199, 200, 201, 202, 203, 204, 205, 206, 207, 208, 209, 210, 211] (by decide +kernel) (by decide +kernel)
set_option maxRecDepth 20000 in
theorem gX7_dearest_X7_quietTimeWithLess : GoodIn wsX7_dearest (wsV RX7 183 RX7 yX7_quietTimeWithLess wsX7_quietTimeWithLess) := goodIn_app (goodIn_of _ (by decide +kernel)) ggX7_dearest_X7_quietTimeWithLess
theorem dX7_dearest_0 : decode cX7_dearest 0 = .ok (.bipush (-5), 2) := by decide +kernel
theorem dX7_dearest_2 : decode cX7_dearest 2 = .ok (.istore_n 1, 1) := by decide +kernel
theorem dX7_dearest_3 : decode cX7_dearest 3 = .ok (.iconst 0, 1) := by decide +kernel
theorem dX7_dearest_4 : decode cX7_dearest 4 = .ok (.istore_n 2, 1) := by decide +kernel
theorem dX7_dearest_5 : decode cX7_dearest 5 = .ok (.iconst 0, 1) := by decide +kernel
theorem dX7_dearest_6 : decode cX7_dearest 6 = .ok (.istore_n 3, 1) := by decide +kernel
theorem dX7_dearest_7 : decode cX7_dearest 7 = .ok (.iload_n 3, 1) := by decide +kernel
theorem dX7_dearest_8 : decode cX7_dearest 8 = .ok (.aload_n 0, 1) := by decide +kernel
theorem dX7_dearest_9 : decode cX7_dearest 9 = .ok (.getfield 12, 3) := by decide +kernel
theorem dX7_dearest_12 : decode cX7_dearest 12 = .ok (.getfield 126, 3) := by decide +kernel
theorem dX7_dearest_15 : decode cX7_dearest 15 = .ok (.if_icmp .gt 75, 3) := by decide +kernel
theorem dX7_dearest_18 : decode cX7_dearest 18 = .ok (.iconst 0, 1) := by decide +kernel
theorem dX7_dearest_19 : decode cX7_dearest 19 = .ok (.istore 4, 2) := by decide +kernel
theorem dX7_dearest_21 : decode cX7_dearest 21 = .ok (.iload 4, 2) := by decide +kernel
theorem dX7_dearest_23 : decode cX7_dearest 23 = .ok (.iconst 3, 1) := by decide +kernel
theorem dX7_dearest_24 : decode cX7_dearest 24 = .ok (.if_icmp .ge 60, 3) := by decide +kernel
theorem dX7_dearest_27 : decode cX7_dearest 27 = .ok (.aload_n 0, 1) := by decide +kernel
theorem dX7_dearest_28 : decode cX7_dearest 28 = .ok (.getfield 12, 3) := by decide +kernel
theorem dX7_dearest_31 : decode cX7_dearest 31 = .ok (.getfield 117, 3) := by decide +kernel
theorem dX7_dearest_34 : decode cX7_dearest 34 = .ok (.iload_n 3, 1) := by decide +kernel
theorem dX7_dearest_35 : decode cX7_dearest 35 = .ok (.aaload, 1) := by decide +kernel
theorem dX7_dearest_36 : decode cX7_dearest 36 = .ok (.getfield 180, 3) := by decide +kernel
theorem dX7_dearest_39 : decode cX7_dearest 39 = .ok (.iload 4, 2) := by decide +kernel
theorem dX7_dearest_41 : decode cX7_dearest 41 = .ok (.iaload, 1) := by decide +kernel
theorem dX7_dearest_42 : decode cX7_dearest 42 = .ok (.iconst 1, 1) := by decide +kernel
theorem dX7_dearest_43 : decode cX7_dearest 43 = .ok (.if_icmp .le 35, 3) := by decide +kernel
theorem dX7_dearest_46 : decode cX7_dearest 46 = .ok (.aload_n 0, 1) := by decide +kernel
theorem dX7_dearest_47 : decode cX7_dearest 47 = .ok (.iload_n 3, 1) := by decide +kernel
theorem dX7_dearest_48 : decode cX7_dearest 48 = .ok (.iload 4, 2) := by decide +kernel
theorem dX7_dearest_50 : decode cX7_dearest 50 = .ok (.invokevirtual 183, 3) := by decide +kernel
theorem dX7_dearest_53 : decode cX7_dearest 53 = .ok (.istore 5, 2) := by decide +kernel
theorem dX7_dearest_55 : decode cX7_dearest 55 = .ok (.iload_n 1, 1) := by decide +kernel
theorem dX7_dearest_56 : decode cX7_dearest 56 = .ok (.bipush (-5), 2) := by decide +kernel
theorem dX7_dearest_58 : decode cX7_dearest 58 = .ok (.if_icmp .eq 9, 3) := by decide +kernel
theorem dX7_dearest_61 : decode cX7_dearest 61 = .ok (.iload 5, 2) := by decide +kernel
theorem dX7_dearest_63 : decode cX7_dearest 63 = .ok (.iload_n 2, 1) := by decide +kernel
theorem dX7_dearest_64 : decode cX7_dearest 64 = .ok (.if_icmp .ge 14, 3) := by decide +kernel
theorem dX7_dearest_67 : decode cX7_dearest 67 = .ok (.bipush 10, 2) := by decide +kernel
theorem dX7_dearest_69 : decode cX7_dearest 69 = .ok (.iload_n 3, 1) := by decide +kernel
theorem dX7_dearest_70 : decode cX7_dearest 70 = .ok (.imul, 1) := by decide +kernel
theorem dX7_dearest_71 : decode cX7_dearest 71 = .ok (.iload 4, 2) := by decide +kernel
theorem dX7_dearest_73 : decode cX7_dearest 73 = .ok (.iadd, 1) := by decide +kernel
theorem dX7_dearest_74 : decode cX7_dearest 74 = .ok (.istore_n 1, 1) := by decide +kernel
theorem dX7_dearest_75 : decode cX7_dearest 75 = .ok (.iload 5, 2) := by decide +kernel
theorem dX7_dearest_77 : decode cX7_dearest 77 = .ok (.istore_n 2, 1) := by decide +kernel
theorem dX7_dearest_78 : decode cX7_dearest 78 = .ok (.iinc 4 1, 3) := by decide +kernel
theorem dX7_dearest_81 : decode cX7_dearest 81 = .ok (.goto (-60), 3) := by decide +kernel
theorem dX7_dearest_84 : decode cX7_dearest 84 = .ok (.iinc 3 1, 3) := by decide +kernel
theorem dX7_dearest_87 : decode cX7_dearest 87 = .ok (.goto (-80), 3) := by decide +kernel
theorem dX7_dearest_90 : decode cX7_dearest 90 = .ok (.iload_n 1, 1) := by decide +kernel
theorem dX7_dearest_91 : decode cX7_dearest 91 = .ok (.ireturn, 1) := by decide +kernel
set_option maxRecDepth 20000 in
theorem ggX7_accept_X1_record : GoodIn wsX7_accept wsX1_record := goodIn_r _ [8, 9, 10, 11, 12, 13, 7, 14, 15, 16, 17, 18, 19, 20, 21, 22, 23, 24, 25, 26, 27, 28, 29, 30, 31, 32, 33, 34, 35, 36, 37, 38, 39, 40, 41, 42, 43, 44, 45, 46, 47, 48, 49, 50, 51, 52, 53, 54, 55, 56, 57, 58, 59, 60, 61, 62, 63, 64, 65, 66, 67, 68, 69, 70, 71, 72, 73, 74, 75, 76, 77, 78, 79, 80, 88, 89, 90, 91, 92, 93, 94, 95, 96, 97, 98, 99, 100, 101, 102, 103, 104, 105, 106, 107, 108, 109, 110, 111, 112, 113, 114, 115, 116, 117, 118, 119, 120, 121, 122] (by decide +kernel) (by decide +kernel)
set_option maxRecDepth 20000 in
theorem gX7_accept_X1_record : GoodIn wsX7_accept (wsV RX7 186 RX1 yX1_record wsX1_record) := goodIn_app (goodIn_of _ (by decide +kernel)) ggX7_accept_X1_record
set_option maxRecDepth 20000 in
theorem ggX7_accept_X2_copyFrom : GoodIn wsX7_accept wsX2_copyFrom := goodIn_r _ [19, 20, 21, 22, 23, 24, 25, 26, 27, 28, 29, 30, 31, 32, 33, 34, 35, 36, 37, 38, 39, 40, 41, 42, 43, 44, 45, 46, 47, 48, 49, 50, 51, 52, 53, 54, 55, 56, 57, 58, 59, 60, 61, 62, 63, 64, 65, 66, 67, 68, 69, 70, 71, 72, 73, 74, 75, 76, 77, 78, 79, 80, 90, 91, 92, 93, 94, 95, 96, 97, 98, 99, 100, 101, 102, 103, 104, 105, 106, 107, 108, 109, 110, 111, 112, 113, 114, 115, 116, 117, 118, 119, 120, 121, 122] (by decide +kernel) (by decide +kernel)
set_option maxRecDepth 20000 in
theorem gX7_accept_X2_copyFrom : GoodIn wsX7_accept (wsV RX7 40 RX2 yX2_copyFrom wsX2_copyFrom) := goodIn_app (goodIn_of _ (by decide +kernel)) ggX7_accept_X2_copyFrom
theorem dX7_accept_0 : decode cX7_accept 0 = .ok (.iload_n 1, 1) := by decide +kernel
theorem dX7_accept_1 : decode cX7_accept 1 = .ok (.ifCond .ge 5, 3) := by decide +kernel
theorem dX7_accept_4 : decode cX7_accept 4 = .ok (.iload_n 1, 1) := by decide +kernel
theorem dX7_accept_5 : decode cX7_accept 5 = .ok (.ireturn, 1) := by decide +kernel
theorem dX7_accept_6 : decode cX7_accept 6 = .ok (.aload_n 0, 1) := by decide +kernel
theorem dX7_accept_7 : decode cX7_accept 7 = .ok (.getfield 29, 3) := by decide +kernel
theorem dX7_accept_10 : decode cX7_accept 10 = .ok (.aload_n 0, 1) := by decide +kernel
theorem dX7_accept_11 : decode cX7_accept 11 = .ok (.getfield 12, 3) := by decide +kernel
theorem dX7_accept_14 : decode cX7_accept 14 = .ok (.invokevirtual 186, 3) := by decide +kernel
theorem dX7_accept_17 : decode cX7_accept 17 = .ok (.aload_n 0, 1) := by decide +kernel
theorem dX7_accept_18 : decode cX7_accept 18 = .ok (.getfield 12, 3) := by decide +kernel
theorem dX7_accept_21 : decode cX7_accept 21 = .ok (.aload_n 0, 1) := by decide +kernel
theorem dX7_accept_22 : decode cX7_accept 22 = .ok (.getfield 16, 3) := by decide +kernel
theorem dX7_accept_25 : decode cX7_accept 25 = .ok (.invokevirtual 40, 3) := by decide +kernel
theorem dX7_accept_28 : decode cX7_accept 28 = .ok (.iload_n 1, 1) := by decide +kernel
theorem dX7_accept_29 : decode cX7_accept 29 = .ok (.ireturn, 1) := by decide +kernel
set_option maxRecDepth 20000 in
theorem ggX7_settleTrialWithLead_X2_copyFrom : GoodIn wsX7_settleTrialWithLead wsX2_copyFrom := goodIn_r _ [9, 10, 11, 12, 13, 14, 15, 16, 17, 18, 19, 20, 21, 22, 23, 24, 25, 26, 27, 28, 29, 30, 31, 32, 33, 34, 35, 36, 37, 38, 39, 40, 41, 42, 43, 44, 45, 46, 47, 48, 49, 50, 51, 52, 53, 54, 55, 56, 57, 58, 59, 60, 61, 62, 63, 64, 65, 66, 67, 68, 69, 70, 171, 172, 173, 174, 175, 176, 177, 178, 179, 180, 181, 182, 183, 184, 185, 186, 187, 188, 189, 190, 191, 192, 193, 194, 195, 196, 197, 198, 199, 200, 201, 202, 203] (by decide +kernel) (by decide +kernel)
set_option maxRecDepth 20000 in
theorem gX7_settleTrialWithLead_X2_copyFrom : GoodIn wsX7_settleTrialWithLead (wsV RX7 40 RX2 yX2_copyFrom wsX2_copyFrom) := goodIn_app (goodIn_of _ (by decide +kernel)) ggX7_settleTrialWithLead_X2_copyFrom
set_option maxRecDepth 20000 in
theorem ggX7_settleTrialWithLead_X2_letArriveUpTo : GoodIn wsX7_settleTrialWithLead wsX2_letArriveUpTo := goodIn_r _ [74, 75, 23, 11, 14, 20, 76, 77, 78, 79, 8, 80, 81, 82, 83, 84, 53, 85, 57, 55, 86, 87, 88, 89, 59, 90, 91, 92, 93, 94, 95, 96, 97, 98, 99, 100, 101, 56, 102, 103, 104, 105, 10, 106, 107, 108, 109, 110, 15, 21, 111, 112, 113, 114, 115, 116, 117, 118, 119, 120, 121, 122, 123, 124, 125, 126, 25, 24, 127, 128, 129, 130, 63, 131, 69, 65, 67, 68, 70, 132, 133, 134, 135, 136, 137, 138, 139, 140, 141, 142, 143, 144, 145, 146, 147, 148, 149, 150, 151, 152, 153, 154, 155, 22, 12, 13, 156, 157, 158, 159, 160, 161, 162, 163, 45, 164, 47, 48, 171, 172, 173, 174, 175, 176, 177, 178, 179, 180, 181, 182, 183, 184, 185, 186, 187, 188, 189, 190, 191, 192, 195, 196, 197, 198, 199, 200, 201, 202, 203, 193, 194] (by decide +kernel) (by decide +kernel)
set_option maxRecDepth 20000 in
theorem gX7_settleTrialWithLead_X2_letArriveUpTo : GoodIn wsX7_settleTrialWithLead (wsV RX7 71 RX2 yX2_letArriveUpTo wsX2_letArriveUpTo) := goodIn_app (goodIn_of _ (by decide +kernel)) ggX7_settleTrialWithLead_X2_letArriveUpTo
theorem dX7_settleTrialWithLead_0 : decode cX7_settleTrialWithLead 0 = .ok (.aload_n 0, 1) := by decide +kernel
theorem dX7_settleTrialWithLead_1 : decode cX7_settleTrialWithLead 1 = .ok (.getfield 16, 3) := by decide +kernel
theorem dX7_settleTrialWithLead_4 : decode cX7_settleTrialWithLead 4 = .ok (.aload_n 0, 1) := by decide +kernel
theorem dX7_settleTrialWithLead_5 : decode cX7_settleTrialWithLead 5 = .ok (.getfield 12, 3) := by decide +kernel
theorem dX7_settleTrialWithLead_8 : decode cX7_settleTrialWithLead 8 = .ok (.invokevirtual 40, 3) := by decide +kernel
theorem dX7_settleTrialWithLead_11 : decode cX7_settleTrialWithLead 11 = .ok (.aload_n 0, 1) := by decide +kernel
theorem dX7_settleTrialWithLead_12 : decode cX7_settleTrialWithLead 12 = .ok (.getfield 16, 3) := by decide +kernel
theorem dX7_settleTrialWithLead_15 : decode cX7_settleTrialWithLead 15 = .ok (.getfield 83, 3) := by decide +kernel
theorem dX7_settleTrialWithLead_18 : decode cX7_settleTrialWithLead 18 = .ok (.iconst 0, 1) := by decide +kernel
theorem dX7_settleTrialWithLead_19 : decode cX7_settleTrialWithLead 19 = .ok (.iload_n 1, 1) := by decide +kernel
theorem dX7_settleTrialWithLead_20 : decode cX7_settleTrialWithLead 20 = .ok (.iastore, 1) := by decide +kernel
theorem dX7_settleTrialWithLead_21 : decode cX7_settleTrialWithLead 21 = .ok (.aload_n 0, 1) := by decide +kernel
theorem dX7_settleTrialWithLead_22 : decode cX7_settleTrialWithLead 22 = .ok (.getfield 16, 3) := by decide +kernel
theorem dX7_settleTrialWithLead_25 : decode cX7_settleTrialWithLead 25 = .ok (.ldc 70, 2) := by decide +kernel
theorem dX7_settleTrialWithLead_27 : decode cX7_settleTrialWithLead 27 = .ok (.invokevirtual 71, 3) := by decide +kernel
theorem dX7_settleTrialWithLead_30 : decode cX7_settleTrialWithLead 30 = .ok (.return_, 1) := by decide +kernel
set_option maxRecDepth 20000 in
theorem ggX7_wrongInTrial_X4_wrongWords : GoodIn wsX7_wrongInTrial wsX4_wrongWords := goodIn_r _ [8, 9, 10, 29, 30, 31, 32, 33] (by decide +kernel) (by decide +kernel)
set_option maxRecDepth 20000 in
theorem gX7_wrongInTrial_X4_wrongWords : GoodIn wsX7_wrongInTrial (wsV RX7 189 RX4 yX4_wrongWords wsX4_wrongWords) := goodIn_app (goodIn_of _ (by decide +kernel)) ggX7_wrongInTrial_X4_wrongWords
theorem dX7_wrongInTrial_0 : decode cX7_wrongInTrial 0 = .ok (.aload_n 0, 1) := by decide +kernel
theorem dX7_wrongInTrial_1 : decode cX7_wrongInTrial 1 = .ok (.getfield 16, 3) := by decide +kernel
theorem dX7_wrongInTrial_4 : decode cX7_wrongInTrial 4 = .ok (.getfield 141, 3) := by decide +kernel
theorem dX7_wrongInTrial_7 : decode cX7_wrongInTrial 7 = .ok (.invokevirtual 189, 3) := by decide +kernel
theorem dX7_wrongInTrial_10 : decode cX7_wrongInTrial 10 = .ok (.aload_n 0, 1) := by decide +kernel
theorem dX7_wrongInTrial_11 : decode cX7_wrongInTrial 11 = .ok (.getfield 12, 3) := by decide +kernel
theorem dX7_wrongInTrial_14 : decode cX7_wrongInTrial 14 = .ok (.getfield 141, 3) := by decide +kernel
theorem dX7_wrongInTrial_17 : decode cX7_wrongInTrial 17 = .ok (.invokevirtual 189, 3) := by decide +kernel
theorem dX7_wrongInTrial_20 : decode cX7_wrongInTrial 20 = .ok (.isub, 1) := by decide +kernel
theorem dX7_wrongInTrial_21 : decode cX7_wrongInTrial 21 = .ok (.ireturn, 1) := by decide +kernel
set_option maxRecDepth 20000 in
theorem ggX7_quietTimeWithLess_X2_copyFrom : GoodIn wsX7_quietTimeWithLess wsX2_copyFrom := goodIn_r _ [11, 12, 13, 14, 15, 16, 17, 18, 19, 20, 21, 22, 23, 24, 25, 26, 27, 28, 29, 30, 31, 32, 33, 34, 35, 36, 37, 38, 39, 40, 41, 42, 43, 44, 45, 46, 47, 48, 49, 50, 51, 52, 53, 54, 55, 56, 57, 58, 59, 60, 61, 62, 63, 64, 65, 66, 67, 68, 69, 70, 71, 72, 173, 174, 175, 176, 177, 178, 179, 180, 181, 182, 183, 184, 185, 186, 187, 188, 189, 190, 191, 192, 193, 194, 195, 196, 197, 198, 199, 200, 201, 202, 203, 204, 205] (by decide +kernel) (by decide +kernel)
set_option maxRecDepth 20000 in
theorem gX7_quietTimeWithLess_X2_copyFrom : GoodIn wsX7_quietTimeWithLess (wsV RX7 40 RX2 yX2_copyFrom wsX2_copyFrom) := goodIn_app (goodIn_of _ (by decide +kernel)) ggX7_quietTimeWithLess_X2_copyFrom
set_option maxRecDepth 20000 in
theorem ggX7_quietTimeWithLess_X2_letArriveUpTo : GoodIn wsX7_quietTimeWithLess wsX2_letArriveUpTo := goodIn_r _ [76, 77, 25, 13, 16, 22, 78, 79, 80, 81, 10, 82, 83, 84, 85, 86, 55, 87, 59, 57, 88, 89, 90, 91, 61, 92, 93, 94, 95, 96, 97, 98, 99, 100, 101, 102, 103, 58, 104, 105, 106, 107, 12, 108, 109, 110, 111, 112, 17, 23, 113, 114, 115, 116, 117, 118, 119, 120, 121, 122, 123, 124, 125, 126, 127, 128, 27, 26, 129, 130, 131, 132, 65, 133, 71, 67, 69, 70, 72, 134, 135, 136, 137, 138, 139, 140, 141, 142, 143, 144, 145, 146, 147, 148, 149, 150, 151, 152, 153, 154, 155, 156, 157, 24, 14, 15, 158, 159, 160, 161, 162, 163, 164, 165, 47, 166, 49, 50, 173, 174, 175, 176, 177, 178, 179, 180, 181, 182, 183, 184, 185, 186, 187, 188, 189, 190, 191, 192, 193, 194, 197, 198, 199, 200, 201, 202, 203, 204, 205, 195, 196] (by decide +kernel) (by decide +kernel)
set_option maxRecDepth 20000 in
theorem gX7_quietTimeWithLess_X2_letArriveUpTo : GoodIn wsX7_quietTimeWithLess (wsV RX7 71 RX2 yX2_letArriveUpTo wsX2_letArriveUpTo) := goodIn_app (goodIn_of _ (by decide +kernel)) ggX7_quietTimeWithLess_X2_letArriveUpTo
theorem dX7_quietTimeWithLess_0 : decode cX7_quietTimeWithLess 0 = .ok (.aload_n 0, 1) := by decide +kernel
theorem dX7_quietTimeWithLess_1 : decode cX7_quietTimeWithLess 1 = .ok (.getfield 16, 3) := by decide +kernel
theorem dX7_quietTimeWithLess_4 : decode cX7_quietTimeWithLess 4 = .ok (.aload_n 0, 1) := by decide +kernel
theorem dX7_quietTimeWithLess_5 : decode cX7_quietTimeWithLess 5 = .ok (.getfield 12, 3) := by decide +kernel
theorem dX7_quietTimeWithLess_8 : decode cX7_quietTimeWithLess 8 = .ok (.invokevirtual 40, 3) := by decide +kernel
theorem dX7_quietTimeWithLess_11 : decode cX7_quietTimeWithLess 11 = .ok (.aload_n 0, 1) := by decide +kernel
theorem dX7_quietTimeWithLess_12 : decode cX7_quietTimeWithLess 12 = .ok (.getfield 16, 3) := by decide +kernel
theorem dX7_quietTimeWithLess_15 : decode cX7_quietTimeWithLess 15 = .ok (.getfield 117, 3) := by decide +kernel
theorem dX7_quietTimeWithLess_18 : decode cX7_quietTimeWithLess 18 = .ok (.iload_n 1, 1) := by decide +kernel
theorem dX7_quietTimeWithLess_19 : decode cX7_quietTimeWithLess 19 = .ok (.aaload, 1) := by decide +kernel
theorem dX7_quietTimeWithLess_20 : decode cX7_quietTimeWithLess 20 = .ok (.getfield 180, 3) := by decide +kernel
theorem dX7_quietTimeWithLess_23 : decode cX7_quietTimeWithLess 23 = .ok (.iload_n 2, 1) := by decide +kernel
theorem dX7_quietTimeWithLess_24 : decode cX7_quietTimeWithLess 24 = .ok (.dup2, 1) := by decide +kernel
theorem dX7_quietTimeWithLess_25 : decode cX7_quietTimeWithLess 25 = .ok (.iaload, 1) := by decide +kernel
theorem dX7_quietTimeWithLess_26 : decode cX7_quietTimeWithLess 26 = .ok (.iconst 1, 1) := by decide +kernel
theorem dX7_quietTimeWithLess_27 : decode cX7_quietTimeWithLess 27 = .ok (.isub, 1) := by decide +kernel
theorem dX7_quietTimeWithLess_28 : decode cX7_quietTimeWithLess 28 = .ok (.iastore, 1) := by decide +kernel
theorem dX7_quietTimeWithLess_29 : decode cX7_quietTimeWithLess 29 = .ok (.aload_n 0, 1) := by decide +kernel
theorem dX7_quietTimeWithLess_30 : decode cX7_quietTimeWithLess 30 = .ok (.getfield 16, 3) := by decide +kernel
theorem dX7_quietTimeWithLess_33 : decode cX7_quietTimeWithLess 33 = .ok (.ldc 70, 2) := by decide +kernel
theorem dX7_quietTimeWithLess_35 : decode cX7_quietTimeWithLess 35 = .ok (.invokevirtual 71, 3) := by decide +kernel
theorem dX7_quietTimeWithLess_38 : decode cX7_quietTimeWithLess 38 = .ok (.aload_n 0, 1) := by decide +kernel
theorem dX7_quietTimeWithLess_39 : decode cX7_quietTimeWithLess 39 = .ok (.getfield 16, 3) := by decide +kernel
theorem dX7_quietTimeWithLess_42 : decode cX7_quietTimeWithLess 42 = .ok (.getfield 74, 3) := by decide +kernel
theorem dX7_quietTimeWithLess_45 : decode cX7_quietTimeWithLess 45 = .ok (.ireturn, 1) := by decide +kernel
set_option maxRecDepth 20000 in
theorem ggX8_init_X8_clean : GoodIn wsX8_init wsX8_clean := goodIn_r _ [14, 5, 15, 16, 17, 18, 19, 20, 21, 22, 23, 24, 25, 26] (by decide +kernel) (by decide +kernel)
set_option maxRecDepth 20000 in
theorem gX8_init_X8_clean : GoodIn wsX8_init (wsV RX8 25 RX8 yX8_clean wsX8_clean) := goodIn_app (goodIn_of _ (by decide +kernel)) ggX8_init_X8_clean
theorem dX8_init_0 : decode cX8_init 0 = .ok (.aload_n 0, 1) := by decide +kernel
theorem dX8_init_1 : decode cX8_init 1 = .ok (.invokespecial 1, 3) := by decide +kernel
theorem dX8_init_4 : decode cX8_init 4 = .ok (.aload_n 0, 1) := by decide +kernel
theorem dX8_init_5 : decode cX8_init 5 = .ok (.sipush 719, 3) := by decide +kernel
theorem dX8_init_8 : decode cX8_init 8 = .ok (.newarray .int, 2) := by decide +kernel
theorem dX8_init_10 : decode cX8_init 10 = .ok (.putfield 7, 3) := by decide +kernel
theorem dX8_init_13 : decode cX8_init 13 = .ok (.aload_n 0, 1) := by decide +kernel
theorem dX8_init_14 : decode cX8_init 14 = .ok (.sipush 719, 3) := by decide +kernel
theorem dX8_init_17 : decode cX8_init 17 = .ok (.newarray .int, 2) := by decide +kernel
theorem dX8_init_19 : decode cX8_init 19 = .ok (.putfield 13, 3) := by decide +kernel
theorem dX8_init_22 : decode cX8_init 22 = .ok (.aload_n 0, 1) := by decide +kernel
theorem dX8_init_23 : decode cX8_init 23 = .ok (.sipush 2876, 3) := by decide +kernel
theorem dX8_init_26 : decode cX8_init 26 = .ok (.newarray .int, 2) := by decide +kernel
theorem dX8_init_28 : decode cX8_init 28 = .ok (.putfield 16, 3) := by decide +kernel
theorem dX8_init_31 : decode cX8_init 31 = .ok (.aload_n 0, 1) := by decide +kernel
theorem dX8_init_32 : decode cX8_init 32 = .ok (.sipush 719, 3) := by decide +kernel
theorem dX8_init_35 : decode cX8_init 35 = .ok (.newarray .int, 2) := by decide +kernel
theorem dX8_init_37 : decode cX8_init 37 = .ok (.putfield 19, 3) := by decide +kernel
theorem dX8_init_40 : decode cX8_init 40 = .ok (.aload_n 0, 1) := by decide +kernel
theorem dX8_init_41 : decode cX8_init 41 = .ok (.bipush 60, 2) := by decide +kernel
theorem dX8_init_43 : decode cX8_init 43 = .ok (.newarray .int, 2) := by decide +kernel
theorem dX8_init_45 : decode cX8_init 45 = .ok (.putfield 22, 3) := by decide +kernel
theorem dX8_init_48 : decode cX8_init 48 = .ok (.aload_n 0, 1) := by decide +kernel
theorem dX8_init_49 : decode cX8_init 49 = .ok (.getfield 7, 3) := by decide +kernel
theorem dX8_init_52 : decode cX8_init 52 = .ok (.iconst 0, 1) := by decide +kernel
theorem dX8_init_53 : decode cX8_init 53 = .ok (.iconst 1, 1) := by decide +kernel
theorem dX8_init_54 : decode cX8_init 54 = .ok (.iastore, 1) := by decide +kernel
theorem dX8_init_55 : decode cX8_init 55 = .ok (.aload_n 0, 1) := by decide +kernel
theorem dX8_init_56 : decode cX8_init 56 = .ok (.iconst 3, 1) := by decide +kernel
theorem dX8_init_57 : decode cX8_init 57 = .ok (.invokevirtual 25, 3) := by decide +kernel
theorem dX8_init_60 : decode cX8_init 60 = .ok (.return_, 1) := by decide +kernel
theorem dX8_within_0 : decode cX8_within 0 = .ok (.iload_n 0, 1) := by decide +kernel
theorem dX8_within_1 : decode cX8_within 1 = .ok (.iload_n 1, 1) := by decide +kernel
theorem dX8_within_2 : decode cX8_within 2 = .ok (.if_icmp .lt 12, 3) := by decide +kernel
theorem dX8_within_5 : decode cX8_within 5 = .ok (.iload_n 0, 1) := by decide +kernel
theorem dX8_within_6 : decode cX8_within 6 = .ok (.iload_n 2, 1) := by decide +kernel
theorem dX8_within_7 : decode cX8_within 7 = .ok (.if_icmp .gt 7, 3) := by decide +kernel
theorem dX8_within_10 : decode cX8_within 10 = .ok (.iconst 1, 1) := by decide +kernel
theorem dX8_within_11 : decode cX8_within 11 = .ok (.goto 4, 3) := by decide +kernel
theorem dX8_within_14 : decode cX8_within 14 = .ok (.iconst 0, 1) := by decide +kernel
theorem dX8_within_15 : decode cX8_within 15 = .ok (.ireturn, 1) := by decide +kernel
set_option maxRecDepth 20000 in
theorem ggX8_isLink_X8_within : GoodIn wsX8_isLink wsX8_within := goodIn_r _ [5] (by decide +kernel) (by decide +kernel)
set_option maxRecDepth 20000 in
theorem gX8_isLink_X8_within : GoodIn wsX8_isLink (va_wsS RX8 29 yX8_within wsX8_within) := goodIn_app (goodIn_of _ (by decide +kernel)) ggX8_isLink_X8_within
theorem dX8_isLink_0 : decode cX8_isLink 0 = .ok (.iload_n 1, 1) := by decide +kernel
theorem dX8_isLink_1 : decode cX8_isLink 1 = .ok (.iconst 0, 1) := by decide +kernel
theorem dX8_isLink_2 : decode cX8_isLink 2 = .ok (.aload_n 0, 1) := by decide +kernel
theorem dX8_isLink_3 : decode cX8_isLink 3 = .ok (.getfield 7, 3) := by decide +kernel
theorem dX8_isLink_6 : decode cX8_isLink 6 = .ok (.iconst 3, 1) := by decide +kernel
theorem dX8_isLink_7 : decode cX8_isLink 7 = .ok (.iaload, 1) := by decide +kernel
theorem dX8_isLink_8 : decode cX8_isLink 8 = .ok (.invokestatic 29, 3) := by decide +kernel
theorem dX8_isLink_11 : decode cX8_isLink 11 = .ok (.ireturn, 1) := by decide +kernel
set_option maxRecDepth 20000 in
theorem ggX8_isWire_X8_within : GoodIn wsX8_isWire wsX8_within := goodIn_r _ [4] (by decide +kernel) (by decide +kernel)
set_option maxRecDepth 20000 in
theorem gX8_isWire_X8_within : GoodIn wsX8_isWire (va_wsS RX8 29 yX8_within wsX8_within) := goodIn_app (goodIn_of _ (by decide +kernel)) ggX8_isWire_X8_within
theorem dX8_isWire_0 : decode cX8_isWire 0 = .ok (.iload_n 0, 1) := by decide +kernel
theorem dX8_isWire_1 : decode cX8_isWire 1 = .ok (.iconst 0, 1) := by decide +kernel
theorem dX8_isWire_2 : decode cX8_isWire 2 = .ok (.iconst 2, 1) := by decide +kernel
theorem dX8_isWire_3 : decode cX8_isWire 3 = .ok (.invokestatic 29, 3) := by decide +kernel
theorem dX8_isWire_6 : decode cX8_isWire 6 = .ok (.ireturn, 1) := by decide +kernel
set_option maxRecDepth 20000 in
theorem ggX8_isSender_X8_within : GoodIn wsX8_isSender wsX8_within := goodIn_r _ [4] (by decide +kernel) (by decide +kernel)
set_option maxRecDepth 20000 in
theorem gX8_isSender_X8_within : GoodIn wsX8_isSender (va_wsS RX8 29 yX8_within wsX8_within) := goodIn_app (goodIn_of _ (by decide +kernel)) ggX8_isSender_X8_within
