set_option maxRecDepth 20000 in
theorem gX3_loudFor_X3_isPlayer : GoodIn wsX3_loudFor (wsV RX3 81 RX3 yX3_isPlayer wsX3_isPlayer) := goodIn_app (goodIn_of _ (by decide +kernel)) ggX3_loudFor_X3_isPlayer
set_option maxRecDepth 20000 in
theorem ggX3_loudFor_X3_isSeat : GoodIn wsX3_loudFor wsX3_isSeat := goodIn_r _ [16] (by decide +kernel) (by decide +kernel)
set_option maxRecDepth 20000 in
theorem gX3_loudFor_X3_isSeat : GoodIn wsX3_loudFor (wsV RX3 70 RX3 yX3_isSeat wsX3_isSeat) := goodIn_app (goodIn_of _ (by decide +kernel)) ggX3_loudFor_X3_isSeat
set_option maxRecDepth 20000 in
theorem ggX3_loudFor_X3_isBar : GoodIn wsX3_loudFor wsX3_isBar := goodIn_r _ [20] (by decide +kernel) (by decide +kernel)
set_option maxRecDepth 20000 in
theorem gX3_loudFor_X3_isBar : GoodIn wsX3_loudFor (wsV RX3 50 RX3 yX3_isBar wsX3_isBar) := goodIn_app (goodIn_of _ (by decide +kernel)) ggX3_loudFor_X3_isBar
set_option maxRecDepth 20000 in
theorem ggX3_loudFor_X3_finding : GoodIn wsX3_loudFor wsX3_finding := goodIn_r _ [24, 25, 26, 61, 62, 63, 64, 65, 66, 67, 68, 69] (by decide +kernel) (by decide +kernel)
set_option maxRecDepth 20000 in
theorem gX3_loudFor_X3_finding : GoodIn wsX3_loudFor (wsV RX3 54 RX3 yX3_finding wsX3_finding) := goodIn_app (goodIn_of _ (by decide +kernel)) ggX3_loudFor_X3_finding
set_option maxRecDepth 20000 in
theorem ggX3_loudFor_X0_isPlaying : GoodIn wsX3_loudFor wsX0_isPlaying := goodIn_r _ [31, 32, 33, 34, 30, 35, 36, 37, 38, 39, 40, 41, 42, 43, 44, 45, 46, 47, 48, 49, 50, 51, 52, 53, 54, 55, 56, 57, 58, 59, 60, 70, 71, 72, 73, 74, 75, 76, 77, 78, 79, 80, 81, 82] (by decide +kernel) (by decide +kernel)
set_option maxRecDepth 20000 in
theorem gX3_loudFor_X0_isPlaying : GoodIn wsX3_loudFor (wsV RX3 117 RX0 yX0_isPlaying wsX0_isPlaying) := goodIn_app (goodIn_of _ (by decide +kernel)) ggX3_loudFor_X0_isPlaying
theorem dX3_loudFor_0 : decode cX3_loudFor 0 = .ok (.aload_n 0, 1) := by decide +kernel
theorem dX3_loudFor_1 : decode cX3_loudFor 1 = .ok (.iload_n 1, 1) := by decide +kernel
theorem dX3_loudFor_2 : decode cX3_loudFor 2 = .ok (.invokevirtual 81, 3) := by decide +kernel
theorem dX3_loudFor_5 : decode cX3_loudFor 5 = .ok (.ifCond .eq 19, 3) := by decide +kernel
theorem dX3_loudFor_8 : decode cX3_loudFor 8 = .ok (.aload_n 0, 1) := by decide +kernel
theorem dX3_loudFor_9 : decode cX3_loudFor 9 = .ok (.iload_n 2, 1) := by decide +kernel
theorem dX3_loudFor_10 : decode cX3_loudFor 10 = .ok (.invokevirtual 70, 3) := by decide +kernel
theorem dX3_loudFor_13 : decode cX3_loudFor 13 = .ok (.ifCond .eq 11, 3) := by decide +kernel
theorem dX3_loudFor_16 : decode cX3_loudFor 16 = .ok (.aload_n 0, 1) := by decide +kernel
theorem dX3_loudFor_17 : decode cX3_loudFor 17 = .ok (.iload_n 3, 1) := by decide +kernel
theorem dX3_loudFor_18 : decode cX3_loudFor 18 = .ok (.invokevirtual 50, 3) := by decide +kernel
theorem dX3_loudFor_21 : decode cX3_loudFor 21 = .ok (.ifCond .ne 9, 3) := by decide +kernel
theorem dX3_loudFor_24 : decode cX3_loudFor 24 = .ok (.aload_n 0, 1) := by decide +kernel
theorem dX3_loudFor_25 : decode cX3_loudFor 25 = .ok (.iconst 0, 1) := by decide +kernel
theorem dX3_loudFor_26 : decode cX3_loudFor 26 = .ok (.invokevirtual 54, 3) := by decide +kernel
theorem dX3_loudFor_29 : decode cX3_loudFor 29 = .ok (.ireturn, 1) := by decide +kernel
theorem dX3_loudFor_30 : decode cX3_loudFor 30 = .ok (.aload_n 0, 1) := by decide +kernel
theorem dX3_loudFor_31 : decode cX3_loudFor 31 = .ok (.getfield 10, 3) := by decide +kernel
theorem dX3_loudFor_34 : decode cX3_loudFor 34 = .ok (.getfield 87, 3) := by decide +kernel
theorem dX3_loudFor_37 : decode cX3_loudFor 37 = .ok (.iload_n 1, 1) := by decide +kernel
theorem dX3_loudFor_38 : decode cX3_loudFor 38 = .ok (.iaload, 1) := by decide +kernel
theorem dX3_loudFor_39 : decode cX3_loudFor 39 = .ok (.iload_n 2, 1) := by decide +kernel
theorem dX3_loudFor_40 : decode cX3_loudFor 40 = .ok (.isub, 1) := by decide +kernel
theorem dX3_loudFor_41 : decode cX3_loudFor 41 = .ok (.invokestatic 183, 3) := by decide +kernel
theorem dX3_loudFor_44 : decode cX3_loudFor 44 = .ok (.iconst 1, 1) := by decide +kernel
theorem dX3_loudFor_45 : decode cX3_loudFor 45 = .ok (.iadd, 1) := by decide +kernel
theorem dX3_loudFor_46 : decode cX3_loudFor 46 = .ok (.istore 4, 2) := by decide +kernel
theorem dX3_loudFor_48 : decode cX3_loudFor 48 = .ok (.iload 4, 2) := by decide +kernel
theorem dX3_loudFor_50 : decode cX3_loudFor 50 = .ok (.bipush 9, 2) := by decide +kernel
theorem dX3_loudFor_52 : decode cX3_loudFor 52 = .ok (.if_icmp .gt 15, 3) := by decide +kernel
theorem dX3_loudFor_55 : decode cX3_loudFor 55 = .ok (.aload_n 0, 1) := by decide +kernel
theorem dX3_loudFor_56 : decode cX3_loudFor 56 = .ok (.getfield 10, 3) := by decide +kernel
theorem dX3_loudFor_59 : decode cX3_loudFor 59 = .ok (.iload_n 1, 1) := by decide +kernel
theorem dX3_loudFor_60 : decode cX3_loudFor 60 = .ok (.iload_n 3, 1) := by decide +kernel
theorem dX3_loudFor_61 : decode cX3_loudFor 61 = .ok (.invokevirtual 117, 3) := by decide +kernel
theorem dX3_loudFor_64 : decode cX3_loudFor 64 = .ok (.ifCond .ne 9, 3) := by decide +kernel
theorem dX3_loudFor_67 : decode cX3_loudFor 67 = .ok (.aload_n 0, 1) := by decide +kernel
theorem dX3_loudFor_68 : decode cX3_loudFor 68 = .ok (.iconst 3, 1) := by decide +kernel
theorem dX3_loudFor_69 : decode cX3_loudFor 69 = .ok (.invokevirtual 54, 3) := by decide +kernel
theorem dX3_loudFor_72 : decode cX3_loudFor 72 = .ok (.ireturn, 1) := by decide +kernel
theorem dX3_loudFor_73 : decode cX3_loudFor 73 = .ok (.iload 4, 2) := by decide +kernel
theorem dX3_loudFor_75 : decode cX3_loudFor 75 = .ok (.ireturn, 1) := by decide +kernel
set_option maxRecDepth 20000 in
theorem ggX3_fits_X3_fitting : GoodIn wsX3_fits wsX3_fitting := goodIn_r _ [7, 1, 8, 9, 10, 11, 12, 6, 13, 14, 15, 16, 17, 18, 19, 20, 21, 22, 23, 24, 25, 26, 27, 28, 29, 30, 31, 32, 33, 34, 35, 36, 37, 38, 39, 40, 41, 42, 43, 44, 45, 46, 47, 48, 49, 50, 51, 52, 53, 54, 55, 56, 57, 58, 59, 60, 61, 62, 63, 64, 65, 66, 67, 68, 69, 70, 71, 72, 73, 74, 75, 76, 77, 78, 79, 80, 81, 82, 83, 84, 85, 86, 87, 88, 89, 90, 91, 92, 93, 94, 95, 96, 97, 98, 99, 100, 101, 102, 103, 104, 105, 106, 107, 108, 109, 110, 111, 112, 113, 114, 115, 116, 117, 118, 119, 133, 134, 135, 120, 121, 122, 123, 124, 125, 126, 127, 128, 129, 130, 131, 132] (by decide +kernel) (by decide +kernel)
set_option maxRecDepth 20000 in
theorem gX3_fits_X3_fitting : GoodIn wsX3_fits (wsV RX3 186 RX3 yX3_fitting wsX3_fitting) := goodIn_app (goodIn_of _ (by decide +kernel)) ggX3_fits_X3_fitting
theorem dX3_fits_0 : decode cX3_fits 0 = .ok (.aload_n 0, 1) := by decide +kernel
theorem dX3_fits_1 : decode cX3_fits 1 = .ok (.iload_n 1, 1) := by decide +kernel
theorem dX3_fits_2 : decode cX3_fits 2 = .ok (.iload_n 2, 1) := by decide +kernel
theorem dX3_fits_3 : decode cX3_fits 3 = .ok (.aload_n 0, 1) := by decide +kernel
theorem dX3_fits_4 : decode cX3_fits 4 = .ok (.getfield 16, 3) := by decide +kernel
theorem dX3_fits_7 : decode cX3_fits 7 = .ok (.getfield 90, 3) := by decide +kernel
theorem dX3_fits_10 : decode cX3_fits 10 = .ok (.bipush 6, 2) := by decide +kernel
theorem dX3_fits_12 : decode cX3_fits 12 = .ok (.invokevirtual 186, 3) := by decide +kernel
theorem dX3_fits_15 : decode cX3_fits 15 = .ok (.ireturn, 1) := by decide +kernel
set_option maxRecDepth 20000 in
theorem ggX3_kinds_X3_fitting : GoodIn wsX3_kinds wsX3_fitting := goodIn_r _ [7, 1, 8, 9, 10, 11, 12, 6, 13, 14, 15, 16, 17, 18, 19, 20, 21, 22, 23, 24, 25, 26, 27, 28, 29, 30, 31, 32, 33, 34, 35, 36, 37, 38, 39, 40, 41, 42, 43, 44, 45, 46, 47, 48, 49, 50, 51, 52, 53, 54, 55, 56, 57, 58, 59, 60, 61, 62, 63, 64, 65, 66, 67, 68, 69, 70, 71, 72, 73, 74, 75, 76, 77, 78, 79, 80, 81, 82, 83, 84, 85, 86, 87, 88, 89, 90, 91, 92, 93, 94, 95, 96, 97, 98, 99, 100, 101, 102, 103, 104, 105, 106, 107, 108, 109, 110, 111, 112, 113, 114, 115, 116, 117, 118, 119, 133, 134, 135, 120, 121, 122, 123, 124, 125, 126, 127, 128, 129, 130, 131, 132] (by decide +kernel) (by decide +kernel)
set_option maxRecDepth 20000 in
theorem gX3_kinds_X3_fitting : GoodIn wsX3_kinds (wsV RX3 186 RX3 yX3_fitting wsX3_fitting) := goodIn_app (goodIn_of _ (by decide +kernel)) ggX3_kinds_X3_fitting
theorem dX3_kinds_0 : decode cX3_kinds 0 = .ok (.aload_n 0, 1) := by decide +kernel
theorem dX3_kinds_1 : decode cX3_kinds 1 = .ok (.iload_n 1, 1) := by decide +kernel
theorem dX3_kinds_2 : decode cX3_kinds 2 = .ok (.iload_n 2, 1) := by decide +kernel
theorem dX3_kinds_3 : decode cX3_kinds 3 = .ok (.aload_n 0, 1) := by decide +kernel
theorem dX3_kinds_4 : decode cX3_kinds 4 = .ok (.getfield 16, 3) := by decide +kernel
theorem dX3_kinds_7 : decode cX3_kinds 7 = .ok (.getfield 84, 3) := by decide +kernel
theorem dX3_kinds_10 : decode cX3_kinds 10 = .ok (.bipush 7, 2) := by decide +kernel
theorem dX3_kinds_12 : decode cX3_kinds 12 = .ok (.invokevirtual 186, 3) := by decide +kernel
theorem dX3_kinds_15 : decode cX3_kinds 15 = .ok (.ireturn, 1) := by decide +kernel
set_option maxRecDepth 20000 in
theorem ggX3_strings_X3_finding : GoodIn wsX3_strings wsX3_finding := goodIn_r _ [9, 10, 11, 86, 87, 88, 89, 90, 91, 92, 93, 94] (by decide +kernel) (by decide +kernel)
set_option maxRecDepth 20000 in
theorem gX3_strings_X3_finding : GoodIn wsX3_strings (wsV RX3 54 RX3 yX3_finding wsX3_finding) := goodIn_app (goodIn_of _ (by decide +kernel)) ggX3_strings_X3_finding
set_option maxRecDepth 20000 in
theorem ggX3_strings_X0_draw : GoodIn wsX3_strings wsX0_draw := goodIn_r _ [16, 17, 18, 95, 96, 97, 98, 99, 100, 101, 102, 103, 104, 105, 106, 107] (by decide +kernel) (by decide +kernel)
set_option maxRecDepth 20000 in
theorem gX3_strings_X0_draw : GoodIn wsX3_strings (wsV RX3 190 RX0 yX0_draw wsX0_draw) := goodIn_app (goodIn_of _ (by decide +kernel)) ggX3_strings_X0_draw
set_option maxRecDepth 20000 in
theorem ggX3_strings_X3_isPlayer : GoodIn wsX3_strings wsX3_isPlayer := goodIn_r _ [22, 1, 23, 86, 87, 88, 89, 90, 91, 92, 93, 94, 95, 96, 97, 98, 99, 100, 101, 102, 103, 104, 105, 106, 107] (by decide +kernel) (by decide +kernel)
set_option maxRecDepth 20000 in
theorem gX3_strings_X3_isPlayer : GoodIn wsX3_strings (wsV RX3 81 RX3 yX3_isPlayer wsX3_isPlayer) := goodIn_app (goodIn_of _ (by decide +kernel)) ggX3_strings_X3_isPlayer
set_option maxRecDepth 20000 in
theorem ggX3_strings_X0_passEvening : GoodIn wsX3_strings wsX0_passEvening := goodIn_r _ [27, 28, 29, 30, 31, 32, 33, 34, 35, 36, 37, 38, 39, 40, 41, 42, 43, 44, 45, 46, 15, 47, 48, 49, 50, 51, 52, 53, 54, 55, 56, 57, 58, 59, 60, 61, 62, 63, 64, 65, 66, 67, 68, 69, 70, 71, 72, 73, 74, 75, 76, 77, 78, 79, 80, 81, 82, 83, 84, 85, 95, 96, 97, 98, 99, 100, 101, 102, 103, 104, 105, 106, 107] (by decide +kernel) (by decide +kernel)
set_option maxRecDepth 20000 in
theorem gX3_strings_X0_passEvening : GoodIn wsX3_strings (wsV RX3 157 RX0 yX0_passEvening wsX0_passEvening) := goodIn_app (goodIn_of _ (by decide +kernel)) ggX3_strings_X0_passEvening
theorem dX3_strings_0 : decode cX3_strings 0 = .ok (.iload_n 1, 1) := by decide +kernel
theorem dX3_strings_1 : decode cX3_strings 1 = .ok (.iconst 1, 1) := by decide +kernel
theorem dX3_strings_2 : decode cX3_strings 2 = .ok (.if_icmp .lt 9, 3) := by decide +kernel
theorem dX3_strings_5 : decode cX3_strings 5 = .ok (.iload_n 1, 1) := by decide +kernel
theorem dX3_strings_6 : decode cX3_strings 6 = .ok (.bipush 12, 2) := by decide +kernel
theorem dX3_strings_8 : decode cX3_strings 8 = .ok (.if_icmp .le 9, 3) := by decide +kernel
theorem dX3_strings_11 : decode cX3_strings 11 = .ok (.aload_n 0, 1) := by decide +kernel
theorem dX3_strings_12 : decode cX3_strings 12 = .ok (.iconst 0, 1) := by decide +kernel
theorem dX3_strings_13 : decode cX3_strings 13 = .ok (.invokevirtual 54, 3) := by decide +kernel
theorem dX3_strings_16 : decode cX3_strings 16 = .ok (.ireturn, 1) := by decide +kernel
theorem dX3_strings_17 : decode cX3_strings 17 = .ok (.aload_n 0, 1) := by decide +kernel
theorem dX3_strings_18 : decode cX3_strings 18 = .ok (.getfield 10, 3) := by decide +kernel
theorem dX3_strings_21 : decode cX3_strings 21 = .ok (.getfield 132, 3) := by decide +kernel
theorem dX3_strings_24 : decode cX3_strings 24 = .ok (.ldc 135, 2) := by decide +kernel
theorem dX3_strings_26 : decode cX3_strings 26 = .ok (.iload_n 1, 1) := by decide +kernel
theorem dX3_strings_27 : decode cX3_strings 27 = .ok (.isub, 1) := by decide +kernel
theorem dX3_strings_28 : decode cX3_strings 28 = .ok (.if_icmp .le 9, 3) := by decide +kernel
theorem dX3_strings_31 : decode cX3_strings 31 = .ok (.aload_n 0, 1) := by decide +kernel
theorem dX3_strings_32 : decode cX3_strings 32 = .ok (.iconst 4, 1) := by decide +kernel
theorem dX3_strings_33 : decode cX3_strings 33 = .ok (.invokevirtual 54, 3) := by decide +kernel
theorem dX3_strings_36 : decode cX3_strings 36 = .ok (.ireturn, 1) := by decide +kernel
theorem dX3_strings_37 : decode cX3_strings 37 = .ok (.iconst 0, 1) := by decide +kernel
theorem dX3_strings_38 : decode cX3_strings 38 = .ok (.istore_n 2, 1) := by decide +kernel
theorem dX3_strings_39 : decode cX3_strings 39 = .ok (.iconst 0, 1) := by decide +kernel
theorem dX3_strings_40 : decode cX3_strings 40 = .ok (.istore_n 3, 1) := by decide +kernel
theorem dX3_strings_41 : decode cX3_strings 41 = .ok (.iload_n 3, 1) := by decide +kernel
theorem dX3_strings_42 : decode cX3_strings 42 = .ok (.iload_n 1, 1) := by decide +kernel
theorem dX3_strings_43 : decode cX3_strings 43 = .ok (.if_icmp .ge 52, 3) := by decide +kernel
theorem dX3_strings_46 : decode cX3_strings 46 = .ok (.aload_n 0, 1) := by decide +kernel
theorem dX3_strings_47 : decode cX3_strings 47 = .ok (.getfield 10, 3) := by decide +kernel
theorem dX3_strings_50 : decode cX3_strings 50 = .ok (.invokevirtual 190, 3) := by decide +kernel
theorem dX3_strings_53 : decode cX3_strings 53 = .ok (.bipush 16, 2) := by decide +kernel
theorem dX3_strings_55 : decode cX3_strings 55 = .ok (.irem, 1) := by decide +kernel
theorem dX3_strings_56 : decode cX3_strings 56 = .ok (.istore 4, 2) := by decide +kernel
theorem dX3_strings_58 : decode cX3_strings 58 = .ok (.aload_n 0, 1) := by decide +kernel
theorem dX3_strings_59 : decode cX3_strings 59 = .ok (.iload 4, 2) := by decide +kernel
theorem dX3_strings_61 : decode cX3_strings 61 = .ok (.invokevirtual 81, 3) := by decide +kernel
theorem dX3_strings_64 : decode cX3_strings 64 = .ok (.ifCond .eq 17, 3) := by decide +kernel
theorem dX3_strings_67 : decode cX3_strings 67 = .ok (.aload_n 0, 1) := by decide +kernel
theorem dX3_strings_68 : decode cX3_strings 68 = .ok (.getfield 10, 3) := by decide +kernel
theorem dX3_strings_71 : decode cX3_strings 71 = .ok (.getfield 96, 3) := by decide +kernel
theorem dX3_strings_74 : decode cX3_strings 74 = .ok (.iload 4, 2) := by decide +kernel
theorem dX3_strings_76 : decode cX3_strings 76 = .ok (.iconst 0, 1) := by decide +kernel
theorem dX3_strings_77 : decode cX3_strings 77 = .ok (.iastore, 1) := by decide +kernel
theorem dX3_strings_78 : decode cX3_strings 78 = .ok (.iinc 2 1, 3) := by decide +kernel
theorem dX3_strings_81 : decode cX3_strings 81 = .ok (.aload_n 0, 1) := by decide +kernel
theorem dX3_strings_82 : decode cX3_strings 82 = .ok (.getfield 10, 3) := by decide +kernel
theorem dX3_strings_85 : decode cX3_strings 85 = .ok (.invokevirtual 157, 3) := by decide +kernel
theorem dX3_strings_88 : decode cX3_strings 88 = .ok (.pop, 1) := by decide +kernel
theorem dX3_strings_89 : decode cX3_strings 89 = .ok (.iinc 3 1, 3) := by decide +kernel
theorem dX3_strings_92 : decode cX3_strings 92 = .ok (.goto (-51), 3) := by decide +kernel
theorem dX3_strings_95 : decode cX3_strings 95 = .ok (.iload_n 2, 1) := by decide +kernel
theorem dX3_strings_96 : decode cX3_strings 96 = .ok (.ireturn, 1) := by decide +kernel
set_option maxRecDepth 20000 in
theorem ggX3_odds_X3_finding : GoodIn wsX3_odds wsX3_finding := goodIn_r _ [7, 8, 9, 10, 11, 12, 13, 14, 15, 16, 17, 18] (by decide +kernel) (by decide +kernel)
set_option maxRecDepth 20000 in
theorem gX3_odds_X3_finding : GoodIn wsX3_odds (wsV RX3 54 RX3 yX3_finding wsX3_finding) := goodIn_app (goodIn_of _ (by decide +kernel)) ggX3_odds_X3_finding
theorem dX3_odds_0 : decode cX3_odds 0 = .ok (.iload_n 1, 1) := by decide +kernel
theorem dX3_odds_1 : decode cX3_odds 1 = .ok (.ifCond .lt 18, 3) := by decide +kernel
theorem dX3_odds_4 : decode cX3_odds 4 = .ok (.iload_n 1, 1) := by decide +kernel
theorem dX3_odds_5 : decode cX3_odds 5 = .ok (.bipush 14, 2) := by decide +kernel
theorem dX3_odds_7 : decode cX3_odds 7 = .ok (.if_icmp .gt 12, 3) := by decide +kernel
theorem dX3_odds_10 : decode cX3_odds 10 = .ok (.iload_n 2, 1) := by decide +kernel
theorem dX3_odds_11 : decode cX3_odds 11 = .ok (.ifCond .lt 8, 3) := by decide +kernel
theorem dX3_odds_14 : decode cX3_odds 14 = .ok (.iload_n 2, 1) := by decide +kernel
theorem dX3_odds_15 : decode cX3_odds 15 = .ok (.iconst 1, 1) := by decide +kernel
theorem dX3_odds_16 : decode cX3_odds 16 = .ok (.if_icmp .le 10, 3) := by decide +kernel
theorem dX3_odds_19 : decode cX3_odds 19 = .ok (.aload_n 0, 1) := by decide +kernel
theorem dX3_odds_20 : decode cX3_odds 20 = .ok (.iconst 0, 1) := by decide +kernel
theorem dX3_odds_21 : decode cX3_odds 21 = .ok (.invokevirtual 54, 3) := by decide +kernel
theorem dX3_odds_24 : decode cX3_odds 24 = .ok (.i2l, 1) := by decide +kernel
theorem dX3_odds_25 : decode cX3_odds 25 = .ok (.lreturn, 1) := by decide +kernel
theorem dX3_odds_26 : decode cX3_odds 26 = .ok (.bipush 16, 2) := by decide +kernel
theorem dX3_odds_28 : decode cX3_odds 28 = .ok (.aload_n 0, 1) := by decide +kernel
theorem dX3_odds_29 : decode cX3_odds 29 = .ok (.getfield 10, 3) := by decide +kernel
theorem dX3_odds_32 : decode cX3_odds 32 = .ok (.getfield 73, 3) := by decide +kernel
theorem dX3_odds_35 : decode cX3_odds 35 = .ok (.isub, 1) := by decide +kernel
theorem dX3_odds_36 : decode cX3_odds 36 = .ok (.istore_n 3, 1) := by decide +kernel
theorem dX3_odds_37 : decode cX3_odds 37 = .ok (.bipush 16, 2) := by decide +kernel
theorem dX3_odds_39 : decode cX3_odds 39 = .ok (.istore 4, 2) := by decide +kernel
theorem dX3_odds_41 : decode cX3_odds 41 = .ok (.iconst 0, 1) := by decide +kernel
theorem dX3_odds_42 : decode cX3_odds 42 = .ok (.istore 5, 2) := by decide +kernel
theorem dX3_odds_44 : decode cX3_odds 44 = .ok (.iload 5, 2) := by decide +kernel
theorem dX3_odds_46 : decode cX3_odds 46 = .ok (.iconst 4, 1) := by decide +kernel
theorem dX3_odds_47 : decode cX3_odds 47 = .ok (.if_icmp .ge 32, 3) := by decide +kernel
theorem dX3_odds_50 : decode cX3_odds 50 = .ok (.iload_n 3, 1) := by decide +kernel
theorem dX3_odds_51 : decode cX3_odds 51 = .ok (.iconst 1, 1) := by decide +kernel
theorem dX3_odds_52 : decode cX3_odds 52 = .ok (.iand, 1) := by decide +kernel
theorem dX3_odds_53 : decode cX3_odds 53 = .ok (.ifCond .ne 20, 3) := by decide +kernel
theorem dX3_odds_56 : decode cX3_odds 56 = .ok (.iload 4, 2) := by decide +kernel
theorem dX3_odds_58 : decode cX3_odds 58 = .ok (.iconst 1, 1) := by decide +kernel
theorem dX3_odds_59 : decode cX3_odds 59 = .ok (.iand, 1) := by decide +kernel
theorem dX3_odds_60 : decode cX3_odds 60 = .ok (.ifCond .ne 13, 3) := by decide +kernel
theorem dX3_odds_63 : decode cX3_odds 63 = .ok (.iload_n 3, 1) := by decide +kernel
theorem dX3_odds_64 : decode cX3_odds 64 = .ok (.iconst 1, 1) := by decide +kernel
theorem dX3_odds_65 : decode cX3_odds 65 = .ok (.ishr, 1) := by decide +kernel
theorem dX3_odds_66 : decode cX3_odds 66 = .ok (.istore_n 3, 1) := by decide +kernel
theorem dX3_odds_67 : decode cX3_odds 67 = .ok (.iload 4, 2) := by decide +kernel
theorem dX3_odds_69 : decode cX3_odds 69 = .ok (.iconst 1, 1) := by decide +kernel
theorem dX3_odds_70 : decode cX3_odds 70 = .ok (.ishr, 1) := by decide +kernel
theorem dX3_odds_71 : decode cX3_odds 71 = .ok (.istore 4, 2) := by decide +kernel
theorem dX3_odds_73 : decode cX3_odds 73 = .ok (.iinc 5 1, 3) := by decide +kernel
theorem dX3_odds_76 : decode cX3_odds 76 = .ok (.goto (-32), 3) := by decide +kernel
theorem dX3_odds_79 : decode cX3_odds 79 = .ok (.iload_n 2, 1) := by decide +kernel
theorem dX3_odds_80 : decode cX3_odds 80 = .ok (.ifCond .ne 7, 3) := by decide +kernel
theorem dX3_odds_83 : decode cX3_odds 83 = .ok (.iload_n 3, 1) := by decide +kernel
theorem dX3_odds_84 : decode cX3_odds 84 = .ok (.goto 5, 3) := by decide +kernel
theorem dX3_odds_87 : decode cX3_odds 87 = .ok (.iload 4, 2) := by decide +kernel
theorem dX3_odds_89 : decode cX3_odds 89 = .ok (.istore 5, 2) := by decide +kernel
theorem dX3_odds_91 : decode cX3_odds 91 = .ok (.lconst 1, 1) := by decide +kernel
theorem dX3_odds_92 : decode cX3_odds 92 = .ok (.lstore 6, 2) := by decide +kernel
theorem dX3_odds_94 : decode cX3_odds 94 = .ok (.iconst 0, 1) := by decide +kernel
theorem dX3_odds_95 : decode cX3_odds 95 = .ok (.istore 8, 2) := by decide +kernel
theorem dX3_odds_97 : decode cX3_odds 97 = .ok (.iload 8, 2) := by decide +kernel
theorem dX3_odds_99 : decode cX3_odds 99 = .ok (.iload_n 1, 1) := by decide +kernel
theorem dX3_odds_100 : decode cX3_odds 100 = .ok (.if_icmp .ge 17, 3) := by decide +kernel
theorem dX3_odds_103 : decode cX3_odds 103 = .ok (.lload 6, 2) := by decide +kernel
theorem dX3_odds_105 : decode cX3_odds 105 = .ok (.iload 5, 2) := by decide +kernel
theorem dX3_odds_107 : decode cX3_odds 107 = .ok (.i2l, 1) := by decide +kernel
theorem dX3_odds_108 : decode cX3_odds 108 = .ok (.lmul, 1) := by decide +kernel
theorem dX3_odds_109 : decode cX3_odds 109 = .ok (.lstore 6, 2) := by decide +kernel
theorem dX3_odds_111 : decode cX3_odds 111 = .ok (.iinc 8 1, 3) := by decide +kernel
theorem dX3_odds_114 : decode cX3_odds 114 = .ok (.goto (-17), 3) := by decide +kernel
theorem dX3_odds_117 : decode cX3_odds 117 = .ok (.lload 6, 2) := by decide +kernel
theorem dX3_odds_119 : decode cX3_odds 119 = .ok (.lreturn, 1) := by decide +kernel
theorem dX3_seed_0 : decode cX3_seed 0 = .ok (.aload_n 0, 1) := by decide +kernel
theorem dX3_seed_1 : decode cX3_seed 1 = .ok (.getfield 10, 3) := by decide +kernel
theorem dX3_seed_4 : decode cX3_seed 4 = .ok (.getfield 193, 3) := by decide +kernel
theorem dX3_seed_7 : decode cX3_seed 7 = .ok (.istore_n 2, 1) := by decide +kernel
theorem dX3_seed_8 : decode cX3_seed 8 = .ok (.aload_n 0, 1) := by decide +kernel
theorem dX3_seed_9 : decode cX3_seed 9 = .ok (.getfield 10, 3) := by decide +kernel
theorem dX3_seed_12 : decode cX3_seed 12 = .ok (.iload_n 1, 1) := by decide +kernel
theorem dX3_seed_13 : decode cX3_seed 13 = .ok (.putfield 193, 3) := by decide +kernel
theorem dX3_seed_16 : decode cX3_seed 16 = .ok (.iload_n 2, 1) := by decide +kernel
theorem dX3_seed_17 : decode cX3_seed 17 = .ok (.ireturn, 1) := by decide +kernel
set_option maxRecDepth 20000 in
theorem ggX3_feed_X3_finding : GoodIn wsX3_feed wsX3_finding := goodIn_r _ [7, 8, 9, 17, 18, 19, 20, 21, 22, 23, 24, 25] (by decide +kernel) (by decide +kernel)
set_option maxRecDepth 20000 in
theorem gX3_feed_X3_finding : GoodIn wsX3_feed (wsV RX3 54 RX3 yX3_finding wsX3_finding) := goodIn_app (goodIn_of _ (by decide +kernel)) ggX3_feed_X3_finding
set_option maxRecDepth 20000 in
theorem ggX3_feed_X2_append : GoodIn wsX3_feed wsX2_append := goodIn_r _ [14, 15, 16, 26, 27, 28, 29, 30, 31] (by decide +kernel) (by decide +kernel)
set_option maxRecDepth 20000 in
theorem gX3_feed_X2_append : GoodIn wsX3_feed (wsV RX3 199 RX2 yX2_append wsX2_append) := goodIn_app (goodIn_of _ (by decide +kernel)) ggX3_feed_X2_append
theorem dX3_feed_0 : decode cX3_feed 0 = .ok (.iload_n 2, 1) := by decide +kernel
theorem dX3_feed_1 : decode cX3_feed 1 = .ok (.iconst 1, 1) := by decide +kernel
theorem dX3_feed_2 : decode cX3_feed 2 = .ok (.if_icmp .lt 8, 3) := by decide +kernel
theorem dX3_feed_5 : decode cX3_feed 5 = .ok (.iload_n 2, 1) := by decide +kernel
theorem dX3_feed_6 : decode cX3_feed 6 = .ok (.iconst 4, 1) := by decide +kernel
theorem dX3_feed_7 : decode cX3_feed 7 = .ok (.if_icmp .le 9, 3) := by decide +kernel
theorem dX3_feed_10 : decode cX3_feed 10 = .ok (.aload_n 0, 1) := by decide +kernel
theorem dX3_feed_11 : decode cX3_feed 11 = .ok (.iconst 0, 1) := by decide +kernel
theorem dX3_feed_12 : decode cX3_feed 12 = .ok (.invokevirtual 54, 3) := by decide +kernel
theorem dX3_feed_15 : decode cX3_feed 15 = .ok (.ireturn, 1) := by decide +kernel
theorem dX3_feed_16 : decode cX3_feed 16 = .ok (.aload_n 0, 1) := by decide +kernel
theorem dX3_feed_17 : decode cX3_feed 17 = .ok (.getfield 29, 3) := by decide +kernel
theorem dX3_feed_20 : decode cX3_feed 20 = .ok (.getfield 196, 3) := by decide +kernel
theorem dX3_feed_23 : decode cX3_feed 23 = .ok (.bipush 120, 2) := by decide +kernel
theorem dX3_feed_25 : decode cX3_feed 25 = .ok (.iload_n 2, 1) := by decide +kernel
theorem dX3_feed_26 : decode cX3_feed 26 = .ok (.isub, 1) := by decide +kernel
theorem dX3_feed_27 : decode cX3_feed 27 = .ok (.if_icmp .le 9, 3) := by decide +kernel
theorem dX3_feed_30 : decode cX3_feed 30 = .ok (.aload_n 0, 1) := by decide +kernel
theorem dX3_feed_31 : decode cX3_feed 31 = .ok (.iconst 1, 1) := by decide +kernel
theorem dX3_feed_32 : decode cX3_feed 32 = .ok (.invokevirtual 54, 3) := by decide +kernel
theorem dX3_feed_35 : decode cX3_feed 35 = .ok (.ireturn, 1) := by decide +kernel
theorem dX3_feed_36 : decode cX3_feed 36 = .ok (.iload_n 2, 1) := by decide +kernel
theorem dX3_feed_37 : decode cX3_feed 37 = .ok (.iconst 1, 1) := by decide +kernel
theorem dX3_feed_38 : decode cX3_feed 38 = .ok (.isub, 1) := by decide +kernel
theorem dX3_feed_39 : decode cX3_feed 39 = .ok (.istore_n 3, 1) := by decide +kernel
theorem dX3_feed_40 : decode cX3_feed 40 = .ok (.iload_n 3, 1) := by decide +kernel
theorem dX3_feed_41 : decode cX3_feed 41 = .ok (.ifCond .lt 26, 3) := by decide +kernel
theorem dX3_feed_44 : decode cX3_feed 44 = .ok (.aload_n 0, 1) := by decide +kernel
theorem dX3_feed_45 : decode cX3_feed 45 = .ok (.getfield 29, 3) := by decide +kernel
theorem dX3_feed_48 : decode cX3_feed 48 = .ok (.iload_n 1, 1) := by decide +kernel
theorem dX3_feed_49 : decode cX3_feed 49 = .ok (.bipush 8, 2) := by decide +kernel
theorem dX3_feed_51 : decode cX3_feed 51 = .ok (.iload_n 3, 1) := by decide +kernel
theorem dX3_feed_52 : decode cX3_feed 52 = .ok (.imul, 1) := by decide +kernel
theorem dX3_feed_53 : decode cX3_feed 53 = .ok (.ishr, 1) := by decide +kernel
theorem dX3_feed_54 : decode cX3_feed 54 = .ok (.sipush 255, 3) := by decide +kernel
theorem dX3_feed_57 : decode cX3_feed 57 = .ok (.iand, 1) := by decide +kernel
theorem dX3_feed_58 : decode cX3_feed 58 = .ok (.invokevirtual 199, 3) := by decide +kernel
theorem dX3_feed_61 : decode cX3_feed 61 = .ok (.iinc 3 (-1), 3) := by decide +kernel
theorem dX3_feed_64 : decode cX3_feed 64 = .ok (.goto (-24), 3) := by decide +kernel
theorem dX3_feed_67 : decode cX3_feed 67 = .ok (.aload_n 0, 1) := by decide +kernel
theorem dX3_feed_68 : decode cX3_feed 68 = .ok (.getfield 29, 3) := by decide +kernel
theorem dX3_feed_71 : decode cX3_feed 71 = .ok (.getfield 196, 3) := by decide +kernel
theorem dX3_feed_74 : decode cX3_feed 74 = .ok (.ireturn, 1) := by decide +kernel
theorem dX3_wipe_0 : decode cX3_wipe 0 = .ok (.aload_n 0, 1) := by decide +kernel
theorem dX3_wipe_1 : decode cX3_wipe 1 = .ok (.getfield 29, 3) := by decide +kernel
theorem dX3_wipe_4 : decode cX3_wipe 4 = .ok (.getfield 196, 3) := by decide +kernel
theorem dX3_wipe_7 : decode cX3_wipe 7 = .ok (.istore_n 1, 1) := by decide +kernel
theorem dX3_wipe_8 : decode cX3_wipe 8 = .ok (.aload_n 0, 1) := by decide +kernel
theorem dX3_wipe_9 : decode cX3_wipe 9 = .ok (.getfield 29, 3) := by decide +kernel
theorem dX3_wipe_12 : decode cX3_wipe 12 = .ok (.iconst 0, 1) := by decide +kernel
theorem dX3_wipe_13 : decode cX3_wipe 13 = .ok (.putfield 196, 3) := by decide +kernel
theorem dX3_wipe_16 : decode cX3_wipe 16 = .ok (.iload_n 1, 1) := by decide +kernel
theorem dX3_wipe_17 : decode cX3_wipe 17 = .ok (.ireturn, 1) := by decide +kernel
set_option maxRecDepth 20000 in
theorem ggX3_text_X0_become : GoodIn wsX3_text wsX0_become := goodIn_r _ [9, 10, 11, 12, 13, 14, 15, 16, 17, 18, 19, 20, 21, 22, 23, 157, 158, 159, 160, 161, 162, 163, 164, 165, 166, 167, 168, 169] (by decide +kernel) (by decide +kernel)
set_option maxRecDepth 20000 in
theorem gX3_text_X0_become : GoodIn wsX3_text (wsV RX3 153 RX0 yX0_become wsX0_become) := goodIn_app (goodIn_of _ (by decide +kernel)) ggX3_text_X0_become
set_option maxRecDepth 20000 in
theorem ggX3_text_X2_tellTo : GoodIn wsX3_text wsX2_tellTo := goodIn_r _ [28, 29, 30, 31, 32, 33, 34, 27, 35, 36, 37, 38, 39, 40, 41, 42, 43, 44, 45, 46, 47, 48, 49, 50, 51, 52, 53, 54, 55, 56, 57, 58, 59, 60, 61, 62, 63, 64, 65, 66, 67, 68, 69, 70, 71, 72, 73, 74, 75, 76, 77, 78, 79, 80, 81, 82, 83, 84, 85, 86, 87, 88, 89, 90, 91, 92, 93, 94, 95, 96, 97, 98, 99, 100, 101, 102, 103, 104, 105, 106, 107, 108, 109, 110, 111, 112, 113, 114, 115, 116, 117, 118, 119, 120, 121, 122, 123, 124, 125, 126, 127, 128, 129, 130, 131, 132, 133, 134, 135, 136, 8, 137, 21, 15, 16, 17, 18, 19, 138, 139, 140, 141, 151, 152, 153, 154, 155, 156, 157, 158, 159, 160, 161, 162, 163, 164, 165, 166, 167, 168, 169] (by decide +kernel) (by decide +kernel)
set_option maxRecDepth 20000 in
theorem gX3_text_X2_tellTo : GoodIn wsX3_text (wsV RX3 202 RX2 yX2_tellTo wsX2_tellTo) := goodIn_app (goodIn_of _ (by decide +kernel)) ggX3_text_X2_tellTo
theorem dX3_text_0 : decode cX3_text 0 = .ok (.aload_n 0, 1) := by decide +kernel
theorem dX3_text_1 : decode cX3_text 1 = .ok (.getfield 16, 3) := by decide +kernel
theorem dX3_text_4 : decode cX3_text 4 = .ok (.aload_n 0, 1) := by decide +kernel
theorem dX3_text_5 : decode cX3_text 5 = .ok (.getfield 10, 3) := by decide +kernel
theorem dX3_text_8 : decode cX3_text 8 = .ok (.invokevirtual 153, 3) := by decide +kernel
theorem dX3_text_11 : decode cX3_text 11 = .ok (.aload_n 0, 1) := by decide +kernel
theorem dX3_text_12 : decode cX3_text 12 = .ok (.getfield 29, 3) := by decide +kernel
theorem dX3_text_15 : decode cX3_text 15 = .ok (.aload_n 0, 1) := by decide +kernel
theorem dX3_text_16 : decode cX3_text 16 = .ok (.getfield 16, 3) := by decide +kernel
theorem dX3_text_19 : decode cX3_text 19 = .ok (.invokevirtual 202, 3) := by decide +kernel
theorem dX3_text_22 : decode cX3_text 22 = .ok (.istore_n 1, 1) := by decide +kernel
theorem dX3_text_23 : decode cX3_text 23 = .ok (.iload_n 1, 1) := by decide +kernel
theorem dX3_text_24 : decode cX3_text 24 = .ok (.ifCond .lt 14, 3) := by decide +kernel
theorem dX3_text_27 : decode cX3_text 27 = .ok (.aload_n 0, 1) := by decide +kernel
theorem dX3_text_28 : decode cX3_text 28 = .ok (.getfield 10, 3) := by decide +kernel
theorem dX3_text_31 : decode cX3_text 31 = .ok (.aload_n 0, 1) := by decide +kernel
theorem dX3_text_32 : decode cX3_text 32 = .ok (.getfield 16, 3) := by decide +kernel
theorem dX3_text_35 : decode cX3_text 35 = .ok (.invokevirtual 153, 3) := by decide +kernel
theorem dX3_text_38 : decode cX3_text 38 = .ok (.aload_n 0, 1) := by decide +kernel
theorem dX3_text_39 : decode cX3_text 39 = .ok (.getfield 29, 3) := by decide +kernel
theorem dX3_text_42 : decode cX3_text 42 = .ok (.iconst 0, 1) := by decide +kernel
theorem dX3_text_43 : decode cX3_text 43 = .ok (.putfield 196, 3) := by decide +kernel
theorem dX3_text_46 : decode cX3_text 46 = .ok (.iload_n 1, 1) := by decide +kernel
theorem dX3_text_47 : decode cX3_text 47 = .ok (.ireturn, 1) := by decide +kernel
set_option maxRecDepth 20000 in
theorem ggX3_hold_X3_isSpot : GoodIn wsX3_hold wsX3_isSpot := goodIn_r _ [7] (by decide +kernel) (by decide +kernel)
set_option maxRecDepth 20000 in
theorem gX3_hold_X3_isSpot : GoodIn wsX3_hold (wsV RX3 206 RX3 yX3_isSpot wsX3_isSpot) := goodIn_app (goodIn_of _ (by decide +kernel)) ggX3_hold_X3_isSpot
set_option maxRecDepth 20000 in
theorem ggX3_hold_X3_isPlayer : GoodIn wsX3_hold wsX3_isPlayer := goodIn_r _ [11, 1, 12, 19, 20, 21, 22, 23, 24, 25, 26, 27, 28, 29, 30, 31, 32, 33, 34, 35, 36, 37, 38, 39, 40] (by decide +kernel) (by decide +kernel)
set_option maxRecDepth 20000 in
theorem gX3_hold_X3_isPlayer : GoodIn wsX3_hold (wsV RX3 81 RX3 yX3_isPlayer wsX3_isPlayer) := goodIn_app (goodIn_of _ (by decide +kernel)) ggX3_hold_X3_isPlayer
set_option maxRecDepth 20000 in
theorem ggX3_hold_X3_finding : GoodIn wsX3_hold wsX3_finding := goodIn_r _ [16, 17, 18, 19, 20, 21, 22, 23, 24, 25, 26, 27] (by decide +kernel) (by decide +kernel)
set_option maxRecDepth 20000 in
theorem gX3_hold_X3_finding : GoodIn wsX3_hold (wsV RX3 54 RX3 yX3_finding wsX3_finding) := goodIn_app (goodIn_of _ (by decide +kernel)) ggX3_hold_X3_finding
theorem dX3_hold_0 : decode cX3_hold 0 = .ok (.aload_n 0, 1) := by decide +kernel
theorem dX3_hold_1 : decode cX3_hold 1 = .ok (.iload_n 1, 1) := by decide +kernel
theorem dX3_hold_2 : decode cX3_hold 2 = .ok (.invokevirtual 206, 3) := by decide +kernel
theorem dX3_hold_5 : decode cX3_hold 5 = .ok (.ifCond .eq 16, 3) := by decide +kernel
theorem dX3_hold_8 : decode cX3_hold 8 = .ok (.iload_n 2, 1) := by decide +kernel
theorem dX3_hold_9 : decode cX3_hold 9 = .ok (.iconst (-1), 1) := by decide +kernel
theorem dX3_hold_10 : decode cX3_hold 10 = .ok (.if_icmp .eq 17, 3) := by decide +kernel
theorem dX3_hold_13 : decode cX3_hold 13 = .ok (.aload_n 0, 1) := by decide +kernel
theorem dX3_hold_14 : decode cX3_hold 14 = .ok (.iload_n 2, 1) := by decide +kernel
theorem dX3_hold_15 : decode cX3_hold 15 = .ok (.invokevirtual 81, 3) := by decide +kernel
theorem dX3_hold_18 : decode cX3_hold 18 = .ok (.ifCond .ne 9, 3) := by decide +kernel
theorem dX3_hold_21 : decode cX3_hold 21 = .ok (.aload_n 0, 1) := by decide +kernel
theorem dX3_hold_22 : decode cX3_hold 22 = .ok (.iconst 0, 1) := by decide +kernel
theorem dX3_hold_23 : decode cX3_hold 23 = .ok (.invokevirtual 54, 3) := by decide +kernel
theorem dX3_hold_26 : decode cX3_hold 26 = .ok (.ireturn, 1) := by decide +kernel
theorem dX3_hold_27 : decode cX3_hold 27 = .ok (.aload_n 0, 1) := by decide +kernel
theorem dX3_hold_28 : decode cX3_hold 28 = .ok (.getfield 10, 3) := by decide +kernel
theorem dX3_hold_31 : decode cX3_hold 31 = .ok (.getfield 209, 3) := by decide +kernel
theorem dX3_hold_34 : decode cX3_hold 34 = .ok (.iload_n 1, 1) := by decide +kernel
theorem dX3_hold_35 : decode cX3_hold 35 = .ok (.iload_n 2, 1) := by decide +kernel
theorem dX3_hold_36 : decode cX3_hold 36 = .ok (.iastore, 1) := by decide +kernel
theorem dX3_hold_37 : decode cX3_hold 37 = .ok (.iconst 1, 1) := by decide +kernel
theorem dX3_hold_38 : decode cX3_hold 38 = .ok (.ireturn, 1) := by decide +kernel
set_option maxRecDepth 20000 in
theorem ggX3_as_X3_isSpot : GoodIn wsX3_as wsX3_isSpot := goodIn_r _ [7] (by decide +kernel) (by decide +kernel)
set_option maxRecDepth 20000 in
theorem gX3_as_X3_isSpot : GoodIn wsX3_as (wsV RX3 206 RX3 yX3_isSpot wsX3_isSpot) := goodIn_app (goodIn_of _ (by decide +kernel)) ggX3_as_X3_isSpot
set_option maxRecDepth 20000 in
theorem ggX3_as_X3_isKind : GoodIn wsX3_as wsX3_isKind := goodIn_r _ [11] (by decide +kernel) (by decide +kernel)
set_option maxRecDepth 20000 in
theorem gX3_as_X3_isKind : GoodIn wsX3_as (wsV RX3 67 RX3 yX3_isKind wsX3_isKind) := goodIn_app (goodIn_of _ (by decide +kernel)) ggX3_as_X3_isKind
set_option maxRecDepth 20000 in
theorem ggX3_as_X3_finding : GoodIn wsX3_as wsX3_finding := goodIn_r _ [15, 16, 17, 29, 30, 31, 32, 33, 34, 35, 36, 37] (by decide +kernel) (by decide +kernel)
set_option maxRecDepth 20000 in
theorem gX3_as_X3_finding : GoodIn wsX3_as (wsV RX3 54 RX3 yX3_finding wsX3_finding) := goodIn_app (goodIn_of _ (by decide +kernel)) ggX3_as_X3_finding
set_option maxRecDepth 20000 in
theorem ggX3_as_X3_isPlayer : GoodIn wsX3_as wsX3_isPlayer := goodIn_r _ [21, 1, 22, 29, 30, 31, 32, 33, 34, 35, 36, 37, 38, 39, 40, 41, 42, 43, 44, 45, 46, 47, 48, 49, 50] (by decide +kernel) (by decide +kernel)
set_option maxRecDepth 20000 in
theorem gX3_as_X3_isPlayer : GoodIn wsX3_as (wsV RX3 81 RX3 yX3_isPlayer wsX3_isPlayer) := goodIn_app (goodIn_of _ (by decide +kernel)) ggX3_as_X3_isPlayer
set_option maxRecDepth 20000 in
theorem ggX3_as_X0_isOne : GoodIn wsX3_as wsX0_isOne := goodIn_r _ [27, 28, 38, 39, 40, 41, 42, 43, 44, 45, 46, 47, 48, 49, 50] (by decide +kernel) (by decide +kernel)
set_option maxRecDepth 20000 in
theorem gX3_as_X0_isOne : GoodIn wsX3_as (wsV RX3 212 RX0 yX0_isOne wsX0_isOne) := goodIn_app (goodIn_of _ (by decide +kernel)) ggX3_as_X0_isOne
theorem dX3_as_0 : decode cX3_as 0 = .ok (.aload_n 0, 1) := by decide +kernel
theorem dX3_as_1 : decode cX3_as 1 = .ok (.iload_n 1, 1) := by decide +kernel
theorem dX3_as_2 : decode cX3_as 2 = .ok (.invokevirtual 206, 3) := by decide +kernel
theorem dX3_as_5 : decode cX3_as 5 = .ok (.ifCond .eq 11, 3) := by decide +kernel
theorem dX3_as_8 : decode cX3_as 8 = .ok (.aload_n 0, 1) := by decide +kernel
theorem dX3_as_9 : decode cX3_as 9 = .ok (.iload_n 2, 1) := by decide +kernel
theorem dX3_as_10 : decode cX3_as 10 = .ok (.invokevirtual 67, 3) := by decide +kernel
theorem dX3_as_13 : decode cX3_as 13 = .ok (.ifCond .ne 9, 3) := by decide +kernel
theorem dX3_as_16 : decode cX3_as 16 = .ok (.aload_n 0, 1) := by decide +kernel
theorem dX3_as_17 : decode cX3_as 17 = .ok (.iconst 0, 1) := by decide +kernel
theorem dX3_as_18 : decode cX3_as 18 = .ok (.invokevirtual 54, 3) := by decide +kernel
theorem dX3_as_21 : decode cX3_as 21 = .ok (.ireturn, 1) := by decide +kernel
theorem dX3_as_22 : decode cX3_as 22 = .ok (.aload_n 0, 1) := by decide +kernel
theorem dX3_as_23 : decode cX3_as 23 = .ok (.getfield 10, 3) := by decide +kernel
theorem dX3_as_26 : decode cX3_as 26 = .ok (.getfield 209, 3) := by decide +kernel
theorem dX3_as_29 : decode cX3_as 29 = .ok (.iload_n 1, 1) := by decide +kernel
theorem dX3_as_30 : decode cX3_as 30 = .ok (.iaload, 1) := by decide +kernel
theorem dX3_as_31 : decode cX3_as 31 = .ok (.istore_n 3, 1) := by decide +kernel
theorem dX3_as_32 : decode cX3_as 32 = .ok (.aload_n 0, 1) := by decide +kernel
theorem dX3_as_33 : decode cX3_as 33 = .ok (.iload_n 3, 1) := by decide +kernel
theorem dX3_as_34 : decode cX3_as 34 = .ok (.invokevirtual 81, 3) := by decide +kernel
theorem dX3_as_37 : decode cX3_as 37 = .ok (.ifCond .ne 9, 3) := by decide +kernel
theorem dX3_as_40 : decode cX3_as 40 = .ok (.aload_n 0, 1) := by decide +kernel
theorem dX3_as_41 : decode cX3_as 41 = .ok (.iconst 5, 1) := by decide +kernel
theorem dX3_as_42 : decode cX3_as 42 = .ok (.invokevirtual 54, 3) := by decide +kernel
theorem dX3_as_45 : decode cX3_as 45 = .ok (.ireturn, 1) := by decide +kernel
theorem dX3_as_46 : decode cX3_as 46 = .ok (.aload_n 0, 1) := by decide +kernel
theorem dX3_as_47 : decode cX3_as 47 = .ok (.getfield 10, 3) := by decide +kernel
theorem dX3_as_50 : decode cX3_as 50 = .ok (.iload_n 3, 1) := by decide +kernel
theorem dX3_as_51 : decode cX3_as 51 = .ok (.iload_n 2, 1) := by decide +kernel
theorem dX3_as_52 : decode cX3_as 52 = .ok (.invokevirtual 212, 3) := by decide +kernel
theorem dX3_as_55 : decode cX3_as 55 = .ok (.ifCond .eq 7, 3) := by decide +kernel
theorem dX3_as_58 : decode cX3_as 58 = .ok (.iload_n 3, 1) := by decide +kernel
theorem dX3_as_59 : decode cX3_as 59 = .ok (.goto 8, 3) := by decide +kernel
theorem dX3_as_62 : decode cX3_as 62 = .ok (.aload_n 0, 1) := by decide +kernel
theorem dX3_as_63 : decode cX3_as 63 = .ok (.iconst 2, 1) := by decide +kernel
theorem dX3_as_64 : decode cX3_as 64 = .ok (.invokevirtual 54, 3) := by decide +kernel
theorem dX3_as_67 : decode cX3_as 67 = .ok (.ireturn, 1) := by decide +kernel
set_option maxRecDepth 20000 in
theorem ggX3_sheet_X3_isSheet : GoodIn wsX3_sheet wsX3_isSheet := goodIn_r _ [7] (by decide +kernel) (by decide +kernel)
set_option maxRecDepth 20000 in
theorem gX3_sheet_X3_isSheet : GoodIn wsX3_sheet (wsV RX3 215 RX3 yX3_isSheet wsX3_isSheet) := goodIn_app (goodIn_of _ (by decide +kernel)) ggX3_sheet_X3_isSheet
set_option maxRecDepth 20000 in
theorem ggX3_sheet_X3_finding : GoodIn wsX3_sheet wsX3_finding := goodIn_r _ [11, 12, 13, 22, 23, 24, 25, 26, 27, 28, 29, 30] (by decide +kernel) (by decide +kernel)
set_option maxRecDepth 20000 in
theorem gX3_sheet_X3_finding : GoodIn wsX3_sheet (wsV RX3 54 RX3 yX3_finding wsX3_finding) := goodIn_app (goodIn_of _ (by decide +kernel)) ggX3_sheet_X3_finding
set_option maxRecDepth 20000 in
theorem ggX3_sheet_X1_begin : GoodIn wsX3_sheet wsX1_begin := goodIn_r _ [18, 19, 20, 21, 31, 32, 33] (by decide +kernel) (by decide +kernel)
set_option maxRecDepth 20000 in
theorem gX3_sheet_X1_begin : GoodIn wsX3_sheet (wsV RX3 218 RX1 yX1_begin wsX1_begin) := goodIn_app (goodIn_of _ (by decide +kernel)) ggX3_sheet_X1_begin
theorem dX3_sheet_0 : decode cX3_sheet 0 = .ok (.aload_n 0, 1) := by decide +kernel
theorem dX3_sheet_1 : decode cX3_sheet 1 = .ok (.iload_n 1, 1) := by decide +kernel
theorem dX3_sheet_2 : decode cX3_sheet 2 = .ok (.invokevirtual 215, 3) := by decide +kernel
theorem dX3_sheet_5 : decode cX3_sheet 5 = .ok (.ifCond .eq 25, 3) := by decide +kernel
theorem dX3_sheet_8 : decode cX3_sheet 8 = .ok (.iload_n 2, 1) := by decide +kernel
theorem dX3_sheet_9 : decode cX3_sheet 9 = .ok (.ifCond .eq 27, 3) := by decide +kernel
theorem dX3_sheet_12 : decode cX3_sheet 12 = .ok (.iload_n 2, 1) := by decide +kernel
theorem dX3_sheet_13 : decode cX3_sheet 13 = .ok (.bipush 8, 2) := by decide +kernel
theorem dX3_sheet_15 : decode cX3_sheet 15 = .ok (.if_icmp .eq 21, 3) := by decide +kernel
theorem dX3_sheet_18 : decode cX3_sheet 18 = .ok (.iload_n 2, 1) := by decide +kernel
theorem dX3_sheet_19 : decode cX3_sheet 19 = .ok (.bipush 16, 2) := by decide +kernel
theorem dX3_sheet_21 : decode cX3_sheet 21 = .ok (.if_icmp .eq 15, 3) := by decide +kernel
theorem dX3_sheet_24 : decode cX3_sheet 24 = .ok (.iload_n 2, 1) := by decide +kernel
theorem dX3_sheet_25 : decode cX3_sheet 25 = .ok (.bipush 32, 2) := by decide +kernel
theorem dX3_sheet_27 : decode cX3_sheet 27 = .ok (.if_icmp .eq 9, 3) := by decide +kernel
theorem dX3_sheet_30 : decode cX3_sheet 30 = .ok (.aload_n 0, 1) := by decide +kernel
theorem dX3_sheet_31 : decode cX3_sheet 31 = .ok (.iconst 0, 1) := by decide +kernel
theorem dX3_sheet_32 : decode cX3_sheet 32 = .ok (.invokevirtual 54, 3) := by decide +kernel
theorem dX3_sheet_35 : decode cX3_sheet 35 = .ok (.ireturn, 1) := by decide +kernel
theorem dX3_sheet_36 : decode cX3_sheet 36 = .ok (.iload_n 3, 1) := by decide +kernel
theorem dX3_sheet_37 : decode cX3_sheet 37 = .ok (.ifCond .ge 10, 3) := by decide +kernel
theorem dX3_sheet_40 : decode cX3_sheet 40 = .ok (.aload_n 0, 1) := by decide +kernel
theorem dX3_sheet_41 : decode cX3_sheet 41 = .ok (.bipush 6, 2) := by decide +kernel
theorem dX3_sheet_43 : decode cX3_sheet 43 = .ok (.invokevirtual 54, 3) := by decide +kernel
theorem dX3_sheet_46 : decode cX3_sheet 46 = .ok (.ireturn, 1) := by decide +kernel
theorem dX3_sheet_47 : decode cX3_sheet 47 = .ok (.iload_n 3, 1) := by decide +kernel
theorem dX3_sheet_48 : decode cX3_sheet 48 = .ok (.bipush 40, 2) := by decide +kernel
theorem dX3_sheet_50 : decode cX3_sheet 50 = .ok (.if_icmp .le 9, 3) := by decide +kernel
theorem dX3_sheet_53 : decode cX3_sheet 53 = .ok (.aload_n 0, 1) := by decide +kernel
theorem dX3_sheet_54 : decode cX3_sheet 54 = .ok (.iconst 0, 1) := by decide +kernel
theorem dX3_sheet_55 : decode cX3_sheet 55 = .ok (.invokevirtual 54, 3) := by decide +kernel
theorem dX3_sheet_58 : decode cX3_sheet 58 = .ok (.ireturn, 1) := by decide +kernel
theorem dX3_sheet_59 : decode cX3_sheet 59 = .ok (.aload_n 0, 1) := by decide +kernel
theorem dX3_sheet_60 : decode cX3_sheet 60 = .ok (.getfield 35, 3) := by decide +kernel
theorem dX3_sheet_63 : decode cX3_sheet 63 = .ok (.iload_n 1, 1) := by decide +kernel
theorem dX3_sheet_64 : decode cX3_sheet 64 = .ok (.aaload, 1) := by decide +kernel
theorem dX3_sheet_65 : decode cX3_sheet 65 = .ok (.iload_n 2, 1) := by decide +kernel
theorem dX3_sheet_66 : decode cX3_sheet 66 = .ok (.iload_n 3, 1) := by decide +kernel
theorem dX3_sheet_67 : decode cX3_sheet 67 = .ok (.invokevirtual 218, 3) := by decide +kernel
theorem dX3_sheet_70 : decode cX3_sheet 70 = .ok (.aload_n 0, 1) := by decide +kernel
theorem dX3_sheet_71 : decode cX3_sheet 71 = .ok (.getfield 35, 3) := by decide +kernel
theorem dX3_sheet_74 : decode cX3_sheet 74 = .ok (.iload_n 1, 1) := by decide +kernel
theorem dX3_sheet_75 : decode cX3_sheet 75 = .ok (.aaload, 1) := by decide +kernel
theorem dX3_sheet_76 : decode cX3_sheet 76 = .ok (.getfield 221, 3) := by decide +kernel
theorem dX3_sheet_79 : decode cX3_sheet 79 = .ok (.ireturn, 1) := by decide +kernel
set_option maxRecDepth 20000 in
theorem ggX3_write_X3_lackOf : GoodIn wsX3_write wsX3_lackOf := goodIn_r _ [7, 1, 8, 9, 10, 6, 11, 12, 13, 14, 15, 16, 17, 29, 30, 31, 32, 33, 34, 35, 36, 37, 38, 39, 40] (by decide +kernel) (by decide +kernel)
set_option maxRecDepth 20000 in
theorem gX3_write_X3_lackOf : GoodIn wsX3_write (wsV RX3 222 RX3 yX3_lackOf wsX3_lackOf) := goodIn_app (goodIn_of _ (by decide +kernel)) ggX3_write_X3_lackOf
set_option maxRecDepth 20000 in
theorem ggX3_write_X3_finding : GoodIn wsX3_write wsX3_finding := goodIn_r _ [21, 22, 23, 29, 30, 31, 32, 33, 34, 35, 36, 37] (by decide +kernel) (by decide +kernel)
set_option maxRecDepth 20000 in
theorem gX3_write_X3_finding : GoodIn wsX3_write (wsV RX3 54 RX3 yX3_finding wsX3_finding) := goodIn_app (goodIn_of _ (by decide +kernel)) ggX3_write_X3_finding
set_option maxRecDepth 20000 in
theorem ggX3_write_X1_set : GoodIn wsX3_write wsX1_set := goodIn_r _ [27, 17, 28, 38, 39, 40] (by decide +kernel) (by decide +kernel)
set_option maxRecDepth 20000 in
theorem gX3_write_X1_set : GoodIn wsX3_write (wsV RX3 225 RX1 yX1_set wsX1_set) := goodIn_app (goodIn_of _ (by decide +kernel)) ggX3_write_X1_set
theorem dX3_write_0 : decode cX3_write 0 = .ok (.aload_n 0, 1) := by decide +kernel
theorem dX3_write_1 : decode cX3_write 1 = .ok (.iload_n 1, 1) := by decide +kernel
theorem dX3_write_2 : decode cX3_write 2 = .ok (.invokevirtual 222, 3) := by decide +kernel
theorem dX3_write_5 : decode cX3_write 5 = .ok (.istore 4, 2) := by decide +kernel
theorem dX3_write_7 : decode cX3_write 7 = .ok (.iload 4, 2) := by decide +kernel
theorem dX3_write_9 : decode cX3_write 9 = .ok (.iconst (-1), 1) := by decide +kernel
theorem dX3_write_10 : decode cX3_write 10 = .ok (.if_icmp .eq 10, 3) := by decide +kernel
theorem dX3_write_13 : decode cX3_write 13 = .ok (.aload_n 0, 1) := by decide +kernel
theorem dX3_write_14 : decode cX3_write 14 = .ok (.iload 4, 2) := by decide +kernel
theorem dX3_write_16 : decode cX3_write 16 = .ok (.invokevirtual 54, 3) := by decide +kernel
theorem dX3_write_19 : decode cX3_write 19 = .ok (.ireturn, 1) := by decide +kernel
theorem dX3_write_20 : decode cX3_write 20 = .ok (.iload_n 2, 1) := by decide +kernel
theorem dX3_write_21 : decode cX3_write 21 = .ok (.ifCond .lt 16, 3) := by decide +kernel
theorem dX3_write_24 : decode cX3_write 24 = .ok (.iload_n 2, 1) := by decide +kernel
theorem dX3_write_25 : decode cX3_write 25 = .ok (.aload_n 0, 1) := by decide +kernel
theorem dX3_write_26 : decode cX3_write 26 = .ok (.getfield 35, 3) := by decide +kernel
theorem dX3_write_29 : decode cX3_write 29 = .ok (.iload_n 1, 1) := by decide +kernel
theorem dX3_write_30 : decode cX3_write 30 = .ok (.aaload, 1) := by decide +kernel
theorem dX3_write_31 : decode cX3_write 31 = .ok (.getfield 221, 3) := by decide +kernel
theorem dX3_write_34 : decode cX3_write 34 = .ok (.if_icmp .lt 9, 3) := by decide +kernel
theorem dX3_write_37 : decode cX3_write 37 = .ok (.aload_n 0, 1) := by decide +kernel
theorem dX3_write_38 : decode cX3_write 38 = .ok (.iconst 0, 1) := by decide +kernel
theorem dX3_write_39 : decode cX3_write 39 = .ok (.invokevirtual 54, 3) := by decide +kernel
theorem dX3_write_42 : decode cX3_write 42 = .ok (.ireturn, 1) := by decide +kernel
theorem dX3_write_43 : decode cX3_write 43 = .ok (.aload_n 0, 1) := by decide +kernel
theorem dX3_write_44 : decode cX3_write 44 = .ok (.getfield 35, 3) := by decide +kernel
theorem dX3_write_47 : decode cX3_write 47 = .ok (.iload_n 1, 1) := by decide +kernel
theorem dX3_write_48 : decode cX3_write 48 = .ok (.aaload, 1) := by decide +kernel
theorem dX3_write_49 : decode cX3_write 49 = .ok (.iload_n 2, 1) := by decide +kernel
theorem dX3_write_50 : decode cX3_write 50 = .ok (.iload_n 3, 1) := by decide +kernel
theorem dX3_write_51 : decode cX3_write 51 = .ok (.invokevirtual 225, 3) := by decide +kernel
theorem dX3_write_54 : decode cX3_write 54 = .ok (.iconst 1, 1) := by decide +kernel
theorem dX3_write_55 : decode cX3_write 55 = .ok (.ireturn, 1) := by decide +kernel
set_option maxRecDepth 20000 in
theorem ggX3_copy_X3_isSheet : GoodIn wsX3_copy wsX3_isSheet := goodIn_r _ [12] (by decide +kernel) (by decide +kernel)
set_option maxRecDepth 20000 in
theorem gX3_copy_X3_isSheet : GoodIn wsX3_copy (wsV RX3 215 RX3 yX3_isSheet wsX3_isSheet) := goodIn_app (goodIn_of _ (by decide +kernel)) ggX3_copy_X3_isSheet
set_option maxRecDepth 20000 in
theorem ggX3_copy_X3_finding : GoodIn wsX3_copy wsX3_finding := goodIn_r _ [16, 17, 18, 30, 31, 32, 33, 34, 35, 36, 37, 38] (by decide +kernel) (by decide +kernel)
set_option maxRecDepth 20000 in
theorem gX3_copy_X3_finding : GoodIn wsX3_copy (wsV RX3 54 RX3 yX3_finding wsX3_finding) := goodIn_app (goodIn_of _ (by decide +kernel)) ggX3_copy_X3_finding
set_option maxRecDepth 20000 in
theorem ggX3_copy_X1_isMissing : GoodIn wsX3_copy wsX1_isMissing := goodIn_r _ [23, 24, 39, 40, 41] (by decide +kernel) (by decide +kernel)
set_option maxRecDepth 20000 in
theorem gX3_copy_X1_isMissing : GoodIn wsX3_copy (wsV RX3 228 RX1 yX1_isMissing wsX1_isMissing) := goodIn_app (goodIn_of _ (by decide +kernel)) ggX3_copy_X1_isMissing
set_option maxRecDepth 20000 in
theorem ggX3_copy_X1_hasRange : GoodIn wsX3_copy wsX1_hasRange := goodIn_r _ [28, 29, 39, 40, 41] (by decide +kernel) (by decide +kernel)
set_option maxRecDepth 20000 in
theorem gX3_copy_X1_hasRange : GoodIn wsX3_copy (wsV RX3 234 RX1 yX1_hasRange wsX1_hasRange) := goodIn_app (goodIn_of _ (by decide +kernel)) ggX3_copy_X1_hasRange
theorem dX3_copy_0 : decode cX3_copy 0 = .ok (.aload_n 0, 1) := by decide +kernel
theorem dX3_copy_1 : decode cX3_copy 1 = .ok (.iload_n 1, 1) := by decide +kernel
theorem dX3_copy_2 : decode cX3_copy 2 = .ok (.invokevirtual 215, 3) := by decide +kernel
theorem dX3_copy_5 : decode cX3_copy 5 = .ok (.ifCond .eq 11, 3) := by decide +kernel
theorem dX3_copy_8 : decode cX3_copy 8 = .ok (.aload_n 0, 1) := by decide +kernel
theorem dX3_copy_9 : decode cX3_copy 9 = .ok (.iload_n 3, 1) := by decide +kernel
theorem dX3_copy_10 : decode cX3_copy 10 = .ok (.invokevirtual 215, 3) := by decide +kernel
theorem dX3_copy_13 : decode cX3_copy 13 = .ok (.ifCond .ne 9, 3) := by decide +kernel
theorem dX3_copy_16 : decode cX3_copy 16 = .ok (.aload_n 0, 1) := by decide +kernel
theorem dX3_copy_17 : decode cX3_copy 17 = .ok (.iconst 0, 1) := by decide +kernel
theorem dX3_copy_18 : decode cX3_copy 18 = .ok (.invokevirtual 54, 3) := by decide +kernel
theorem dX3_copy_21 : decode cX3_copy 21 = .ok (.ireturn, 1) := by decide +kernel
theorem dX3_copy_22 : decode cX3_copy 22 = .ok (.aload_n 0, 1) := by decide +kernel
theorem dX3_copy_23 : decode cX3_copy 23 = .ok (.getfield 35, 3) := by decide +kernel
theorem dX3_copy_26 : decode cX3_copy 26 = .ok (.iload_n 1, 1) := by decide +kernel
theorem dX3_copy_27 : decode cX3_copy 27 = .ok (.aaload, 1) := by decide +kernel
theorem dX3_copy_28 : decode cX3_copy 28 = .ok (.invokevirtual 228, 3) := by decide +kernel
theorem dX3_copy_31 : decode cX3_copy 31 = .ok (.ifCond .ne 15, 3) := by decide +kernel
theorem dX3_copy_34 : decode cX3_copy 34 = .ok (.aload_n 0, 1) := by decide +kernel
theorem dX3_copy_35 : decode cX3_copy 35 = .ok (.getfield 35, 3) := by decide +kernel
theorem dX3_copy_38 : decode cX3_copy 38 = .ok (.iload_n 3, 1) := by decide +kernel
theorem dX3_copy_39 : decode cX3_copy 39 = .ok (.aaload, 1) := by decide +kernel
theorem dX3_copy_40 : decode cX3_copy 40 = .ok (.invokevirtual 228, 3) := by decide +kernel
theorem dX3_copy_43 : decode cX3_copy 43 = .ok (.ifCond .eq 9, 3) := by decide +kernel
theorem dX3_copy_46 : decode cX3_copy 46 = .ok (.aload_n 0, 1) := by decide +kernel
theorem dX3_copy_47 : decode cX3_copy 47 = .ok (.iconst 5, 1) := by decide +kernel
theorem dX3_copy_48 : decode cX3_copy 48 = .ok (.invokevirtual 54, 3) := by decide +kernel
theorem dX3_copy_51 : decode cX3_copy 51 = .ok (.ireturn, 1) := by decide +kernel
theorem dX3_copy_52 : decode cX3_copy 52 = .ok (.aload_n 0, 1) := by decide +kernel
theorem dX3_copy_53 : decode cX3_copy 53 = .ok (.getfield 35, 3) := by decide +kernel
theorem dX3_copy_56 : decode cX3_copy 56 = .ok (.iload_n 1, 1) := by decide +kernel
theorem dX3_copy_57 : decode cX3_copy 57 = .ok (.aaload, 1) := by decide +kernel
theorem dX3_copy_58 : decode cX3_copy 58 = .ok (.getfield 231, 3) := by decide +kernel
theorem dX3_copy_61 : decode cX3_copy 61 = .ok (.aload_n 0, 1) := by decide +kernel
theorem dX3_copy_62 : decode cX3_copy 62 = .ok (.getfield 35, 3) := by decide +kernel
theorem dX3_copy_65 : decode cX3_copy 65 = .ok (.iload_n 3, 1) := by decide +kernel
theorem dX3_copy_66 : decode cX3_copy 66 = .ok (.aaload, 1) := by decide +kernel
theorem dX3_copy_67 : decode cX3_copy 67 = .ok (.getfield 231, 3) := by decide +kernel
theorem dX3_copy_70 : decode cX3_copy 70 = .ok (.if_icmp .eq 9, 3) := by decide +kernel
theorem dX3_copy_73 : decode cX3_copy 73 = .ok (.aload_n 0, 1) := by decide +kernel
theorem dX3_copy_74 : decode cX3_copy 74 = .ok (.iconst 2, 1) := by decide +kernel
theorem dX3_copy_75 : decode cX3_copy 75 = .ok (.invokevirtual 54, 3) := by decide +kernel
theorem dX3_copy_78 : decode cX3_copy 78 = .ok (.ireturn, 1) := by decide +kernel
theorem dX3_copy_79 : decode cX3_copy 79 = .ok (.aload_n 0, 1) := by decide +kernel
theorem dX3_copy_80 : decode cX3_copy 80 = .ok (.getfield 35, 3) := by decide +kernel
theorem dX3_copy_83 : decode cX3_copy 83 = .ok (.iload_n 1, 1) := by decide +kernel
theorem dX3_copy_84 : decode cX3_copy 84 = .ok (.aaload, 1) := by decide +kernel
theorem dX3_copy_85 : decode cX3_copy 85 = .ok (.iload_n 2, 1) := by decide +kernel
theorem dX3_copy_86 : decode cX3_copy 86 = .ok (.iload 5, 2) := by decide +kernel
theorem dX3_copy_88 : decode cX3_copy 88 = .ok (.invokevirtual 234, 3) := by decide +kernel
theorem dX3_copy_91 : decode cX3_copy 91 = .ok (.ifCond .eq 19, 3) := by decide +kernel
theorem dX3_copy_94 : decode cX3_copy 94 = .ok (.aload_n 0, 1) := by decide +kernel
theorem dX3_copy_95 : decode cX3_copy 95 = .ok (.getfield 35, 3) := by decide +kernel
theorem dX3_copy_98 : decode cX3_copy 98 = .ok (.iload_n 3, 1) := by decide +kernel
theorem dX3_copy_99 : decode cX3_copy 99 = .ok (.aaload, 1) := by decide +kernel
theorem dX3_copy_100 : decode cX3_copy 100 = .ok (.iload 4, 2) := by decide +kernel
theorem dX3_copy_102 : decode cX3_copy 102 = .ok (.iload 5, 2) := by decide +kernel
theorem dX3_copy_104 : decode cX3_copy 104 = .ok (.invokevirtual 234, 3) := by decide +kernel
theorem dX3_copy_107 : decode cX3_copy 107 = .ok (.ifCond .ne 9, 3) := by decide +kernel
theorem dX3_copy_110 : decode cX3_copy 110 = .ok (.aload_n 0, 1) := by decide +kernel
theorem dX3_copy_111 : decode cX3_copy 111 = .ok (.iconst 0, 1) := by decide +kernel
theorem dX3_copy_112 : decode cX3_copy 112 = .ok (.invokevirtual 54, 3) := by decide +kernel
theorem dX3_copy_115 : decode cX3_copy 115 = .ok (.ireturn, 1) := by decide +kernel
theorem dX3_copy_116 : decode cX3_copy 116 = .ok (.aload_n 0, 1) := by decide +kernel
theorem dX3_copy_117 : decode cX3_copy 117 = .ok (.getfield 35, 3) := by decide +kernel
theorem dX3_copy_120 : decode cX3_copy 120 = .ok (.iload_n 1, 1) := by decide +kernel
theorem dX3_copy_121 : decode cX3_copy 121 = .ok (.aaload, 1) := by decide +kernel
theorem dX3_copy_122 : decode cX3_copy 122 = .ok (.getfield 237, 3) := by decide +kernel
theorem dX3_copy_125 : decode cX3_copy 125 = .ok (.iload_n 2, 1) := by decide +kernel
theorem dX3_copy_126 : decode cX3_copy 126 = .ok (.aload_n 0, 1) := by decide +kernel
theorem dX3_copy_127 : decode cX3_copy 127 = .ok (.getfield 35, 3) := by decide +kernel
theorem dX3_copy_130 : decode cX3_copy 130 = .ok (.iload_n 3, 1) := by decide +kernel
theorem dX3_copy_131 : decode cX3_copy 131 = .ok (.aaload, 1) := by decide +kernel
theorem dX3_copy_132 : decode cX3_copy 132 = .ok (.getfield 237, 3) := by decide +kernel
theorem dX3_copy_135 : decode cX3_copy 135 = .ok (.iload 4, 2) := by decide +kernel
theorem dX3_copy_137 : decode cX3_copy 137 = .ok (.iload 5, 2) := by decide +kernel
theorem dX3_copy_139 : decode cX3_copy 139 = .ok (.invokestatic 240, 3) := by decide +kernel
theorem dX3_copy_142 : decode cX3_copy 142 = .ok (.iload 5, 2) := by decide +kernel
theorem dX3_copy_144 : decode cX3_copy 144 = .ok (.ireturn, 1) := by decide +kernel
set_option maxRecDepth 20000 in
theorem ggX3_load_X3_lackOf : GoodIn wsX3_load wsX3_lackOf := goodIn_r _ [10, 1, 11, 12, 13, 9, 14, 15, 16, 17, 18, 19, 20, 27, 28, 29, 30, 31, 32, 33, 34, 35, 36, 37, 38] (by decide +kernel) (by decide +kernel)
set_option maxRecDepth 20000 in
theorem gX3_load_X3_lackOf : GoodIn wsX3_load (wsV RX3 222 RX3 yX3_lackOf wsX3_lackOf) := goodIn_app (goodIn_of _ (by decide +kernel)) ggX3_load_X3_lackOf
set_option maxRecDepth 20000 in
theorem ggX3_load_X3_finding : GoodIn wsX3_load wsX3_finding := goodIn_r _ [24, 25, 26, 27, 28, 29, 30, 31, 32, 33, 34, 35] (by decide +kernel) (by decide +kernel)
set_option maxRecDepth 20000 in
theorem gX3_load_X3_finding : GoodIn wsX3_load (wsV RX3 54 RX3 yX3_finding wsX3_finding) := goodIn_app (goodIn_of _ (by decide +kernel)) ggX3_load_X3_finding
theorem dX3_load_0 : decode cX3_load 0 = .ok (.aload_n 0, 1) := by decide +kernel
theorem dX3_load_1 : decode cX3_load 1 = .ok (.iload_n 1, 1) := by decide +kernel
theorem dX3_load_2 : decode cX3_load 2 = .ok (.invokevirtual 222, 3) := by decide +kernel
theorem dX3_load_5 : decode cX3_load 5 = .ok (.istore_n 2, 1) := by decide +kernel
theorem dX3_load_6 : decode cX3_load 6 = .ok (.iload_n 2, 1) := by decide +kernel
theorem dX3_load_7 : decode cX3_load 7 = .ok (.iconst (-1), 1) := by decide +kernel
theorem dX3_load_8 : decode cX3_load 8 = .ok (.if_icmp .eq 9, 3) := by decide +kernel
theorem dX3_load_11 : decode cX3_load 11 = .ok (.aload_n 0, 1) := by decide +kernel
theorem dX3_load_12 : decode cX3_load 12 = .ok (.iload_n 2, 1) := by decide +kernel
theorem dX3_load_13 : decode cX3_load 13 = .ok (.invokevirtual 54, 3) := by decide +kernel
theorem dX3_load_16 : decode cX3_load 16 = .ok (.ireturn, 1) := by decide +kernel
theorem dX3_load_17 : decode cX3_load 17 = .ok (.iconst 0, 1) := by decide +kernel
theorem dX3_load_18 : decode cX3_load 18 = .ok (.istore_n 3, 1) := by decide +kernel
theorem dX3_load_19 : decode cX3_load 19 = .ok (.iconst 0, 1) := by decide +kernel
theorem dX3_load_20 : decode cX3_load 20 = .ok (.istore 4, 2) := by decide +kernel
theorem dX3_load_22 : decode cX3_load 22 = .ok (.iload 4, 2) := by decide +kernel
theorem dX3_load_24 : decode cX3_load 24 = .ok (.aload_n 0, 1) := by decide +kernel
theorem dX3_load_25 : decode cX3_load 25 = .ok (.getfield 35, 3) := by decide +kernel
theorem dX3_load_28 : decode cX3_load 28 = .ok (.iload_n 1, 1) := by decide +kernel
theorem dX3_load_29 : decode cX3_load 29 = .ok (.aaload, 1) := by decide +kernel
theorem dX3_load_30 : decode cX3_load 30 = .ok (.getfield 221, 3) := by decide +kernel
theorem dX3_load_33 : decode cX3_load 33 = .ok (.if_icmp .ge 60, 3) := by decide +kernel
theorem dX3_load_36 : decode cX3_load 36 = .ok (.iload 4, 2) := by decide +kernel
theorem dX3_load_38 : decode cX3_load 38 = .ok (.bipush 12, 2) := by decide +kernel
theorem dX3_load_40 : decode cX3_load 40 = .ok (.if_icmp .ge 53, 3) := by decide +kernel
theorem dX3_load_43 : decode cX3_load 43 = .ok (.aload_n 0, 1) := by decide +kernel
theorem dX3_load_44 : decode cX3_load 44 = .ok (.getfield 35, 3) := by decide +kernel
theorem dX3_load_47 : decode cX3_load 47 = .ok (.iload_n 1, 1) := by decide +kernel
theorem dX3_load_48 : decode cX3_load 48 = .ok (.aaload, 1) := by decide +kernel
theorem dX3_load_49 : decode cX3_load 49 = .ok (.getfield 237, 3) := by decide +kernel
theorem dX3_load_52 : decode cX3_load 52 = .ok (.iload 4, 2) := by decide +kernel
theorem dX3_load_54 : decode cX3_load 54 = .ok (.iaload, 1) := by decide +kernel
theorem dX3_load_55 : decode cX3_load 55 = .ok (.istore 5, 2) := by decide +kernel
theorem dX3_load_57 : decode cX3_load 57 = .ok (.iload 5, 2) := by decide +kernel
theorem dX3_load_59 : decode cX3_load 59 = .ok (.ifCond .lt 34, 3) := by decide +kernel
theorem dX3_load_62 : decode cX3_load 62 = .ok (.iload 5, 2) := by decide +kernel
theorem dX3_load_64 : decode cX3_load 64 = .ok (.bipush 64, 2) := by decide +kernel
theorem dX3_load_66 : decode cX3_load 66 = .ok (.if_icmp .lt 6, 3) := by decide +kernel
theorem dX3_load_69 : decode cX3_load 69 = .ok (.goto 24, 3) := by decide +kernel
theorem dX3_load_72 : decode cX3_load 72 = .ok (.aload_n 0, 1) := by decide +kernel
theorem dX3_load_73 : decode cX3_load 73 = .ok (.getfield 10, 3) := by decide +kernel
theorem dX3_load_76 : decode cX3_load 76 = .ok (.getfield 58, 3) := by decide +kernel
theorem dX3_load_79 : decode cX3_load 79 = .ok (.iload 4, 2) := by decide +kernel
theorem dX3_load_81 : decode cX3_load 81 = .ok (.iload 5, 2) := by decide +kernel
theorem dX3_load_83 : decode cX3_load 83 = .ok (.iastore, 1) := by decide +kernel
theorem dX3_load_84 : decode cX3_load 84 = .ok (.iinc 3 1, 3) := by decide +kernel
theorem dX3_load_87 : decode cX3_load 87 = .ok (.iinc 4 1, 3) := by decide +kernel
theorem dX3_load_90 : decode cX3_load 90 = .ok (.goto (-68), 3) := by decide +kernel
theorem dX3_load_93 : decode cX3_load 93 = .ok (.iload_n 3, 1) := by decide +kernel
theorem dX3_load_94 : decode cX3_load 94 = .ok (.ireturn, 1) := by decide +kernel
set_option maxRecDepth 20000 in
theorem ggX3_judge_X3_lackOf : GoodIn wsX3_judge wsX3_lackOf := goodIn_r _ [9, 1, 10, 11, 12, 8, 13, 14, 15, 16, 17, 18, 19, 79, 80, 81, 82, 83, 84, 85, 86, 87, 88, 89, 90] (by decide +kernel) (by decide +kernel)
set_option maxRecDepth 20000 in
theorem gX3_judge_X3_lackOf : GoodIn wsX3_judge (wsV RX3 222 RX3 yX3_lackOf wsX3_lackOf) := goodIn_app (goodIn_of _ (by decide +kernel)) ggX3_judge_X3_lackOf
set_option maxRecDepth 20000 in
theorem ggX3_judge_X3_finding : GoodIn wsX3_judge wsX3_finding := goodIn_r _ [23, 24, 25, 79, 80, 81, 82, 83, 84, 85, 86, 87] (by decide +kernel) (by decide +kernel)
set_option maxRecDepth 20000 in
theorem gX3_judge_X3_finding : GoodIn wsX3_judge (wsV RX3 54 RX3 yX3_finding wsX3_finding) := goodIn_app (goodIn_of _ (by decide +kernel)) ggX3_judge_X3_finding
set_option maxRecDepth 20000 in
theorem ggX3_judge_X3_isPlayer : GoodIn wsX3_judge wsX3_isPlayer := goodIn_r _ [29, 4, 30, 79, 80, 81, 82, 83, 84, 85, 86, 87, 91, 92, 93, 94, 95, 96, 97, 98, 99, 100, 101, 102, 103] (by decide +kernel) (by decide +kernel)
set_option maxRecDepth 20000 in
theorem gX3_judge_X3_isPlayer : GoodIn wsX3_judge (wsV RX3 81 RX3 yX3_isPlayer wsX3_isPlayer) := goodIn_app (goodIn_of _ (by decide +kernel)) ggX3_judge_X3_isPlayer
set_option maxRecDepth 20000 in
theorem ggX3_judge_X3_isPair : GoodIn wsX3_judge wsX3_isPair := goodIn_r _ [34, 26, 27, 28, 8, 29, 4, 30, 79, 80, 81, 82, 83, 84, 85, 86, 87, 91, 92, 93, 94, 95, 96, 97, 98, 99, 100, 101, 102, 103] (by decide +kernel) (by decide +kernel)
set_option maxRecDepth 20000 in
theorem gX3_judge_X3_isPair : GoodIn wsX3_judge (wsV RX3 109 RX3 yX3_isPair wsX3_isPair) := goodIn_app (goodIn_of _ (by decide +kernel)) ggX3_judge_X3_isPair
set_option maxRecDepth 20000 in
theorem ggX3_judge_X0_barsHearing : GoodIn wsX3_judge wsX0_barsHearing := goodIn_r _ [39, 40, 41, 42, 38, 43, 44, 45, 46, 47, 48, 49, 50, 51, 52, 53, 54, 55, 56, 57, 58, 59, 60, 61, 62, 63, 64, 65, 66, 67, 68, 69, 70, 71, 72, 73, 74, 75, 76, 77, 78, 91, 92, 93, 94, 95, 96, 97, 98, 99, 100, 101, 102, 103] (by decide +kernel) (by decide +kernel)
set_option maxRecDepth 20000 in
theorem gX3_judge_X0_barsHearing : GoodIn wsX3_judge (wsV RX3 126 RX0 yX0_barsHearing wsX0_barsHearing) := goodIn_app (goodIn_of _ (by decide +kernel)) ggX3_judge_X0_barsHearing
theorem dX3_judge_0 : decode cX3_judge 0 = .ok (.aload_n 0, 1) := by decide +kernel
theorem dX3_judge_1 : decode cX3_judge 1 = .ok (.iload_n 1, 1) := by decide +kernel
theorem dX3_judge_2 : decode cX3_judge 2 = .ok (.invokevirtual 222, 3) := by decide +kernel
theorem dX3_judge_5 : decode cX3_judge 5 = .ok (.istore_n 2, 1) := by decide +kernel
theorem dX3_judge_6 : decode cX3_judge 6 = .ok (.iload_n 2, 1) := by decide +kernel
theorem dX3_judge_7 : decode cX3_judge 7 = .ok (.iconst (-1), 1) := by decide +kernel
theorem dX3_judge_8 : decode cX3_judge 8 = .ok (.if_icmp .eq 9, 3) := by decide +kernel
theorem dX3_judge_11 : decode cX3_judge 11 = .ok (.aload_n 0, 1) := by decide +kernel
theorem dX3_judge_12 : decode cX3_judge 12 = .ok (.iload_n 2, 1) := by decide +kernel
theorem dX3_judge_13 : decode cX3_judge 13 = .ok (.invokevirtual 54, 3) := by decide +kernel
theorem dX3_judge_16 : decode cX3_judge 16 = .ok (.ireturn, 1) := by decide +kernel
theorem dX3_judge_17 : decode cX3_judge 17 = .ok (.aload_n 0, 1) := by decide +kernel
theorem dX3_judge_18 : decode cX3_judge 18 = .ok (.getfield 35, 3) := by decide +kernel
theorem dX3_judge_21 : decode cX3_judge 21 = .ok (.iload_n 1, 1) := by decide +kernel
theorem dX3_judge_22 : decode cX3_judge 22 = .ok (.aaload, 1) := by decide +kernel
theorem dX3_judge_23 : decode cX3_judge 23 = .ok (.getfield 237, 3) := by decide +kernel
theorem dX3_judge_26 : decode cX3_judge 26 = .ok (.astore_n 3, 1) := by decide +kernel
theorem dX3_judge_27 : decode cX3_judge 27 = .ok (.iconst 0, 1) := by decide +kernel
theorem dX3_judge_28 : decode cX3_judge 28 = .ok (.istore 4, 2) := by decide +kernel
theorem dX3_judge_30 : decode cX3_judge 30 = .ok (.iload 4, 2) := by decide +kernel
theorem dX3_judge_32 : decode cX3_judge 32 = .ok (.aload_n 0, 1) := by decide +kernel
theorem dX3_judge_33 : decode cX3_judge 33 = .ok (.getfield 35, 3) := by decide +kernel
theorem dX3_judge_36 : decode cX3_judge 36 = .ok (.iload_n 1, 1) := by decide +kernel
theorem dX3_judge_37 : decode cX3_judge 37 = .ok (.aaload, 1) := by decide +kernel
theorem dX3_judge_38 : decode cX3_judge 38 = .ok (.getfield 221, 3) := by decide +kernel
theorem dX3_judge_41 : decode cX3_judge 41 = .ok (.if_icmp .ge 72, 3) := by decide +kernel
theorem dX3_judge_44 : decode cX3_judge 44 = .ok (.aload_n 0, 1) := by decide +kernel
theorem dX3_judge_45 : decode cX3_judge 45 = .ok (.aload_n 3, 1) := by decide +kernel
theorem dX3_judge_46 : decode cX3_judge 46 = .ok (.iload 4, 2) := by decide +kernel
theorem dX3_judge_48 : decode cX3_judge 48 = .ok (.iaload, 1) := by decide +kernel
theorem dX3_judge_49 : decode cX3_judge 49 = .ok (.invokevirtual 81, 3) := by decide +kernel
theorem dX3_judge_52 : decode cX3_judge 52 = .ok (.ifCond .ne 8, 3) := by decide +kernel
theorem dX3_judge_55 : decode cX3_judge 55 = .ok (.iconst 1, 1) := by decide +kernel
theorem dX3_judge_56 : decode cX3_judge 56 = .ok (.iload 4, 2) := by decide +kernel
theorem dX3_judge_58 : decode cX3_judge 58 = .ok (.iadd, 1) := by decide +kernel
theorem dX3_judge_59 : decode cX3_judge 59 = .ok (.ireturn, 1) := by decide +kernel
theorem dX3_judge_60 : decode cX3_judge 60 = .ok (.iload 4, 2) := by decide +kernel
theorem dX3_judge_62 : decode cX3_judge 62 = .ok (.ifCond .le 45, 3) := by decide +kernel
theorem dX3_judge_65 : decode cX3_judge 65 = .ok (.aload_n 0, 1) := by decide +kernel
theorem dX3_judge_66 : decode cX3_judge 66 = .ok (.aload_n 3, 1) := by decide +kernel
theorem dX3_judge_67 : decode cX3_judge 67 = .ok (.iload 4, 2) := by decide +kernel
theorem dX3_judge_69 : decode cX3_judge 69 = .ok (.iaload, 1) := by decide +kernel
theorem dX3_judge_70 : decode cX3_judge 70 = .ok (.aload_n 3, 1) := by decide +kernel
theorem dX3_judge_71 : decode cX3_judge 71 = .ok (.iload 4, 2) := by decide +kernel
theorem dX3_judge_73 : decode cX3_judge 73 = .ok (.iconst 1, 1) := by decide +kernel
theorem dX3_judge_74 : decode cX3_judge 74 = .ok (.isub, 1) := by decide +kernel
theorem dX3_judge_75 : decode cX3_judge 75 = .ok (.iaload, 1) := by decide +kernel
theorem dX3_judge_76 : decode cX3_judge 76 = .ok (.invokevirtual 109, 3) := by decide +kernel
theorem dX3_judge_79 : decode cX3_judge 79 = .ok (.ifCond .eq 23, 3) := by decide +kernel
theorem dX3_judge_82 : decode cX3_judge 82 = .ok (.aload_n 0, 1) := by decide +kernel
theorem dX3_judge_83 : decode cX3_judge 83 = .ok (.getfield 10, 3) := by decide +kernel
theorem dX3_judge_86 : decode cX3_judge 86 = .ok (.aload_n 3, 1) := by decide +kernel
theorem dX3_judge_87 : decode cX3_judge 87 = .ok (.iload 4, 2) := by decide +kernel
theorem dX3_judge_89 : decode cX3_judge 89 = .ok (.iaload, 1) := by decide +kernel
theorem dX3_judge_90 : decode cX3_judge 90 = .ok (.aload_n 3, 1) := by decide +kernel
theorem dX3_judge_91 : decode cX3_judge 91 = .ok (.iload 4, 2) := by decide +kernel
theorem dX3_judge_93 : decode cX3_judge 93 = .ok (.iconst 1, 1) := by decide +kernel
theorem dX3_judge_94 : decode cX3_judge 94 = .ok (.isub, 1) := by decide +kernel
theorem dX3_judge_95 : decode cX3_judge 95 = .ok (.iaload, 1) := by decide +kernel
theorem dX3_judge_96 : decode cX3_judge 96 = .ok (.invokevirtual 126, 3) := by decide +kernel
theorem dX3_judge_99 : decode cX3_judge 99 = .ok (.ifCond .ne 8, 3) := by decide +kernel
theorem dX3_judge_102 : decode cX3_judge 102 = .ok (.iconst 1, 1) := by decide +kernel
theorem dX3_judge_103 : decode cX3_judge 103 = .ok (.iload 4, 2) := by decide +kernel
theorem dX3_judge_105 : decode cX3_judge 105 = .ok (.iadd, 1) := by decide +kernel
theorem dX3_judge_106 : decode cX3_judge 106 = .ok (.ireturn, 1) := by decide +kernel
theorem dX3_judge_107 : decode cX3_judge 107 = .ok (.iinc 4 1, 3) := by decide +kernel
theorem dX3_judge_110 : decode cX3_judge 110 = .ok (.goto (-80), 3) := by decide +kernel
theorem dX3_judge_113 : decode cX3_judge 113 = .ok (.iconst 0, 1) := by decide +kernel
theorem dX3_judge_114 : decode cX3_judge 114 = .ok (.ireturn, 1) := by decide +kernel
set_option maxRecDepth 20000 in
theorem ggX3_image_X0_become : GoodIn wsX3_image wsX0_become := goodIn_r _ [8, 9, 10, 11, 12, 13, 14, 15, 16, 17, 18, 19, 20, 21, 22, 32, 33, 34, 35, 36, 37, 38, 39, 40, 41, 42, 43, 44] (by decide +kernel) (by decide +kernel)
set_option maxRecDepth 20000 in
theorem gX3_image_X0_become : GoodIn wsX3_image (wsV RX3 153 RX0 yX0_become wsX0_become) := goodIn_app (goodIn_of _ (by decide +kernel)) ggX3_image_X0_become
theorem dX3_image_0 : decode cX3_image 0 = .ok (.aload_n 0, 1) := by decide +kernel
theorem dX3_image_1 : decode cX3_image 1 = .ok (.getfield 19, 3) := by decide +kernel
theorem dX3_image_4 : decode cX3_image 4 = .ok (.aload_n 0, 1) := by decide +kernel
theorem dX3_image_5 : decode cX3_image 5 = .ok (.getfield 10, 3) := by decide +kernel
theorem dX3_image_8 : decode cX3_image 8 = .ok (.invokevirtual 153, 3) := by decide +kernel
theorem dX3_image_11 : decode cX3_image 11 = .ok (.aload_n 0, 1) := by decide +kernel
theorem dX3_image_12 : decode cX3_image 12 = .ok (.iconst 1, 1) := by decide +kernel
theorem dX3_image_13 : decode cX3_image 13 = .ok (.putfield 22, 3) := by decide +kernel
theorem dX3_image_16 : decode cX3_image 16 = .ok (.iconst 1, 1) := by decide +kernel
theorem dX3_image_17 : decode cX3_image 17 = .ok (.ireturn, 1) := by decide +kernel
set_option maxRecDepth 20000 in
theorem ggX3_undo_X3_finding : GoodIn wsX3_undo wsX3_finding := goodIn_r _ [9, 10, 11, 31, 32, 33, 34, 35, 36, 37, 38, 39] (by decide +kernel) (by decide +kernel)
set_option maxRecDepth 20000 in
theorem gX3_undo_X3_finding : GoodIn wsX3_undo (wsV RX3 54 RX3 yX3_finding wsX3_finding) := goodIn_app (goodIn_of _ (by decide +kernel)) ggX3_undo_X3_finding
set_option maxRecDepth 20000 in
theorem ggX3_undo_X0_become : GoodIn wsX3_undo wsX0_become := goodIn_r _ [16, 17, 18, 19, 20, 21, 22, 23, 24, 25, 26, 27, 28, 29, 30, 40, 41, 42, 43, 44, 45, 46, 47, 48, 49, 50, 51, 52] (by decide +kernel) (by decide +kernel)
set_option maxRecDepth 20000 in
theorem gX3_undo_X0_become : GoodIn wsX3_undo (wsV RX3 153 RX0 yX0_become wsX0_become) := goodIn_app (goodIn_of _ (by decide +kernel)) ggX3_undo_X0_become
theorem dX3_undo_0 : decode cX3_undo 0 = .ok (.aload_n 0, 1) := by decide +kernel
theorem dX3_undo_1 : decode cX3_undo 1 = .ok (.getfield 22, 3) := by decide +kernel
theorem dX3_undo_4 : decode cX3_undo 4 = .ok (.ifCond .ne 9, 3) := by decide +kernel
theorem dX3_undo_7 : decode cX3_undo 7 = .ok (.aload_n 0, 1) := by decide +kernel
theorem dX3_undo_8 : decode cX3_undo 8 = .ok (.iconst 3, 1) := by decide +kernel
theorem dX3_undo_9 : decode cX3_undo 9 = .ok (.invokevirtual 54, 3) := by decide +kernel
theorem dX3_undo_12 : decode cX3_undo 12 = .ok (.ireturn, 1) := by decide +kernel
theorem dX3_undo_13 : decode cX3_undo 13 = .ok (.aload_n 0, 1) := by decide +kernel
theorem dX3_undo_14 : decode cX3_undo 14 = .ok (.getfield 10, 3) := by decide +kernel
theorem dX3_undo_17 : decode cX3_undo 17 = .ok (.aload_n 0, 1) := by decide +kernel
theorem dX3_undo_18 : decode cX3_undo 18 = .ok (.getfield 19, 3) := by decide +kernel
theorem dX3_undo_21 : decode cX3_undo 21 = .ok (.invokevirtual 153, 3) := by decide +kernel
theorem dX3_undo_24 : decode cX3_undo 24 = .ok (.aload_n 0, 1) := by decide +kernel
theorem dX3_undo_25 : decode cX3_undo 25 = .ok (.getfield 10, 3) := by decide +kernel
theorem dX3_undo_28 : decode cX3_undo 28 = .ok (.getfield 132, 3) := by decide +kernel
theorem dX3_undo_31 : decode cX3_undo 31 = .ok (.ireturn, 1) := by decide +kernel
theorem dX3_tear_0 : decode cX3_tear 0 = .ok (.aload_n 0, 1) := by decide +kernel
theorem dX3_tear_1 : decode cX3_tear 1 = .ok (.getfield 22, 3) := by decide +kernel
theorem dX3_tear_4 : decode cX3_tear 4 = .ok (.ifCond .eq 7, 3) := by decide +kernel
theorem dX3_tear_7 : decode cX3_tear 7 = .ok (.iconst 1, 1) := by decide +kernel
theorem dX3_tear_8 : decode cX3_tear 8 = .ok (.goto 4, 3) := by decide +kernel
theorem dX3_tear_11 : decode cX3_tear 11 = .ok (.iconst 0, 1) := by decide +kernel
theorem dX3_tear_12 : decode cX3_tear 12 = .ok (.istore_n 1, 1) := by decide +kernel
theorem dX3_tear_13 : decode cX3_tear 13 = .ok (.aload_n 0, 1) := by decide +kernel
theorem dX3_tear_14 : decode cX3_tear 14 = .ok (.iconst 0, 1) := by decide +kernel
theorem dX3_tear_15 : decode cX3_tear 15 = .ok (.putfield 22, 3) := by decide +kernel
theorem dX3_tear_18 : decode cX3_tear 18 = .ok (.iload_n 1, 1) := by decide +kernel
theorem dX3_tear_19 : decode cX3_tear 19 = .ok (.ireturn, 1) := by decide +kernel
set_option maxRecDepth 20000 in
theorem ggX3_count_X0_unnerved : GoodIn wsX3_count wsX0_unnerved := goodIn_r _ [11, 12, 13, 51, 52, 53, 54, 55, 56, 57, 58, 59, 60, 61, 62, 63] (by decide +kernel) (by decide +kernel)
set_option maxRecDepth 20000 in
theorem gX3_count_X0_unnerved : GoodIn wsX3_count (wsV RX3 144 RX0 yX0_unnerved wsX0_unnerved) := goodIn_app (goodIn_of _ (by decide +kernel)) ggX3_count_X0_unnerved
set_option maxRecDepth 20000 in
theorem ggX3_count_J6_bitCount_0f7a4 : GoodIn wsX3_count wsJ6_bitCount_0f7a4 := goodIn_r _ [17, 18, 19, 20] (by decide +kernel) (by decide +kernel)
set_option maxRecDepth 20000 in
theorem gX3_count_J6_bitCount_0f7a4 : GoodIn wsX3_count (va_wsS RX3 170 yJ6_bitCount_0f7a4 wsJ6_bitCount_0f7a4) := goodIn_app (goodIn_of _ (by decide +kernel)) ggX3_count_J6_bitCount_0f7a4
set_option maxRecDepth 20000 in
theorem ggX3_count_X0_allLoud : GoodIn wsX3_count wsX0_allLoud := goodIn_r _ [24, 12, 25, 51, 52, 53, 54, 55, 56, 57, 58, 59, 60, 61, 62, 63] (by decide +kernel) (by decide +kernel)
set_option maxRecDepth 20000 in
theorem gX3_count_X0_allLoud : GoodIn wsX3_count (wsV RX3 147 RX0 yX0_allLoud wsX0_allLoud) := goodIn_app (goodIn_of _ (by decide +kernel)) ggX3_count_X0_allLoud
set_option maxRecDepth 20000 in
theorem ggX3_count_X0_allNerve : GoodIn wsX3_count wsX0_allNerve := goodIn_r _ [29, 12, 13, 51, 52, 53, 54, 55, 56, 57, 58, 59, 60, 61, 62, 63] (by decide +kernel) (by decide +kernel)
set_option maxRecDepth 20000 in
theorem gX3_count_X0_allNerve : GoodIn wsX3_count (wsV RX3 140 RX0 yX0_allNerve wsX0_allNerve) := goodIn_app (goodIn_of _ (by decide +kernel)) ggX3_count_X0_allNerve
set_option maxRecDepth 20000 in
theorem ggX3_count_X0_spotsTaken : GoodIn wsX3_count wsX0_spotsTaken := goodIn_r _ [33, 34, 51, 52, 53, 54, 55, 56, 57, 58, 59, 60, 61, 62, 63] (by decide +kernel) (by decide +kernel)
set_option maxRecDepth 20000 in
theorem gX3_count_X0_spotsTaken : GoodIn wsX3_count (wsV RX3 246 RX0 yX0_spotsTaken wsX0_spotsTaken) := goodIn_app (goodIn_of _ (by decide +kernel)) ggX3_count_X0_spotsTaken
set_option maxRecDepth 20000 in
theorem ggX3_count_X3_finding : GoodIn wsX3_count wsX3_finding := goodIn_r _ [39, 40, 41, 42, 43, 44, 45, 46, 47, 48, 49, 50] (by decide +kernel) (by decide +kernel)
set_option maxRecDepth 20000 in
theorem gX3_count_X3_finding : GoodIn wsX3_count (wsV RX3 54 RX3 yX3_finding wsX3_finding) := goodIn_app (goodIn_of _ (by decide +kernel)) ggX3_count_X3_finding
theorem dX3_count_0 : decode cX3_count 0 = .ok (.iload_n 1, 1) := by decide +kernel
theorem dX3_count_1 : decode cX3_count 1 = .ok (.tableswitch 114 0 7 #[47, 55, 63, 74, 82, 90, 98, 106], 47) := by decide +kernel
theorem dX3_count_48 : decode cX3_count 48 = .ok (.aload_n 0, 1) := by decide +kernel
theorem dX3_count_49 : decode cX3_count 49 = .ok (.getfield 10, 3) := by decide +kernel
theorem dX3_count_52 : decode cX3_count 52 = .ok (.getfield 132, 3) := by decide +kernel
theorem dX3_count_55 : decode cX3_count 55 = .ok (.ireturn, 1) := by decide +kernel
theorem dX3_count_56 : decode cX3_count 56 = .ok (.aload_n 0, 1) := by decide +kernel
theorem dX3_count_57 : decode cX3_count 57 = .ok (.getfield 10, 3) := by decide +kernel
theorem dX3_count_60 : decode cX3_count 60 = .ok (.getfield 73, 3) := by decide +kernel
theorem dX3_count_63 : decode cX3_count 63 = .ok (.ireturn, 1) := by decide +kernel
theorem dX3_count_64 : decode cX3_count 64 = .ok (.aload_n 0, 1) := by decide +kernel
theorem dX3_count_65 : decode cX3_count 65 = .ok (.getfield 10, 3) := by decide +kernel
theorem dX3_count_68 : decode cX3_count 68 = .ok (.invokevirtual 144, 3) := by decide +kernel
theorem dX3_count_71 : decode cX3_count 71 = .ok (.invokestatic 170, 3) := by decide +kernel
theorem dX3_count_74 : decode cX3_count 74 = .ok (.ireturn, 1) := by decide +kernel
theorem dX3_count_75 : decode cX3_count 75 = .ok (.aload_n 0, 1) := by decide +kernel
theorem dX3_count_76 : decode cX3_count 76 = .ok (.getfield 10, 3) := by decide +kernel
theorem dX3_count_79 : decode cX3_count 79 = .ok (.invokevirtual 147, 3) := by decide +kernel
theorem dX3_count_82 : decode cX3_count 82 = .ok (.ireturn, 1) := by decide +kernel
theorem dX3_count_83 : decode cX3_count 83 = .ok (.aload_n 0, 1) := by decide +kernel
theorem dX3_count_84 : decode cX3_count 84 = .ok (.getfield 10, 3) := by decide +kernel
theorem dX3_count_87 : decode cX3_count 87 = .ok (.invokevirtual 140, 3) := by decide +kernel
theorem dX3_count_90 : decode cX3_count 90 = .ok (.ireturn, 1) := by decide +kernel
theorem dX3_count_91 : decode cX3_count 91 = .ok (.aload_n 0, 1) := by decide +kernel
theorem dX3_count_92 : decode cX3_count 92 = .ok (.getfield 29, 3) := by decide +kernel
theorem dX3_count_95 : decode cX3_count 95 = .ok (.getfield 196, 3) := by decide +kernel
theorem dX3_count_98 : decode cX3_count 98 = .ok (.ireturn, 1) := by decide +kernel
theorem dX3_count_99 : decode cX3_count 99 = .ok (.aload_n 0, 1) := by decide +kernel
theorem dX3_count_100 : decode cX3_count 100 = .ok (.getfield 10, 3) := by decide +kernel
theorem dX3_count_103 : decode cX3_count 103 = .ok (.getfield 193, 3) := by decide +kernel
theorem dX3_count_106 : decode cX3_count 106 = .ok (.ireturn, 1) := by decide +kernel
theorem dX3_count_107 : decode cX3_count 107 = .ok (.aload_n 0, 1) := by decide +kernel
theorem dX3_count_108 : decode cX3_count 108 = .ok (.getfield 10, 3) := by decide +kernel
theorem dX3_count_111 : decode cX3_count 111 = .ok (.invokevirtual 246, 3) := by decide +kernel
theorem dX3_count_114 : decode cX3_count 114 = .ok (.ireturn, 1) := by decide +kernel
theorem dX3_count_115 : decode cX3_count 115 = .ok (.aload_n 0, 1) := by decide +kernel
theorem dX3_count_116 : decode cX3_count 116 = .ok (.iconst 0, 1) := by decide +kernel
theorem dX3_count_117 : decode cX3_count 117 = .ok (.invokevirtual 54, 3) := by decide +kernel
theorem dX3_count_120 : decode cX3_count 120 = .ok (.ireturn, 1) := by decide +kernel
set_option maxRecDepth 20000 in
theorem ggX3_status_X3_finding : GoodIn wsX3_status wsX3_finding := goodIn_r _ [6, 1, 7, 8, 9, 10, 11, 12, 13, 14, 15, 16] (by decide +kernel) (by decide +kernel)
set_option maxRecDepth 20000 in
theorem gX3_status_X3_finding : GoodIn wsX3_status (wsV RX3 54 RX3 yX3_finding wsX3_finding) := goodIn_app (goodIn_of _ (by decide +kernel)) ggX3_status_X3_finding
theorem dX3_status_0 : decode cX3_status 0 = .ok (.iload_n 1, 1) := by decide +kernel
theorem dX3_status_1 : decode cX3_status 1 = .ok (.iconst (-1), 1) := by decide +kernel
theorem dX3_status_2 : decode cX3_status 2 = .ok (.if_icmp .lt 9, 3) := by decide +kernel
theorem dX3_status_5 : decode cX3_status 5 = .ok (.iload_n 1, 1) := by decide +kernel
theorem dX3_status_6 : decode cX3_status 6 = .ok (.bipush 7, 2) := by decide +kernel
theorem dX3_status_8 : decode cX3_status 8 = .ok (.if_icmp .lt 9, 3) := by decide +kernel
theorem dX3_status_11 : decode cX3_status 11 = .ok (.aload_n 0, 1) := by decide +kernel
theorem dX3_status_12 : decode cX3_status 12 = .ok (.iconst 0, 1) := by decide +kernel
theorem dX3_status_13 : decode cX3_status 13 = .ok (.invokevirtual 54, 3) := by decide +kernel
theorem dX3_status_16 : decode cX3_status 16 = .ok (.ireturn, 1) := by decide +kernel
theorem dX3_status_17 : decode cX3_status 17 = .ok (.iload_n 1, 1) := by decide +kernel
theorem dX3_status_18 : decode cX3_status 18 = .ok (.ifCond .lt 10, 3) := by decide +kernel
theorem dX3_status_21 : decode cX3_status 21 = .ok (.aload_n 0, 1) := by decide +kernel
theorem dX3_status_22 : decode cX3_status 22 = .ok (.getfield 39, 3) := by decide +kernel
theorem dX3_status_25 : decode cX3_status 25 = .ok (.iload_n 1, 1) := by decide +kernel
theorem dX3_status_26 : decode cX3_status 26 = .ok (.iaload, 1) := by decide +kernel
theorem dX3_status_27 : decode cX3_status 27 = .ok (.ireturn, 1) := by decide +kernel
theorem dX3_status_28 : decode cX3_status 28 = .ok (.iconst 0, 1) := by decide +kernel
theorem dX3_status_29 : decode cX3_status 29 = .ok (.istore_n 2, 1) := by decide +kernel
theorem dX3_status_30 : decode cX3_status 30 = .ok (.iconst 0, 1) := by decide +kernel
theorem dX3_status_31 : decode cX3_status 31 = .ok (.istore_n 3, 1) := by decide +kernel
theorem dX3_status_32 : decode cX3_status 32 = .ok (.iload_n 3, 1) := by decide +kernel
theorem dX3_status_33 : decode cX3_status 33 = .ok (.bipush 7, 2) := by decide +kernel
theorem dX3_status_35 : decode cX3_status 35 = .ok (.if_icmp .ge 18, 3) := by decide +kernel
theorem dX3_status_38 : decode cX3_status 38 = .ok (.iload_n 2, 1) := by decide +kernel
theorem dX3_status_39 : decode cX3_status 39 = .ok (.aload_n 0, 1) := by decide +kernel
theorem dX3_status_40 : decode cX3_status 40 = .ok (.getfield 39, 3) := by decide +kernel
theorem dX3_status_43 : decode cX3_status 43 = .ok (.iload_n 3, 1) := by decide +kernel
theorem dX3_status_44 : decode cX3_status 44 = .ok (.iaload, 1) := by decide +kernel
theorem dX3_status_45 : decode cX3_status 45 = .ok (.iadd, 1) := by decide +kernel
theorem dX3_status_46 : decode cX3_status 46 = .ok (.istore_n 2, 1) := by decide +kernel
theorem dX3_status_47 : decode cX3_status 47 = .ok (.iinc 3 1, 3) := by decide +kernel
theorem dX3_status_50 : decode cX3_status 50 = .ok (.goto (-18), 3) := by decide +kernel
theorem dX3_status_53 : decode cX3_status 53 = .ok (.iload_n 2, 1) := by decide +kernel
theorem dX3_status_54 : decode cX3_status 54 = .ok (.ireturn, 1) := by decide +kernel
theorem dX3_finding_0 : decode cX3_finding 0 = .ok (.aload_n 0, 1) := by decide +kernel
theorem dX3_finding_1 : decode cX3_finding 1 = .ok (.getfield 39, 3) := by decide +kernel
theorem dX3_finding_4 : decode cX3_finding 4 = .ok (.iload_n 1, 1) := by decide +kernel
theorem dX3_finding_5 : decode cX3_finding 5 = .ok (.dup2, 1) := by decide +kernel
theorem dX3_finding_6 : decode cX3_finding 6 = .ok (.iaload, 1) := by decide +kernel
theorem dX3_finding_7 : decode cX3_finding 7 = .ok (.iconst 1, 1) := by decide +kernel
theorem dX3_finding_8 : decode cX3_finding 8 = .ok (.iadd, 1) := by decide +kernel
theorem dX3_finding_9 : decode cX3_finding 9 = .ok (.iastore, 1) := by decide +kernel
theorem dX3_finding_10 : decode cX3_finding 10 = .ok (.ldc 249, 2) := by decide +kernel
theorem dX3_finding_12 : decode cX3_finding 12 = .ok (.iload_n 1, 1) := by decide +kernel
theorem dX3_finding_13 : decode cX3_finding 13 = .ok (.isub, 1) := by decide +kernel
theorem dX3_finding_14 : decode cX3_finding 14 = .ok (.ireturn, 1) := by decide +kernel
theorem dX3_isBar_0 : decode cX3_isBar 0 = .ok (.iload_n 1, 1) := by decide +kernel
theorem dX3_isBar_1 : decode cX3_isBar 1 = .ok (.ifCond .lt 13, 3) := by decide +kernel
theorem dX3_isBar_4 : decode cX3_isBar 4 = .ok (.iload_n 1, 1) := by decide +kernel
theorem dX3_isBar_5 : decode cX3_isBar 5 = .ok (.bipush 12, 2) := by decide +kernel
theorem dX3_isBar_7 : decode cX3_isBar 7 = .ok (.if_icmp .ge 7, 3) := by decide +kernel
theorem dX3_isBar_10 : decode cX3_isBar 10 = .ok (.iconst 1, 1) := by decide +kernel
theorem dX3_isBar_11 : decode cX3_isBar 11 = .ok (.goto 4, 3) := by decide +kernel
theorem dX3_isBar_14 : decode cX3_isBar 14 = .ok (.iconst 0, 1) := by decide +kernel
theorem dX3_isBar_15 : decode cX3_isBar 15 = .ok (.ireturn, 1) := by decide +kernel
theorem dX3_isSeat_0 : decode cX3_isSeat 0 = .ok (.iload_n 1, 1) := by decide +kernel
theorem dX3_isSeat_1 : decode cX3_isSeat 1 = .ok (.ifCond .lt 13, 3) := by decide +kernel
theorem dX3_isSeat_4 : decode cX3_isSeat 4 = .ok (.iload_n 1, 1) := by decide +kernel
theorem dX3_isSeat_5 : decode cX3_isSeat 5 = .ok (.bipush 16, 2) := by decide +kernel
theorem dX3_isSeat_7 : decode cX3_isSeat 7 = .ok (.if_icmp .ge 7, 3) := by decide +kernel
theorem dX3_isSeat_10 : decode cX3_isSeat 10 = .ok (.iconst 1, 1) := by decide +kernel
theorem dX3_isSeat_11 : decode cX3_isSeat 11 = .ok (.goto 4, 3) := by decide +kernel
theorem dX3_isSeat_14 : decode cX3_isSeat 14 = .ok (.iconst 0, 1) := by decide +kernel
theorem dX3_isSeat_15 : decode cX3_isSeat 15 = .ok (.ireturn, 1) := by decide +kernel
theorem dX3_isKind_0 : decode cX3_isKind 0 = .ok (.iload_n 1, 1) := by decide +kernel
theorem dX3_isKind_1 : decode cX3_isKind 1 = .ok (.ifCond .lt 13, 3) := by decide +kernel
theorem dX3_isKind_4 : decode cX3_isKind 4 = .ok (.iload_n 1, 1) := by decide +kernel
theorem dX3_isKind_5 : decode cX3_isKind 5 = .ok (.bipush 7, 2) := by decide +kernel
theorem dX3_isKind_7 : decode cX3_isKind 7 = .ok (.if_icmp .ge 7, 3) := by decide +kernel
theorem dX3_isKind_10 : decode cX3_isKind 10 = .ok (.iconst 1, 1) := by decide +kernel
theorem dX3_isKind_11 : decode cX3_isKind 11 = .ok (.goto 4, 3) := by decide +kernel
theorem dX3_isKind_14 : decode cX3_isKind 14 = .ok (.iconst 0, 1) := by decide +kernel
theorem dX3_isKind_15 : decode cX3_isKind 15 = .ok (.ireturn, 1) := by decide +kernel
theorem dX3_isPlayer_0 : decode cX3_isPlayer 0 = .ok (.iload_n 1, 1) := by decide +kernel
theorem dX3_isPlayer_1 : decode cX3_isPlayer 1 = .ok (.ifCond .lt 18, 3) := by decide +kernel
theorem dX3_isPlayer_4 : decode cX3_isPlayer 4 = .ok (.iload_n 1, 1) := by decide +kernel
theorem dX3_isPlayer_5 : decode cX3_isPlayer 5 = .ok (.aload_n 0, 1) := by decide +kernel
theorem dX3_isPlayer_6 : decode cX3_isPlayer 6 = .ok (.getfield 10, 3) := by decide +kernel
theorem dX3_isPlayer_9 : decode cX3_isPlayer 9 = .ok (.getfield 73, 3) := by decide +kernel
theorem dX3_isPlayer_12 : decode cX3_isPlayer 12 = .ok (.if_icmp .ge 7, 3) := by decide +kernel
theorem dX3_isPlayer_15 : decode cX3_isPlayer 15 = .ok (.iconst 1, 1) := by decide +kernel
theorem dX3_isPlayer_16 : decode cX3_isPlayer 16 = .ok (.goto 4, 3) := by decide +kernel
theorem dX3_isPlayer_19 : decode cX3_isPlayer 19 = .ok (.iconst 0, 1) := by decide +kernel
theorem dX3_isPlayer_20 : decode cX3_isPlayer 20 = .ok (.ireturn, 1) := by decide +kernel
set_option maxRecDepth 20000 in
theorem ggX3_isPair_X3_isPlayer : GoodIn wsX3_isPair wsX3_isPlayer := goodIn_r _ [5, 6, 7, 8, 9, 10, 11, 12, 13, 14, 15, 16, 17, 18, 19, 20, 21, 22, 23, 24, 25, 26, 27, 28, 29] (by decide +kernel) (by decide +kernel)
set_option maxRecDepth 20000 in
theorem gX3_isPair_X3_isPlayer : GoodIn wsX3_isPair (wsV RX3 81 RX3 yX3_isPlayer wsX3_isPlayer) := goodIn_app (goodIn_of _ (by decide +kernel)) ggX3_isPair_X3_isPlayer
theorem dX3_isPair_0 : decode cX3_isPair 0 = .ok (.aload_n 0, 1) := by decide +kernel
theorem dX3_isPair_1 : decode cX3_isPair 1 = .ok (.iload_n 1, 1) := by decide +kernel
theorem dX3_isPair_2 : decode cX3_isPair 2 = .ok (.invokevirtual 81, 3) := by decide +kernel
theorem dX3_isPair_5 : decode cX3_isPair 5 = .ok (.ifCond .eq 20, 3) := by decide +kernel
theorem dX3_isPair_8 : decode cX3_isPair 8 = .ok (.aload_n 0, 1) := by decide +kernel
theorem dX3_isPair_9 : decode cX3_isPair 9 = .ok (.iload_n 2, 1) := by decide +kernel
theorem dX3_isPair_10 : decode cX3_isPair 10 = .ok (.invokevirtual 81, 3) := by decide +kernel
theorem dX3_isPair_13 : decode cX3_isPair 13 = .ok (.ifCond .eq 12, 3) := by decide +kernel
theorem dX3_isPair_16 : decode cX3_isPair 16 = .ok (.iload_n 1, 1) := by decide +kernel
theorem dX3_isPair_17 : decode cX3_isPair 17 = .ok (.iload_n 2, 1) := by decide +kernel
theorem dX3_isPair_18 : decode cX3_isPair 18 = .ok (.if_icmp .eq 7, 3) := by decide +kernel
theorem dX3_isPair_21 : decode cX3_isPair 21 = .ok (.iconst 1, 1) := by decide +kernel
theorem dX3_isPair_22 : decode cX3_isPair 22 = .ok (.goto 4, 3) := by decide +kernel
theorem dX3_isPair_25 : decode cX3_isPair 25 = .ok (.iconst 0, 1) := by decide +kernel
theorem dX3_isPair_26 : decode cX3_isPair 26 = .ok (.ireturn, 1) := by decide +kernel
theorem dX3_isSpot_0 : decode cX3_isSpot 0 = .ok (.iload_n 1, 1) := by decide +kernel
theorem dX3_isSpot_1 : decode cX3_isSpot 1 = .ok (.ifCond .lt 13, 3) := by decide +kernel
theorem dX3_isSpot_4 : decode cX3_isSpot 4 = .ok (.iload_n 1, 1) := by decide +kernel
theorem dX3_isSpot_5 : decode cX3_isSpot 5 = .ok (.bipush 10, 2) := by decide +kernel
theorem dX3_isSpot_7 : decode cX3_isSpot 7 = .ok (.if_icmp .ge 7, 3) := by decide +kernel
theorem dX3_isSpot_10 : decode cX3_isSpot 10 = .ok (.iconst 1, 1) := by decide +kernel
theorem dX3_isSpot_11 : decode cX3_isSpot 11 = .ok (.goto 4, 3) := by decide +kernel
theorem dX3_isSpot_14 : decode cX3_isSpot 14 = .ok (.iconst 0, 1) := by decide +kernel
theorem dX3_isSpot_15 : decode cX3_isSpot 15 = .ok (.ireturn, 1) := by decide +kernel
theorem dX3_isSheet_0 : decode cX3_isSheet 0 = .ok (.iload_n 1, 1) := by decide +kernel
theorem dX3_isSheet_1 : decode cX3_isSheet 1 = .ok (.ifCond .lt 12, 3) := by decide +kernel
theorem dX3_isSheet_4 : decode cX3_isSheet 4 = .ok (.iload_n 1, 1) := by decide +kernel
theorem dX3_isSheet_5 : decode cX3_isSheet 5 = .ok (.iconst 4, 1) := by decide +kernel
theorem dX3_isSheet_6 : decode cX3_isSheet 6 = .ok (.if_icmp .ge 7, 3) := by decide +kernel
theorem dX3_isSheet_9 : decode cX3_isSheet 9 = .ok (.iconst 1, 1) := by decide +kernel
theorem dX3_isSheet_10 : decode cX3_isSheet 10 = .ok (.goto 4, 3) := by decide +kernel
theorem dX3_isSheet_13 : decode cX3_isSheet 13 = .ok (.iconst 0, 1) := by decide +kernel
theorem dX3_isSheet_14 : decode cX3_isSheet 14 = .ok (.ireturn, 1) := by decide +kernel
set_option maxRecDepth 20000 in
theorem ggX3_lackOf_X3_isSheet : GoodIn wsX3_lackOf wsX3_isSheet := goodIn_r _ [6] (by decide +kernel) (by decide +kernel)
set_option maxRecDepth 20000 in
theorem gX3_lackOf_X3_isSheet : GoodIn wsX3_lackOf (wsV RX3 215 RX3 yX3_isSheet wsX3_isSheet) := goodIn_app (goodIn_of _ (by decide +kernel)) ggX3_lackOf_X3_isSheet
set_option maxRecDepth 20000 in
theorem ggX3_lackOf_X1_isMissing : GoodIn wsX3_lackOf wsX1_isMissing := goodIn_r _ [11, 12, 22, 23, 24] (by decide +kernel) (by decide +kernel)
set_option maxRecDepth 20000 in
theorem gX3_lackOf_X1_isMissing : GoodIn wsX3_lackOf (wsV RX3 228 RX1 yX1_isMissing wsX1_isMissing) := goodIn_app (goodIn_of _ (by decide +kernel)) ggX3_lackOf_X1_isMissing
theorem dX3_lackOf_0 : decode cX3_lackOf 0 = .ok (.aload_n 0, 1) := by decide +kernel
theorem dX3_lackOf_1 : decode cX3_lackOf 1 = .ok (.iload_n 1, 1) := by decide +kernel
theorem dX3_lackOf_2 : decode cX3_lackOf 2 = .ok (.invokevirtual 215, 3) := by decide +kernel
theorem dX3_lackOf_5 : decode cX3_lackOf 5 = .ok (.ifCond .ne 5, 3) := by decide +kernel
theorem dX3_lackOf_8 : decode cX3_lackOf 8 = .ok (.iconst 0, 1) := by decide +kernel
theorem dX3_lackOf_9 : decode cX3_lackOf 9 = .ok (.ireturn, 1) := by decide +kernel
theorem dX3_lackOf_10 : decode cX3_lackOf 10 = .ok (.aload_n 0, 1) := by decide +kernel
theorem dX3_lackOf_11 : decode cX3_lackOf 11 = .ok (.getfield 35, 3) := by decide +kernel
theorem dX3_lackOf_14 : decode cX3_lackOf 14 = .ok (.iload_n 1, 1) := by decide +kernel
theorem dX3_lackOf_15 : decode cX3_lackOf 15 = .ok (.aaload, 1) := by decide +kernel
theorem dX3_lackOf_16 : decode cX3_lackOf 16 = .ok (.invokevirtual 228, 3) := by decide +kernel
theorem dX3_lackOf_19 : decode cX3_lackOf 19 = .ok (.ifCond .eq 7, 3) := by decide +kernel
theorem dX3_lackOf_22 : decode cX3_lackOf 22 = .ok (.iconst 5, 1) := by decide +kernel
theorem dX3_lackOf_23 : decode cX3_lackOf 23 = .ok (.goto 4, 3) := by decide +kernel
theorem dX3_lackOf_26 : decode cX3_lackOf 26 = .ok (.iconst (-1), 1) := by decide +kernel
theorem dX3_lackOf_27 : decode cX3_lackOf 27 = .ok (.ireturn, 1) := by decide +kernel
set_option maxRecDepth 20000 in
theorem ggX3_put_X3_finding : GoodIn wsX3_put wsX3_finding := goodIn_r _ [5, 6, 7, 8, 9, 10, 11, 12, 13, 14, 15, 16] (by decide +kernel) (by decide +kernel)
set_option maxRecDepth 20000 in
theorem gX3_put_X3_finding : GoodIn wsX3_put (wsV RX3 54 RX3 yX3_finding wsX3_finding) := goodIn_app (goodIn_of _ (by decide +kernel)) ggX3_put_X3_finding
theorem dX3_put_0 : decode cX3_put 0 = .ok (.iload_n 3, 1) := by decide +kernel
theorem dX3_put_1 : decode cX3_put 1 = .ok (.ifCond .lt 9, 3) := by decide +kernel
theorem dX3_put_4 : decode cX3_put 4 = .ok (.iload_n 3, 1) := by decide +kernel
theorem dX3_put_5 : decode cX3_put 5 = .ok (.iload 4, 2) := by decide +kernel
theorem dX3_put_7 : decode cX3_put 7 = .ok (.if_icmp .le 9, 3) := by decide +kernel
theorem dX3_put_10 : decode cX3_put 10 = .ok (.aload_n 0, 1) := by decide +kernel
theorem dX3_put_11 : decode cX3_put 11 = .ok (.iconst 0, 1) := by decide +kernel
theorem dX3_put_12 : decode cX3_put 12 = .ok (.invokevirtual 54, 3) := by decide +kernel
theorem dX3_put_15 : decode cX3_put 15 = .ok (.ireturn, 1) := by decide +kernel
theorem dX3_put_16 : decode cX3_put 16 = .ok (.aload_n 1, 1) := by decide +kernel
theorem dX3_put_17 : decode cX3_put 17 = .ok (.iload_n 2, 1) := by decide +kernel
theorem dX3_put_18 : decode cX3_put 18 = .ok (.iaload, 1) := by decide +kernel
theorem dX3_put_19 : decode cX3_put 19 = .ok (.istore 5, 2) := by decide +kernel
theorem dX3_put_21 : decode cX3_put 21 = .ok (.aload_n 1, 1) := by decide +kernel
theorem dX3_put_22 : decode cX3_put 22 = .ok (.iload_n 2, 1) := by decide +kernel
theorem dX3_put_23 : decode cX3_put 23 = .ok (.iload_n 3, 1) := by decide +kernel
theorem dX3_put_24 : decode cX3_put 24 = .ok (.iastore, 1) := by decide +kernel
theorem dX3_put_25 : decode cX3_put 25 = .ok (.iload 5, 2) := by decide +kernel
theorem dX3_put_27 : decode cX3_put 27 = .ok (.ireturn, 1) := by decide +kernel
set_option maxRecDepth 20000 in
theorem ggX3_bravestAs_X0_become : GoodIn wsX3_bravestAs wsX0_become := goodIn_r _ [8, 9, 10, 11, 12, 13, 14, 15, 16, 17, 18, 19, 20, 21, 22, 86, 87, 88, 89, 90, 91, 92, 93, 94, 95, 96, 97, 98] (by decide +kernel) (by decide +kernel)
set_option maxRecDepth 20000 in
theorem gX3_bravestAs_X0_become : GoodIn wsX3_bravestAs (wsV RX3 153 RX0 yX0_become wsX0_become) := goodIn_app (goodIn_of _ (by decide +kernel)) ggX3_bravestAs_X0_become
set_option maxRecDepth 20000 in
theorem ggX3_bravestAs_X0_passEvenings : GoodIn wsX3_bravestAs wsX0_passEvenings := goodIn_r _ [26, 27, 28, 29, 7, 30, 18, 31, 10, 11, 12, 13, 20, 32, 33, 17, 34, 21, 35, 36, 37, 38, 39, 40, 41, 42, 16, 43, 44, 45, 46, 14, 47, 48, 49, 50, 51, 52, 53, 54, 9, 55, 56, 57, 58, 59, 60, 61, 62, 15, 63, 64, 65, 66, 67, 68, 69, 70, 71, 72, 73, 74, 75, 76, 86, 87, 88, 89, 90, 91, 92, 93, 94, 95, 96, 97, 98] (by decide +kernel) (by decide +kernel)
set_option maxRecDepth 20000 in
theorem gX3_bravestAs_X0_passEvenings : GoodIn wsX3_bravestAs (wsV RX3 136 RX0 yX0_passEvenings wsX0_passEvenings) := goodIn_app (goodIn_of _ (by decide +kernel)) ggX3_bravestAs_X0_passEvenings
theorem dX3_bravestAs_0 : decode cX3_bravestAs 0 = .ok (.iconst 0, 1) := by decide +kernel
theorem dX3_bravestAs_1 : decode cX3_bravestAs 1 = .ok (.istore 5, 2) := by decide +kernel
theorem dX3_bravestAs_3 : decode cX3_bravestAs 3 = .ok (.iconst (-1), 1) := by decide +kernel
theorem dX3_bravestAs_4 : decode cX3_bravestAs 4 = .ok (.istore 6, 2) := by decide +kernel
theorem dX3_bravestAs_6 : decode cX3_bravestAs 6 = .ok (.iconst 0, 1) := by decide +kernel
theorem dX3_bravestAs_7 : decode cX3_bravestAs 7 = .ok (.istore 7, 2) := by decide +kernel
theorem dX3_bravestAs_9 : decode cX3_bravestAs 9 = .ok (.iload 7, 2) := by decide +kernel
theorem dX3_bravestAs_11 : decode cX3_bravestAs 11 = .ok (.iload_n 3, 1) := by decide +kernel
theorem dX3_bravestAs_12 : decode cX3_bravestAs 12 = .ok (.if_icmp .ge 63, 3) := by decide +kernel
theorem dX3_bravestAs_15 : decode cX3_bravestAs 15 = .ok (.aload_n 0, 1) := by decide +kernel
theorem dX3_bravestAs_16 : decode cX3_bravestAs 16 = .ok (.getfield 16, 3) := by decide +kernel
theorem dX3_bravestAs_19 : decode cX3_bravestAs 19 = .ok (.aload_n 0, 1) := by decide +kernel
theorem dX3_bravestAs_20 : decode cX3_bravestAs 20 = .ok (.getfield 10, 3) := by decide +kernel
theorem dX3_bravestAs_23 : decode cX3_bravestAs 23 = .ok (.invokevirtual 153, 3) := by decide +kernel
theorem dX3_bravestAs_26 : decode cX3_bravestAs 26 = .ok (.aload_n 1, 1) := by decide +kernel
theorem dX3_bravestAs_27 : decode cX3_bravestAs 27 = .ok (.iload_n 2, 1) := by decide +kernel
theorem dX3_bravestAs_28 : decode cX3_bravestAs 28 = .ok (.iload 7, 2) := by decide +kernel
theorem dX3_bravestAs_30 : decode cX3_bravestAs 30 = .ok (.iastore, 1) := by decide +kernel
theorem dX3_bravestAs_31 : decode cX3_bravestAs 31 = .ok (.aload_n 0, 1) := by decide +kernel
theorem dX3_bravestAs_32 : decode cX3_bravestAs 32 = .ok (.getfield 16, 3) := by decide +kernel
theorem dX3_bravestAs_35 : decode cX3_bravestAs 35 = .ok (.iload 4, 2) := by decide +kernel
theorem dX3_bravestAs_37 : decode cX3_bravestAs 37 = .ok (.invokevirtual 136, 3) := by decide +kernel
theorem dX3_bravestAs_40 : decode cX3_bravestAs 40 = .ok (.aload_n 0, 1) := by decide +kernel
theorem dX3_bravestAs_41 : decode cX3_bravestAs 41 = .ok (.getfield 16, 3) := by decide +kernel
theorem dX3_bravestAs_44 : decode cX3_bravestAs 44 = .ok (.getfield 96, 3) := by decide +kernel
theorem dX3_bravestAs_47 : decode cX3_bravestAs 47 = .ok (.iload_n 2, 1) := by decide +kernel
theorem dX3_bravestAs_48 : decode cX3_bravestAs 48 = .ok (.iaload, 1) := by decide +kernel
theorem dX3_bravestAs_49 : decode cX3_bravestAs 49 = .ok (.iload 6, 2) := by decide +kernel
theorem dX3_bravestAs_51 : decode cX3_bravestAs 51 = .ok (.if_icmp .le 18, 3) := by decide +kernel
theorem dX3_bravestAs_54 : decode cX3_bravestAs 54 = .ok (.aload_n 0, 1) := by decide +kernel
theorem dX3_bravestAs_55 : decode cX3_bravestAs 55 = .ok (.getfield 16, 3) := by decide +kernel
theorem dX3_bravestAs_58 : decode cX3_bravestAs 58 = .ok (.getfield 96, 3) := by decide +kernel
theorem dX3_bravestAs_61 : decode cX3_bravestAs 61 = .ok (.iload_n 2, 1) := by decide +kernel
theorem dX3_bravestAs_62 : decode cX3_bravestAs 62 = .ok (.iaload, 1) := by decide +kernel
theorem dX3_bravestAs_63 : decode cX3_bravestAs 63 = .ok (.istore 6, 2) := by decide +kernel
theorem dX3_bravestAs_65 : decode cX3_bravestAs 65 = .ok (.iload 7, 2) := by decide +kernel
theorem dX3_bravestAs_67 : decode cX3_bravestAs 67 = .ok (.istore 5, 2) := by decide +kernel
theorem dX3_bravestAs_69 : decode cX3_bravestAs 69 = .ok (.iinc 7 1, 3) := by decide +kernel
theorem dX3_bravestAs_72 : decode cX3_bravestAs 72 = .ok (.goto (-63), 3) := by decide +kernel
theorem dX3_bravestAs_75 : decode cX3_bravestAs 75 = .ok (.iload 5, 2) := by decide +kernel
theorem dX3_bravestAs_77 : decode cX3_bravestAs 77 = .ok (.ireturn, 1) := by decide +kernel
set_option maxRecDepth 20000 in
theorem ggX3_fitting_X3_lackOf : GoodIn wsX3_fitting wsX3_lackOf := goodIn_r _ [8, 3, 9, 10, 11, 7, 12, 13, 14, 15, 16, 17, 18, 106, 107, 108, 109, 110, 111, 112, 113, 114, 115, 116, 117] (by decide +kernel) (by decide +kernel)
set_option maxRecDepth 20000 in
theorem gX3_fitting_X3_lackOf : GoodIn wsX3_fitting (wsV RX3 222 RX3 yX3_lackOf wsX3_lackOf) := goodIn_app (goodIn_of _ (by decide +kernel)) ggX3_fitting_X3_lackOf
set_option maxRecDepth 20000 in
theorem ggX3_fitting_X3_isPlayer : GoodIn wsX3_fitting wsX3_isPlayer := goodIn_r _ [22, 2, 23, 106, 107, 108, 109, 110, 111, 112, 113, 114, 118, 119, 120, 121, 122, 123, 124, 125, 126, 127, 128, 129, 130] (by decide +kernel) (by decide +kernel)
set_option maxRecDepth 20000 in
theorem gX3_fitting_X3_isPlayer : GoodIn wsX3_fitting (wsV RX3 81 RX3 yX3_isPlayer wsX3_isPlayer) := goodIn_app (goodIn_of _ (by decide +kernel)) ggX3_fitting_X3_isPlayer
set_option maxRecDepth 20000 in
theorem ggX3_fitting_X3_finding : GoodIn wsX3_fitting wsX3_finding := goodIn_r _ [27, 28, 29, 106, 107, 108, 109, 110, 111, 112, 113, 114] (by decide +kernel) (by decide +kernel)
set_option maxRecDepth 20000 in
theorem gX3_fitting_X3_finding : GoodIn wsX3_fitting (wsV RX3 54 RX3 yX3_finding wsX3_finding) := goodIn_app (goodIn_of _ (by decide +kernel)) ggX3_fitting_X3_finding
set_option maxRecDepth 20000 in
theorem ggX3_fitting_X0_become : GoodIn wsX3_fitting wsX0_become := goodIn_r _ [34, 35, 36, 37, 38, 39, 40, 41, 42, 43, 44, 45, 46, 47, 48, 118, 119, 120, 121, 122, 123, 124, 125, 126, 127, 128, 129, 130] (by decide +kernel) (by decide +kernel)
set_option maxRecDepth 20000 in
theorem gX3_fitting_X0_become : GoodIn wsX3_fitting (wsV RX3 153 RX0 yX0_become wsX0_become) := goodIn_app (goodIn_of _ (by decide +kernel)) ggX3_fitting_X0_become
set_option maxRecDepth 20000 in
theorem ggX3_fitting_X3_trialGoesAs : GoodIn wsX3_fitting wsX3_trialGoesAs := goodIn_r _ [52, 53, 1, 54, 55, 56, 57, 58, 33, 59, 44, 60, 36, 37, 38, 39, 46, 61, 62, 43, 63, 47, 64, 65, 66, 67, 68, 69, 70, 71, 42, 72, 73, 74, 75, 40, 76, 77, 78, 79, 80, 81, 82, 83, 35, 84, 85, 86, 87, 88, 89, 90, 91, 41, 92, 93, 94, 95, 96, 97, 98, 99, 100, 101, 102, 103, 104, 105, 115, 116, 117, 106, 107, 108, 109, 110, 111, 112, 113, 114, 118, 119, 120, 121, 122, 123, 124, 125, 126, 127, 128, 129, 130] (by decide +kernel) (by decide +kernel)
set_option maxRecDepth 20000 in
theorem gX3_fitting_X3_trialGoesAs : GoodIn wsX3_fitting (wsV RX3 250 RX3 yX3_trialGoesAs wsX3_trialGoesAs) := goodIn_app (goodIn_of _ (by decide +kernel)) ggX3_fitting_X3_trialGoesAs
theorem dX3_fitting_0 : decode cX3_fitting 0 = .ok (.aload_n 0, 1) := by decide +kernel
theorem dX3_fitting_1 : decode cX3_fitting 1 = .ok (.iload_n 1, 1) := by decide +kernel
theorem dX3_fitting_2 : decode cX3_fitting 2 = .ok (.invokevirtual 222, 3) := by decide +kernel
theorem dX3_fitting_5 : decode cX3_fitting 5 = .ok (.istore 5, 2) := by decide +kernel
theorem dX3_fitting_7 : decode cX3_fitting 7 = .ok (.iload 5, 2) := by decide +kernel
theorem dX3_fitting_9 : decode cX3_fitting 9 = .ok (.iconst (-1), 1) := by decide +kernel
theorem dX3_fitting_10 : decode cX3_fitting 10 = .ok (.if_icmp .ne 11, 3) := by decide +kernel
theorem dX3_fitting_13 : decode cX3_fitting 13 = .ok (.aload_n 0, 1) := by decide +kernel
theorem dX3_fitting_14 : decode cX3_fitting 14 = .ok (.iload_n 2, 1) := by decide +kernel
theorem dX3_fitting_15 : decode cX3_fitting 15 = .ok (.invokevirtual 81, 3) := by decide +kernel
theorem dX3_fitting_18 : decode cX3_fitting 18 = .ok (.ifCond .ne 20, 3) := by decide +kernel
theorem dX3_fitting_21 : decode cX3_fitting 21 = .ok (.aload_n 0, 1) := by decide +kernel
theorem dX3_fitting_22 : decode cX3_fitting 22 = .ok (.iload 5, 2) := by decide +kernel
theorem dX3_fitting_24 : decode cX3_fitting 24 = .ok (.iconst (-1), 1) := by decide +kernel
theorem dX3_fitting_25 : decode cX3_fitting 25 = .ok (.if_icmp .eq 8, 3) := by decide +kernel
theorem dX3_fitting_28 : decode cX3_fitting 28 = .ok (.iload 5, 2) := by decide +kernel
theorem dX3_fitting_30 : decode cX3_fitting 30 = .ok (.goto 4, 3) := by decide +kernel
theorem dX3_fitting_33 : decode cX3_fitting 33 = .ok (.iconst 0, 1) := by decide +kernel
theorem dX3_fitting_34 : decode cX3_fitting 34 = .ok (.invokevirtual 54, 3) := by decide +kernel
theorem dX3_fitting_37 : decode cX3_fitting 37 = .ok (.ireturn, 1) := by decide +kernel
theorem dX3_fitting_38 : decode cX3_fitting 38 = .ok (.iconst 0, 1) := by decide +kernel
theorem dX3_fitting_39 : decode cX3_fitting 39 = .ok (.istore 6, 2) := by decide +kernel
theorem dX3_fitting_41 : decode cX3_fitting 41 = .ok (.iconst 0, 1) := by decide +kernel
theorem dX3_fitting_42 : decode cX3_fitting 42 = .ok (.istore 7, 2) := by decide +kernel
theorem dX3_fitting_44 : decode cX3_fitting 44 = .ok (.iload 7, 2) := by decide +kernel
theorem dX3_fitting_46 : decode cX3_fitting 46 = .ok (.iload 4, 2) := by decide +kernel
theorem dX3_fitting_48 : decode cX3_fitting 48 = .ok (.if_icmp .ge 48, 3) := by decide +kernel
theorem dX3_fitting_51 : decode cX3_fitting 51 = .ok (.aload_n 0, 1) := by decide +kernel
theorem dX3_fitting_52 : decode cX3_fitting 52 = .ok (.getfield 16, 3) := by decide +kernel
theorem dX3_fitting_55 : decode cX3_fitting 55 = .ok (.aload_n 0, 1) := by decide +kernel
theorem dX3_fitting_56 : decode cX3_fitting 56 = .ok (.getfield 10, 3) := by decide +kernel
theorem dX3_fitting_59 : decode cX3_fitting 59 = .ok (.invokevirtual 153, 3) := by decide +kernel
theorem dX3_fitting_62 : decode cX3_fitting 62 = .ok (.aload_n 3, 1) := by decide +kernel
theorem dX3_fitting_63 : decode cX3_fitting 63 = .ok (.iload_n 2, 1) := by decide +kernel
theorem dX3_fitting_64 : decode cX3_fitting 64 = .ok (.iload 7, 2) := by decide +kernel
theorem dX3_fitting_66 : decode cX3_fitting 66 = .ok (.iastore, 1) := by decide +kernel
theorem dX3_fitting_67 : decode cX3_fitting 67 = .ok (.aload_n 0, 1) := by decide +kernel
theorem dX3_fitting_68 : decode cX3_fitting 68 = .ok (.aload_n 0, 1) := by decide +kernel
theorem dX3_fitting_69 : decode cX3_fitting 69 = .ok (.getfield 35, 3) := by decide +kernel
theorem dX3_fitting_72 : decode cX3_fitting 72 = .ok (.iload_n 1, 1) := by decide +kernel
theorem dX3_fitting_73 : decode cX3_fitting 73 = .ok (.aaload, 1) := by decide +kernel
theorem dX3_fitting_74 : decode cX3_fitting 74 = .ok (.iload_n 2, 1) := by decide +kernel
theorem dX3_fitting_75 : decode cX3_fitting 75 = .ok (.invokevirtual 250, 3) := by decide +kernel
theorem dX3_fitting_78 : decode cX3_fitting 78 = .ok (.ifCond .eq 12, 3) := by decide +kernel
theorem dX3_fitting_81 : decode cX3_fitting 81 = .ok (.iload 6, 2) := by decide +kernel
theorem dX3_fitting_83 : decode cX3_fitting 83 = .ok (.iconst 1, 1) := by decide +kernel
theorem dX3_fitting_84 : decode cX3_fitting 84 = .ok (.iload 7, 2) := by decide +kernel
theorem dX3_fitting_86 : decode cX3_fitting 86 = .ok (.ishl, 1) := by decide +kernel
theorem dX3_fitting_87 : decode cX3_fitting 87 = .ok (.ior, 1) := by decide +kernel
theorem dX3_fitting_88 : decode cX3_fitting 88 = .ok (.istore 6, 2) := by decide +kernel
theorem dX3_fitting_90 : decode cX3_fitting 90 = .ok (.iinc 7 1, 3) := by decide +kernel
theorem dX3_fitting_93 : decode cX3_fitting 93 = .ok (.goto (-49), 3) := by decide +kernel
theorem dX3_fitting_96 : decode cX3_fitting 96 = .ok (.iload 6, 2) := by decide +kernel
theorem dX3_fitting_98 : decode cX3_fitting 98 = .ok (.ireturn, 1) := by decide +kernel
set_option maxRecDepth 20000 in
theorem ggX3_trialGoesAs_X0_passEvening : GoodIn wsX3_trialGoesAs wsX0_passEvening := goodIn_r _ [9, 10, 11, 12, 13, 14, 15, 16, 17, 18, 19, 20, 21, 22, 23, 24, 25, 26, 27, 28, 8, 29, 30, 31, 32, 33, 34, 35, 36, 37, 38, 39, 40, 41, 42, 43, 44, 45, 46, 47, 48, 49, 50, 51, 52, 53, 54, 55, 56, 57, 58, 59, 60, 61, 62, 63, 64, 65, 66, 67, 80, 81, 82, 83, 84, 85, 86, 87, 88, 89, 90, 91, 92] (by decide +kernel) (by decide +kernel)
set_option maxRecDepth 20000 in
theorem gX3_trialGoesAs_X0_passEvening : GoodIn wsX3_trialGoesAs (wsV RX3 157 RX0 yX0_passEvening wsX0_passEvening) := goodIn_app (goodIn_of _ (by decide +kernel)) ggX3_trialGoesAs_X0_passEvening
theorem dX3_trialGoesAs_0 : decode cX3_trialGoesAs 0 = .ok (.iconst 0, 1) := by decide +kernel
theorem dX3_trialGoesAs_1 : decode cX3_trialGoesAs 1 = .ok (.istore_n 3, 1) := by decide +kernel
theorem dX3_trialGoesAs_2 : decode cX3_trialGoesAs 2 = .ok (.iload_n 3, 1) := by decide +kernel
theorem dX3_trialGoesAs_3 : decode cX3_trialGoesAs 3 = .ok (.aload_n 1, 1) := by decide +kernel
theorem dX3_trialGoesAs_4 : decode cX3_trialGoesAs 4 = .ok (.getfield 221, 3) := by decide +kernel
theorem dX3_trialGoesAs_7 : decode cX3_trialGoesAs 7 = .ok (.if_icmp .ge 51, 3) := by decide +kernel
theorem dX3_trialGoesAs_10 : decode cX3_trialGoesAs 10 = .ok (.iload_n 3, 1) := by decide +kernel
theorem dX3_trialGoesAs_11 : decode cX3_trialGoesAs 11 = .ok (.ifCond .le 11, 3) := by decide +kernel
theorem dX3_trialGoesAs_14 : decode cX3_trialGoesAs 14 = .ok (.aload_n 0, 1) := by decide +kernel
theorem dX3_trialGoesAs_15 : decode cX3_trialGoesAs 15 = .ok (.getfield 16, 3) := by decide +kernel
theorem dX3_trialGoesAs_18 : decode cX3_trialGoesAs 18 = .ok (.invokevirtual 157, 3) := by decide +kernel
theorem dX3_trialGoesAs_21 : decode cX3_trialGoesAs 21 = .ok (.pop, 1) := by decide +kernel
theorem dX3_trialGoesAs_22 : decode cX3_trialGoesAs 22 = .ok (.aload_n 1, 1) := by decide +kernel
theorem dX3_trialGoesAs_23 : decode cX3_trialGoesAs 23 = .ok (.getfield 237, 3) := by decide +kernel
theorem dX3_trialGoesAs_26 : decode cX3_trialGoesAs 26 = .ok (.iload_n 3, 1) := by decide +kernel
theorem dX3_trialGoesAs_27 : decode cX3_trialGoesAs 27 = .ok (.iaload, 1) := by decide +kernel
theorem dX3_trialGoesAs_28 : decode cX3_trialGoesAs 28 = .ok (.istore 4, 2) := by decide +kernel
theorem dX3_trialGoesAs_30 : decode cX3_trialGoesAs 30 = .ok (.iload 4, 2) := by decide +kernel
theorem dX3_trialGoesAs_32 : decode cX3_trialGoesAs 32 = .ok (.iconst (-1), 1) := by decide +kernel
theorem dX3_trialGoesAs_33 : decode cX3_trialGoesAs 33 = .ok (.if_icmp .eq 19, 3) := by decide +kernel
theorem dX3_trialGoesAs_36 : decode cX3_trialGoesAs 36 = .ok (.iload 4, 2) := by decide +kernel
theorem dX3_trialGoesAs_38 : decode cX3_trialGoesAs 38 = .ok (.aload_n 0, 1) := by decide +kernel
theorem dX3_trialGoesAs_39 : decode cX3_trialGoesAs 39 = .ok (.getfield 16, 3) := by decide +kernel
theorem dX3_trialGoesAs_42 : decode cX3_trialGoesAs 42 = .ok (.getfield 96, 3) := by decide +kernel
theorem dX3_trialGoesAs_45 : decode cX3_trialGoesAs 45 = .ok (.iload_n 2, 1) := by decide +kernel
theorem dX3_trialGoesAs_46 : decode cX3_trialGoesAs 46 = .ok (.iaload, 1) := by decide +kernel
theorem dX3_trialGoesAs_47 : decode cX3_trialGoesAs 47 = .ok (.if_icmp .eq 5, 3) := by decide +kernel
theorem dX3_trialGoesAs_50 : decode cX3_trialGoesAs 50 = .ok (.iconst 0, 1) := by decide +kernel
theorem dX3_trialGoesAs_51 : decode cX3_trialGoesAs 51 = .ok (.ireturn, 1) := by decide +kernel
theorem dX3_trialGoesAs_52 : decode cX3_trialGoesAs 52 = .ok (.iinc 3 1, 3) := by decide +kernel
theorem dX3_trialGoesAs_55 : decode cX3_trialGoesAs 55 = .ok (.goto (-53), 3) := by decide +kernel
theorem dX3_trialGoesAs_58 : decode cX3_trialGoesAs 58 = .ok (.iconst 1, 1) := by decide +kernel
theorem dX3_trialGoesAs_59 : decode cX3_trialGoesAs 59 = .ok (.ireturn, 1) := by decide +kernel
set_option maxRecDepth 20000 in
theorem ggX3_countLoudest_X0_playersIn : GoodIn wsX3_countLoudest wsX0_playersIn := goodIn_r _ [7, 8, 9, 10, 11, 6, 12, 13, 14, 15, 16, 17, 18, 19, 20, 21, 22, 23, 24, 25, 26, 27, 28, 29, 30, 31, 32, 33, 34, 35, 36, 37, 38, 39, 40, 71, 72, 73, 74, 75, 76, 77, 78, 79, 80, 81, 82, 83] (by decide +kernel) (by decide +kernel)
set_option maxRecDepth 20000 in
theorem gX3_countLoudest_X0_playersIn : GoodIn wsX3_countLoudest (wsV RX3 61 RX0 yX0_playersIn wsX0_playersIn) := goodIn_app (goodIn_of _ (by decide +kernel)) ggX3_countLoudest_X0_playersIn
set_option maxRecDepth 20000 in
theorem ggX3_countLoudest_X0_loudest : GoodIn wsX3_countLoudest wsX0_loudest := goodIn_r _ [44, 8, 45, 46, 47, 6, 48, 49, 50, 51, 52, 53, 54, 55, 56, 57, 58, 59, 60, 61, 71, 72, 73, 74, 75, 76, 77, 78, 79, 80, 81, 82, 83] (by decide +kernel) (by decide +kernel)
set_option maxRecDepth 20000 in
theorem gX3_countLoudest_X0_loudest : GoodIn wsX3_countLoudest (wsV RX3 254 RX0 yX0_loudest wsX0_loudest) := goodIn_app (goodIn_of _ (by decide +kernel)) ggX3_countLoudest_X0_loudest
theorem dX3_countLoudest_0 : decode cX3_countLoudest 0 = .ok (.iconst 0, 1) := by decide +kernel
theorem dX3_countLoudest_1 : decode cX3_countLoudest 1 = .ok (.istore_n 1, 1) := by decide +kernel
theorem dX3_countLoudest_2 : decode cX3_countLoudest 2 = .ok (.iload_n 1, 1) := by decide +kernel
theorem dX3_countLoudest_3 : decode cX3_countLoudest 3 = .ok (.sipush 256, 3) := by decide +kernel
theorem dX3_countLoudest_6 : decode cX3_countLoudest 6 = .ok (.if_icmp .ge 16, 3) := by decide +kernel
theorem dX3_countLoudest_9 : decode cX3_countLoudest 9 = .ok (.aload_n 0, 1) := by decide +kernel
theorem dX3_countLoudest_10 : decode cX3_countLoudest 10 = .ok (.getfield 43, 3) := by decide +kernel
theorem dX3_countLoudest_13 : decode cX3_countLoudest 13 = .ok (.iload_n 1, 1) := by decide +kernel
theorem dX3_countLoudest_14 : decode cX3_countLoudest 14 = .ok (.iconst 0, 1) := by decide +kernel
theorem dX3_countLoudest_15 : decode cX3_countLoudest 15 = .ok (.iastore, 1) := by decide +kernel
theorem dX3_countLoudest_16 : decode cX3_countLoudest 16 = .ok (.iinc 1 1, 3) := by decide +kernel
theorem dX3_countLoudest_19 : decode cX3_countLoudest 19 = .ok (.goto (-17), 3) := by decide +kernel
theorem dX3_countLoudest_22 : decode cX3_countLoudest 22 = .ok (.iconst 0, 1) := by decide +kernel
theorem dX3_countLoudest_23 : decode cX3_countLoudest 23 = .ok (.istore_n 1, 1) := by decide +kernel
theorem dX3_countLoudest_24 : decode cX3_countLoudest 24 = .ok (.iload_n 1, 1) := by decide +kernel
theorem dX3_countLoudest_25 : decode cX3_countLoudest 25 = .ok (.bipush 12, 2) := by decide +kernel
theorem dX3_countLoudest_27 : decode cX3_countLoudest 27 = .ok (.if_icmp .ge 50, 3) := by decide +kernel
theorem dX3_countLoudest_30 : decode cX3_countLoudest 30 = .ok (.aload_n 0, 1) := by decide +kernel
theorem dX3_countLoudest_31 : decode cX3_countLoudest 31 = .ok (.getfield 10, 3) := by decide +kernel
theorem dX3_countLoudest_34 : decode cX3_countLoudest 34 = .ok (.iload_n 1, 1) := by decide +kernel
theorem dX3_countLoudest_35 : decode cX3_countLoudest 35 = .ok (.invokevirtual 61, 3) := by decide +kernel
theorem dX3_countLoudest_38 : decode cX3_countLoudest 38 = .ok (.istore_n 2, 1) := by decide +kernel
theorem dX3_countLoudest_39 : decode cX3_countLoudest 39 = .ok (.iconst 0, 1) := by decide +kernel
theorem dX3_countLoudest_40 : decode cX3_countLoudest 40 = .ok (.istore_n 3, 1) := by decide +kernel
theorem dX3_countLoudest_41 : decode cX3_countLoudest 41 = .ok (.iload_n 3, 1) := by decide +kernel
theorem dX3_countLoudest_42 : decode cX3_countLoudest 42 = .ok (.bipush 16, 2) := by decide +kernel
theorem dX3_countLoudest_44 : decode cX3_countLoudest 44 = .ok (.if_icmp .ge 27, 3) := by decide +kernel
theorem dX3_countLoudest_47 : decode cX3_countLoudest 47 = .ok (.aload_n 0, 1) := by decide +kernel
theorem dX3_countLoudest_48 : decode cX3_countLoudest 48 = .ok (.getfield 43, 3) := by decide +kernel
theorem dX3_countLoudest_51 : decode cX3_countLoudest 51 = .ok (.aload_n 0, 1) := by decide +kernel
theorem dX3_countLoudest_52 : decode cX3_countLoudest 52 = .ok (.getfield 10, 3) := by decide +kernel
theorem dX3_countLoudest_55 : decode cX3_countLoudest 55 = .ok (.iload_n 3, 1) := by decide +kernel
theorem dX3_countLoudest_56 : decode cX3_countLoudest 56 = .ok (.iload_n 2, 1) := by decide +kernel
theorem dX3_countLoudest_57 : decode cX3_countLoudest 57 = .ok (.invokevirtual 254, 3) := by decide +kernel
theorem dX3_countLoudest_60 : decode cX3_countLoudest 60 = .ok (.dup2, 1) := by decide +kernel
theorem dX3_countLoudest_61 : decode cX3_countLoudest 61 = .ok (.iaload, 1) := by decide +kernel
theorem dX3_countLoudest_62 : decode cX3_countLoudest 62 = .ok (.iconst 1, 1) := by decide +kernel
theorem dX3_countLoudest_63 : decode cX3_countLoudest 63 = .ok (.iadd, 1) := by decide +kernel
theorem dX3_countLoudest_64 : decode cX3_countLoudest 64 = .ok (.iastore, 1) := by decide +kernel
theorem dX3_countLoudest_65 : decode cX3_countLoudest 65 = .ok (.iinc 3 1, 3) := by decide +kernel
theorem dX3_countLoudest_68 : decode cX3_countLoudest 68 = .ok (.goto (-27), 3) := by decide +kernel
theorem dX3_countLoudest_71 : decode cX3_countLoudest 71 = .ok (.iinc 1 1, 3) := by decide +kernel
theorem dX3_countLoudest_74 : decode cX3_countLoudest 74 = .ok (.goto (-50), 3) := by decide +kernel
theorem dX3_countLoudest_77 : decode cX3_countLoudest 77 = .ok (.return_, 1) := by decide +kernel
set_option maxRecDepth 20000 in
theorem ggX3_leastTouching_J6_bitCount_0f7a4 : GoodIn wsX3_leastTouching wsJ6_bitCount_0f7a4 := goodIn_r _ [4, 5, 6, 7] (by decide +kernel) (by decide +kernel)
set_option maxRecDepth 20000 in
theorem gX3_leastTouching_J6_bitCount_0f7a4 : GoodIn wsX3_leastTouching (va_wsS RX3 170 yJ6_bitCount_0f7a4 wsJ6_bitCount_0f7a4) := goodIn_app (goodIn_of _ (by decide +kernel)) ggX3_leastTouching_J6_bitCount_0f7a4
set_option maxRecDepth 20000 in
theorem ggX3_leastTouching_X3_touchesAll : GoodIn wsX3_leastTouching wsX3_touchesAll := goodIn_r _ [12, 13, 14, 15, 16, 17, 18, 19, 20, 21, 22] (by decide +kernel) (by decide +kernel)
set_option maxRecDepth 20000 in
theorem gX3_leastTouching_X3_touchesAll : GoodIn wsX3_leastTouching (wsV RX3 257 RX3 yX3_touchesAll wsX3_touchesAll) := goodIn_app (goodIn_of _ (by decide +kernel)) ggX3_leastTouching_X3_touchesAll
theorem dX3_leastTouching_0 : decode cX3_leastTouching 0 = .ok (.iconst 0, 1) := by decide +kernel
theorem dX3_leastTouching_1 : decode cX3_leastTouching 1 = .ok (.istore_n 3, 1) := by decide +kernel
theorem dX3_leastTouching_2 : decode cX3_leastTouching 2 = .ok (.bipush 13, 2) := by decide +kernel
theorem dX3_leastTouching_4 : decode cX3_leastTouching 4 = .ok (.istore 4, 2) := by decide +kernel
theorem dX3_leastTouching_6 : decode cX3_leastTouching 6 = .ok (.iconst 0, 1) := by decide +kernel
theorem dX3_leastTouching_7 : decode cX3_leastTouching 7 = .ok (.istore 5, 2) := by decide +kernel
theorem dX3_leastTouching_9 : decode cX3_leastTouching 9 = .ok (.iload 5, 2) := by decide +kernel
theorem dX3_leastTouching_11 : decode cX3_leastTouching 11 = .ok (.iload_n 2, 1) := by decide +kernel
theorem dX3_leastTouching_12 : decode cX3_leastTouching 12 = .ok (.if_icmp .ge 40, 3) := by decide +kernel
theorem dX3_leastTouching_15 : decode cX3_leastTouching 15 = .ok (.iload 5, 2) := by decide +kernel
theorem dX3_leastTouching_17 : decode cX3_leastTouching 17 = .ok (.invokestatic 170, 3) := by decide +kernel
theorem dX3_leastTouching_20 : decode cX3_leastTouching 20 = .ok (.istore 6, 2) := by decide +kernel
theorem dX3_leastTouching_22 : decode cX3_leastTouching 22 = .ok (.iload 6, 2) := by decide +kernel
theorem dX3_leastTouching_24 : decode cX3_leastTouching 24 = .ok (.iload 4, 2) := by decide +kernel
theorem dX3_leastTouching_26 : decode cX3_leastTouching 26 = .ok (.if_icmp .ge 20, 3) := by decide +kernel
theorem dX3_leastTouching_29 : decode cX3_leastTouching 29 = .ok (.aload_n 0, 1) := by decide +kernel
theorem dX3_leastTouching_30 : decode cX3_leastTouching 30 = .ok (.iload 5, 2) := by decide +kernel
theorem dX3_leastTouching_32 : decode cX3_leastTouching 32 = .ok (.iload_n 1, 1) := by decide +kernel
theorem dX3_leastTouching_33 : decode cX3_leastTouching 33 = .ok (.invokevirtual 257, 3) := by decide +kernel
theorem dX3_leastTouching_36 : decode cX3_leastTouching 36 = .ok (.ifCond .eq 10, 3) := by decide +kernel
theorem dX3_leastTouching_39 : decode cX3_leastTouching 39 = .ok (.iload 6, 2) := by decide +kernel
theorem dX3_leastTouching_41 : decode cX3_leastTouching 41 = .ok (.istore 4, 2) := by decide +kernel
theorem dX3_leastTouching_43 : decode cX3_leastTouching 43 = .ok (.iload 5, 2) := by decide +kernel
theorem dX3_leastTouching_45 : decode cX3_leastTouching 45 = .ok (.istore_n 3, 1) := by decide +kernel
theorem dX3_leastTouching_46 : decode cX3_leastTouching 46 = .ok (.iinc 5 1, 3) := by decide +kernel
theorem dX3_leastTouching_49 : decode cX3_leastTouching 49 = .ok (.goto (-40), 3) := by decide +kernel
theorem dX3_leastTouching_52 : decode cX3_leastTouching 52 = .ok (.iload_n 3, 1) := by decide +kernel
theorem dX3_leastTouching_53 : decode cX3_leastTouching 53 = .ok (.ireturn, 1) := by decide +kernel
theorem dX3_touchesAll_0 : decode cX3_touchesAll 0 = .ok (.iconst 0, 1) := by decide +kernel
theorem dX3_touchesAll_1 : decode cX3_touchesAll 1 = .ok (.istore_n 3, 1) := by decide +kernel
theorem dX3_touchesAll_2 : decode cX3_touchesAll 2 = .ok (.iload_n 3, 1) := by decide +kernel
theorem dX3_touchesAll_3 : decode cX3_touchesAll 3 = .ok (.iload_n 2, 1) := by decide +kernel
theorem dX3_touchesAll_4 : decode cX3_touchesAll 4 = .ok (.if_icmp .ge 29, 3) := by decide +kernel
theorem dX3_touchesAll_7 : decode cX3_touchesAll 7 = .ok (.iload_n 3, 1) := by decide +kernel
theorem dX3_touchesAll_8 : decode cX3_touchesAll 8 = .ok (.sipush 256, 3) := by decide +kernel
theorem dX3_touchesAll_11 : decode cX3_touchesAll 11 = .ok (.if_icmp .ge 22, 3) := by decide +kernel
theorem dX3_touchesAll_14 : decode cX3_touchesAll 14 = .ok (.iload_n 1, 1) := by decide +kernel
theorem dX3_touchesAll_15 : decode cX3_touchesAll 15 = .ok (.aload_n 0, 1) := by decide +kernel
theorem dX3_touchesAll_16 : decode cX3_touchesAll 16 = .ok (.getfield 46, 3) := by decide +kernel
theorem dX3_touchesAll_19 : decode cX3_touchesAll 19 = .ok (.iload_n 3, 1) := by decide +kernel
theorem dX3_touchesAll_20 : decode cX3_touchesAll 20 = .ok (.iaload, 1) := by decide +kernel
theorem dX3_touchesAll_21 : decode cX3_touchesAll 21 = .ok (.iand, 1) := by decide +kernel
theorem dX3_touchesAll_22 : decode cX3_touchesAll 22 = .ok (.ifCond .ne 5, 3) := by decide +kernel
theorem dX3_touchesAll_25 : decode cX3_touchesAll 25 = .ok (.iconst 0, 1) := by decide +kernel
theorem dX3_touchesAll_26 : decode cX3_touchesAll 26 = .ok (.ireturn, 1) := by decide +kernel
theorem dX3_touchesAll_27 : decode cX3_touchesAll 27 = .ok (.iinc 3 1, 3) := by decide +kernel
theorem dX3_touchesAll_30 : decode cX3_touchesAll 30 = .ok (.goto (-28), 3) := by decide +kernel
theorem dX3_touchesAll_33 : decode cX3_touchesAll 33 = .ok (.iconst 1, 1) := by decide +kernel
theorem dX3_touchesAll_34 : decode cX3_touchesAll 34 = .ok (.ireturn, 1) := by decide +kernel
