theorem dX4_downNow_18 : decode cX4_downNow 18 = .ok (.invokevirtual 100, 3) := by decide +kernel
theorem dX4_downNow_21 : decode cX4_downNow 21 = .ok (.ifCond .ne 9, 3) := by decide +kernel
theorem dX4_downNow_24 : decode cX4_downNow 24 = .ok (.iconst 1, 1) := by decide +kernel
theorem dX4_downNow_25 : decode cX4_downNow 25 = .ok (.iload_n 2, 1) := by decide +kernel
theorem dX4_downNow_26 : decode cX4_downNow 26 = .ok (.ishl, 1) := by decide +kernel
theorem dX4_downNow_27 : decode cX4_downNow 27 = .ok (.goto 4, 3) := by decide +kernel
theorem dX4_downNow_30 : decode cX4_downNow 30 = .ok (.iconst 0, 1) := by decide +kernel
theorem dX4_downNow_31 : decode cX4_downNow 31 = .ok (.ior, 1) := by decide +kernel
theorem dX4_downNow_32 : decode cX4_downNow 32 = .ok (.istore_n 1, 1) := by decide +kernel
theorem dX4_downNow_33 : decode cX4_downNow 33 = .ok (.iinc 2 1, 3) := by decide +kernel
theorem dX4_downNow_36 : decode cX4_downNow 36 = .ok (.goto (-32), 3) := by decide +kernel
theorem dX4_downNow_39 : decode cX4_downNow 39 = .ok (.iload_n 1, 1) := by decide +kernel
theorem dX4_downNow_40 : decode cX4_downNow 40 = .ok (.ireturn, 1) := by decide +kernel
set_option maxRecDepth 20000 in
theorem ggX4_heardNow_X4_everybody : GoodIn wsX4_heardNow wsX4_everybody := goodIn_r _ [5, 6, 40, 41, 42, 43, 44, 45, 46, 47, 48, 49, 50, 51, 52, 53, 54, 55, 56, 57, 58, 59, 60, 61, 62, 63] (by decide +kernel) (by decide +kernel)
set_option maxRecDepth 20000 in
theorem gX4_heardNow_X4_everybody : GoodIn wsX4_heardNow (wsV RX4 128 RX4 yX4_everybody wsX4_everybody) := goodIn_app (goodIn_of _ (by decide +kernel)) ggX4_heardNow_X4_everybody
set_option maxRecDepth 20000 in
theorem ggX4_heardNow_X4_heardOf : GoodIn wsX4_heardNow wsX4_heardOf := goodIn_r _ [10, 6, 11, 12, 13, 14, 15, 16, 4, 17, 18, 19, 20, 21, 22, 23, 24, 25, 26, 27, 28, 29, 30, 31, 32, 33, 34, 35, 36, 37, 38, 39, 40, 41, 42, 43, 44, 45, 46, 47, 48, 49, 50, 51, 52, 53, 54, 55, 56, 57, 58, 59, 60, 61, 62, 63] (by decide +kernel) (by decide +kernel)
set_option maxRecDepth 20000 in
theorem gX4_heardNow_X4_heardOf : GoodIn wsX4_heardNow (wsV RX4 132 RX4 yX4_heardOf wsX4_heardOf) := goodIn_app (goodIn_of _ (by decide +kernel)) ggX4_heardNow_X4_heardOf
theorem dX4_heardNow_0 : decode cX4_heardNow 0 = .ok (.iconst 0, 1) := by decide +kernel
theorem dX4_heardNow_1 : decode cX4_heardNow 1 = .ok (.istore_n 1, 1) := by decide +kernel
theorem dX4_heardNow_2 : decode cX4_heardNow 2 = .ok (.iconst 0, 1) := by decide +kernel
theorem dX4_heardNow_3 : decode cX4_heardNow 3 = .ok (.istore_n 2, 1) := by decide +kernel
theorem dX4_heardNow_4 : decode cX4_heardNow 4 = .ok (.iload_n 2, 1) := by decide +kernel
theorem dX4_heardNow_5 : decode cX4_heardNow 5 = .ok (.bipush 12, 2) := by decide +kernel
theorem dX4_heardNow_7 : decode cX4_heardNow 7 = .ok (.if_icmp .ge 36, 3) := by decide +kernel
theorem dX4_heardNow_10 : decode cX4_heardNow 10 = .ok (.iconst 0, 1) := by decide +kernel
theorem dX4_heardNow_11 : decode cX4_heardNow 11 = .ok (.istore_n 3, 1) := by decide +kernel
theorem dX4_heardNow_12 : decode cX4_heardNow 12 = .ok (.iload_n 3, 1) := by decide +kernel
theorem dX4_heardNow_13 : decode cX4_heardNow 13 = .ok (.bipush 16, 2) := by decide +kernel
theorem dX4_heardNow_15 : decode cX4_heardNow 15 = .ok (.if_icmp .ge 22, 3) := by decide +kernel
theorem dX4_heardNow_18 : decode cX4_heardNow 18 = .ok (.iload_n 1, 1) := by decide +kernel
theorem dX4_heardNow_19 : decode cX4_heardNow 19 = .ok (.aload_n 0, 1) := by decide +kernel
theorem dX4_heardNow_20 : decode cX4_heardNow 20 = .ok (.aload_n 0, 1) := by decide +kernel
theorem dX4_heardNow_21 : decode cX4_heardNow 21 = .ok (.invokevirtual 128, 3) := by decide +kernel
theorem dX4_heardNow_24 : decode cX4_heardNow 24 = .ok (.iload_n 3, 1) := by decide +kernel
theorem dX4_heardNow_25 : decode cX4_heardNow 25 = .ok (.iload_n 2, 1) := by decide +kernel
theorem dX4_heardNow_26 : decode cX4_heardNow 26 = .ok (.invokevirtual 132, 3) := by decide +kernel
theorem dX4_heardNow_29 : decode cX4_heardNow 29 = .ok (.iadd, 1) := by decide +kernel
theorem dX4_heardNow_30 : decode cX4_heardNow 30 = .ok (.istore_n 1, 1) := by decide +kernel
theorem dX4_heardNow_31 : decode cX4_heardNow 31 = .ok (.iinc 3 1, 3) := by decide +kernel
theorem dX4_heardNow_34 : decode cX4_heardNow 34 = .ok (.goto (-22), 3) := by decide +kernel
theorem dX4_heardNow_37 : decode cX4_heardNow 37 = .ok (.iinc 2 1, 3) := by decide +kernel
theorem dX4_heardNow_40 : decode cX4_heardNow 40 = .ok (.goto (-36), 3) := by decide +kernel
theorem dX4_heardNow_43 : decode cX4_heardNow 43 = .ok (.iload_n 1, 1) := by decide +kernel
theorem dX4_heardNow_44 : decode cX4_heardNow 44 = .ok (.ireturn, 1) := by decide +kernel
set_option maxRecDepth 20000 in
theorem ggX4_now_X4_sumOf : GoodIn wsX4_now wsX4_sumOf := goodIn_r _ [7, 1, 8, 9, 10, 6, 11, 12, 13, 14, 58, 59, 60, 61, 62, 63, 64, 65, 66, 67, 68, 69, 70, 71, 72, 73, 74, 75, 76, 77, 78, 79, 80, 81] (by decide +kernel) (by decide +kernel)
set_option maxRecDepth 20000 in
theorem gX4_now_X4_sumOf : GoodIn wsX4_now (wsV RX4 188 RX4 yX4_sumOf wsX4_sumOf) := goodIn_app (goodIn_of _ (by decide +kernel)) ggX4_now_X4_sumOf
set_option maxRecDepth 20000 in
theorem ggX4_now_X4_downNow : GoodIn wsX4_now wsX4_downNow := goodIn_r _ [18, 1, 8, 9, 10, 6, 11, 12, 13, 14, 58, 59, 60, 61, 62, 63, 64, 65, 66, 67, 68, 69, 70, 71, 72, 73, 74, 75, 76, 77, 78, 79, 80, 81] (by decide +kernel) (by decide +kernel)
set_option maxRecDepth 20000 in
theorem gX4_now_X4_downNow : GoodIn wsX4_now (wsV RX4 191 RX4 yX4_downNow wsX4_downNow) := goodIn_app (goodIn_of _ (by decide +kernel)) ggX4_now_X4_downNow
set_option maxRecDepth 20000 in
theorem ggX4_now_X4_heardNow : GoodIn wsX4_now wsX4_heardNow := goodIn_r _ [22, 23, 24, 25, 6, 26, 1, 27, 28, 29, 30, 31, 32, 33, 34, 35, 36, 37, 38, 39, 40, 41, 42, 43, 44, 45, 46, 47, 48, 8, 9, 10, 11, 12, 13, 14, 49, 50, 51, 52, 58, 59, 60, 61, 62, 63, 64, 65, 66, 67, 68, 69, 70, 71, 72, 73, 74, 75, 76, 77, 78, 79, 80, 81] (by decide +kernel) (by decide +kernel)
set_option maxRecDepth 20000 in
theorem gX4_now_X4_heardNow : GoodIn wsX4_now (wsV RX4 194 RX4 yX4_heardNow wsX4_heardNow) := goodIn_app (goodIn_of _ (by decide +kernel)) ggX4_now_X4_heardNow
set_option maxRecDepth 20000 in
theorem ggX4_now_X4_finding : GoodIn wsX4_now wsX4_finding := goodIn_r _ [56, 57, 2, 58, 59, 60, 61, 62, 63, 64, 65, 66, 67, 68, 69, 70, 71, 72, 73, 74, 75, 76, 77, 78, 79, 80, 81] (by decide +kernel) (by decide +kernel)
set_option maxRecDepth 20000 in
theorem gX4_now_X4_finding : GoodIn wsX4_now (wsV RX4 78 RX4 yX4_finding wsX4_finding) := goodIn_app (goodIn_of _ (by decide +kernel)) ggX4_now_X4_finding
theorem dX4_now_0 : decode cX4_now 0 = .ok (.iload_n 1, 1) := by decide +kernel
theorem dX4_now_1 : decode cX4_now 1 = .ok (.tableswitch 64 0 4 #[35, 42, 48, 53, 59], 35) := by decide +kernel
theorem dX4_now_36 : decode cX4_now 36 = .ok (.aload_n 0, 1) := by decide +kernel
theorem dX4_now_37 : decode cX4_now 37 = .ok (.getfield 9, 3) := by decide +kernel
theorem dX4_now_40 : decode cX4_now 40 = .ok (.iconst 0, 1) := by decide +kernel
theorem dX4_now_41 : decode cX4_now 41 = .ok (.iaload, 1) := by decide +kernel
theorem dX4_now_42 : decode cX4_now 42 = .ok (.ireturn, 1) := by decide +kernel
theorem dX4_now_43 : decode cX4_now 43 = .ok (.aload_n 0, 1) := by decide +kernel
theorem dX4_now_44 : decode cX4_now 44 = .ok (.iconst 4, 1) := by decide +kernel
theorem dX4_now_45 : decode cX4_now 45 = .ok (.invokevirtual 188, 3) := by decide +kernel
theorem dX4_now_48 : decode cX4_now 48 = .ok (.ireturn, 1) := by decide +kernel
theorem dX4_now_49 : decode cX4_now 49 = .ok (.aload_n 0, 1) := by decide +kernel
theorem dX4_now_50 : decode cX4_now 50 = .ok (.invokevirtual 191, 3) := by decide +kernel
theorem dX4_now_53 : decode cX4_now 53 = .ok (.ireturn, 1) := by decide +kernel
theorem dX4_now_54 : decode cX4_now 54 = .ok (.aload_n 0, 1) := by decide +kernel
theorem dX4_now_55 : decode cX4_now 55 = .ok (.iconst 3, 1) := by decide +kernel
theorem dX4_now_56 : decode cX4_now 56 = .ok (.invokevirtual 188, 3) := by decide +kernel
theorem dX4_now_59 : decode cX4_now 59 = .ok (.ireturn, 1) := by decide +kernel
theorem dX4_now_60 : decode cX4_now 60 = .ok (.aload_n 0, 1) := by decide +kernel
theorem dX4_now_61 : decode cX4_now 61 = .ok (.invokevirtual 194, 3) := by decide +kernel
theorem dX4_now_64 : decode cX4_now 64 = .ok (.ireturn, 1) := by decide +kernel
theorem dX4_now_65 : decode cX4_now 65 = .ok (.aload_n 0, 1) := by decide +kernel
theorem dX4_now_66 : decode cX4_now 66 = .ok (.ldc 72, 2) := by decide +kernel
theorem dX4_now_68 : decode cX4_now 68 = .ok (.invokevirtual 78, 3) := by decide +kernel
theorem dX4_now_71 : decode cX4_now 71 = .ok (.ireturn, 1) := by decide +kernel
set_option maxRecDepth 20000 in
theorem ggX4_nerveBehind_X4_copyRow : GoodIn wsX4_nerveBehind wsX4_copyRow := goodIn_r _ [6] (by decide +kernel) (by decide +kernel)
set_option maxRecDepth 20000 in
theorem gX4_nerveBehind_X4_copyRow : GoodIn wsX4_nerveBehind (va_wsS RX4 73 yX4_copyRow wsX4_copyRow) := goodIn_app (goodIn_of _ (by decide +kernel)) ggX4_nerveBehind_X4_copyRow
set_option maxRecDepth 20000 in
theorem ggX4_nerveBehind_X4_evenings : GoodIn wsX4_nerveBehind wsX4_evenings := goodIn_r _ [10, 11, 12, 13, 5, 14, 1, 15, 16, 17, 18, 19, 20, 21, 22, 23, 24, 25, 26, 27, 28, 29, 30, 31, 32, 33, 34, 35, 36, 37, 38, 39, 40, 41, 42, 43, 44, 45, 46, 47, 48, 49, 50, 51, 52, 53, 54, 55, 56, 57, 58, 59, 64, 65, 66, 67, 68, 69, 70, 71, 72, 73, 74, 75, 76, 77, 78, 79, 80, 81, 82, 83, 84, 85, 86, 87] (by decide +kernel) (by decide +kernel)
set_option maxRecDepth 20000 in
theorem gX4_nerveBehind_X4_evenings : GoodIn wsX4_nerveBehind (wsV RX4 185 RX4 yX4_evenings wsX4_evenings) := goodIn_app (goodIn_of _ (by decide +kernel)) ggX4_nerveBehind_X4_evenings
set_option maxRecDepth 20000 in
theorem ggX4_nerveBehind_X4_playerIs : GoodIn wsX4_nerveBehind wsX4_playerIs := goodIn_r _ [34, 1, 35, 36, 5, 37, 64, 65, 66, 67, 68, 69, 70, 71, 72, 73, 74, 75, 76, 77, 78, 79, 80, 81, 82, 83, 84, 85, 86, 87] (by decide +kernel) (by decide +kernel)
set_option maxRecDepth 20000 in
theorem gX4_nerveBehind_X4_playerIs : GoodIn wsX4_nerveBehind (wsV RX4 100 RX4 yX4_playerIs wsX4_playerIs) := goodIn_app (goodIn_of _ (by decide +kernel)) ggX4_nerveBehind_X4_playerIs
set_option maxRecDepth 20000 in
theorem ggX4_nerveBehind_X4_putBack : GoodIn wsX4_nerveBehind wsX4_putBack := goodIn_r _ [63, 2, 1, 3, 4, 5, 6, 64, 65, 66, 67, 68, 69, 70, 71, 72, 73, 74, 75, 76, 77, 78, 79, 80, 81, 82, 83, 84, 85, 86, 87] (by decide +kernel) (by decide +kernel)
set_option maxRecDepth 20000 in
theorem gX4_nerveBehind_X4_putBack : GoodIn wsX4_nerveBehind (wsV RX4 197 RX4 yX4_putBack wsX4_putBack) := goodIn_app (goodIn_of _ (by decide +kernel)) ggX4_nerveBehind_X4_putBack
theorem dX4_nerveBehind_0 : decode cX4_nerveBehind 0 = .ok (.aload_n 0, 1) := by decide +kernel
theorem dX4_nerveBehind_1 : decode cX4_nerveBehind 1 = .ok (.getfield 9, 3) := by decide +kernel
theorem dX4_nerveBehind_4 : decode cX4_nerveBehind 4 = .ok (.aload_n 0, 1) := by decide +kernel
theorem dX4_nerveBehind_5 : decode cX4_nerveBehind 5 = .ok (.getfield 16, 3) := by decide +kernel
theorem dX4_nerveBehind_8 : decode cX4_nerveBehind 8 = .ok (.invokestatic 73, 3) := by decide +kernel
theorem dX4_nerveBehind_11 : decode cX4_nerveBehind 11 = .ok (.aload_n 0, 1) := by decide +kernel
theorem dX4_nerveBehind_12 : decode cX4_nerveBehind 12 = .ok (.iload_n 2, 1) := by decide +kernel
theorem dX4_nerveBehind_13 : decode cX4_nerveBehind 13 = .ok (.invokevirtual 185, 3) := by decide +kernel
theorem dX4_nerveBehind_16 : decode cX4_nerveBehind 16 = .ok (.aload_n 0, 1) := by decide +kernel
theorem dX4_nerveBehind_17 : decode cX4_nerveBehind 17 = .ok (.aload_n 0, 1) := by decide +kernel
theorem dX4_nerveBehind_18 : decode cX4_nerveBehind 18 = .ok (.iload_n 1, 1) := by decide +kernel
theorem dX4_nerveBehind_19 : decode cX4_nerveBehind 19 = .ok (.iconst 4, 1) := by decide +kernel
theorem dX4_nerveBehind_20 : decode cX4_nerveBehind 20 = .ok (.invokevirtual 100, 3) := by decide +kernel
theorem dX4_nerveBehind_23 : decode cX4_nerveBehind 23 = .ok (.invokevirtual 197, 3) := by decide +kernel
theorem dX4_nerveBehind_26 : decode cX4_nerveBehind 26 = .ok (.ireturn, 1) := by decide +kernel
set_option maxRecDepth 20000 in
theorem ggX4_ahead_X4_isPlayer : GoodIn wsX4_ahead wsX4_isPlayer := goodIn_r _ [6, 7, 8, 9, 5, 10, 81, 82, 83, 84, 85, 86, 87, 88, 89, 90, 91, 92, 93, 94, 95, 96, 97, 98, 99, 100, 101, 102, 103, 104] (by decide +kernel) (by decide +kernel)
set_option maxRecDepth 20000 in
theorem gX4_ahead_X4_isPlayer : GoodIn wsX4_ahead (wsV RX4 152 RX4 yX4_isPlayer wsX4_isPlayer) := goodIn_app (goodIn_of _ (by decide +kernel)) ggX4_ahead_X4_isPlayer
set_option maxRecDepth 20000 in
theorem ggX4_ahead_X4_within : GoodIn wsX4_ahead wsX4_within := goodIn_r _ [10] (by decide +kernel) (by decide +kernel)
set_option maxRecDepth 20000 in
theorem gX4_ahead_X4_within : GoodIn wsX4_ahead (va_wsS RX4 82 yX4_within wsX4_within) := goodIn_app (goodIn_of _ (by decide +kernel)) ggX4_ahead_X4_within
set_option maxRecDepth 20000 in
theorem ggX4_ahead_X4_nerveBehind : GoodIn wsX4_ahead wsX4_nerveBehind := goodIn_r _ [14, 7, 15, 16, 17, 5, 18, 19, 20, 21, 22, 23, 24, 25, 26, 27, 28, 29, 30, 31, 32, 33, 34, 35, 36, 37, 38, 39, 40, 41, 42, 43, 44, 45, 46, 47, 48, 49, 50, 51, 52, 53, 54, 55, 56, 57, 58, 59, 60, 61, 62, 63, 64, 65, 66, 67, 68, 69, 70, 71, 72, 73, 74, 75, 81, 82, 83, 84, 85, 86, 87, 88, 89, 90, 91, 92, 93, 94, 95, 96, 97, 98, 99, 100, 101, 102, 103, 104] (by decide +kernel) (by decide +kernel)
set_option maxRecDepth 20000 in
theorem gX4_ahead_X4_nerveBehind : GoodIn wsX4_ahead (wsV RX4 200 RX4 yX4_nerveBehind wsX4_nerveBehind) := goodIn_app (goodIn_of _ (by decide +kernel)) ggX4_ahead_X4_nerveBehind
set_option maxRecDepth 20000 in
theorem ggX4_ahead_X4_finding : GoodIn wsX4_ahead wsX4_finding := goodIn_r _ [79, 80, 1, 81, 82, 83, 84, 85, 86, 87, 88, 89, 90, 91, 92, 93, 94, 95, 96, 97, 98, 99, 100, 101, 102, 103, 104] (by decide +kernel) (by decide +kernel)
set_option maxRecDepth 20000 in
theorem gX4_ahead_X4_finding : GoodIn wsX4_ahead (wsV RX4 78 RX4 yX4_finding wsX4_finding) := goodIn_app (goodIn_of _ (by decide +kernel)) ggX4_ahead_X4_finding
theorem dX4_ahead_0 : decode cX4_ahead 0 = .ok (.aload_n 0, 1) := by decide +kernel
theorem dX4_ahead_1 : decode cX4_ahead 1 = .ok (.iload_n 1, 1) := by decide +kernel
theorem dX4_ahead_2 : decode cX4_ahead 2 = .ok (.invokevirtual 152, 3) := by decide +kernel
theorem dX4_ahead_5 : decode cX4_ahead 5 = .ok (.ifCond .eq 22, 3) := by decide +kernel
theorem dX4_ahead_8 : decode cX4_ahead 8 = .ok (.iload_n 2, 1) := by decide +kernel
theorem dX4_ahead_9 : decode cX4_ahead 9 = .ok (.iconst 0, 1) := by decide +kernel
theorem dX4_ahead_10 : decode cX4_ahead 10 = .ok (.bipush 40, 2) := by decide +kernel
theorem dX4_ahead_12 : decode cX4_ahead 12 = .ok (.invokestatic 82, 3) := by decide +kernel
theorem dX4_ahead_15 : decode cX4_ahead 15 = .ok (.ifCond .eq 12, 3) := by decide +kernel
theorem dX4_ahead_18 : decode cX4_ahead 18 = .ok (.aload_n 0, 1) := by decide +kernel
theorem dX4_ahead_19 : decode cX4_ahead 19 = .ok (.iload_n 1, 1) := by decide +kernel
theorem dX4_ahead_20 : decode cX4_ahead 20 = .ok (.iload_n 2, 1) := by decide +kernel
theorem dX4_ahead_21 : decode cX4_ahead 21 = .ok (.invokevirtual 200, 3) := by decide +kernel
theorem dX4_ahead_24 : decode cX4_ahead 24 = .ok (.goto 9, 3) := by decide +kernel
theorem dX4_ahead_27 : decode cX4_ahead 27 = .ok (.aload_n 0, 1) := by decide +kernel
theorem dX4_ahead_28 : decode cX4_ahead 28 = .ok (.ldc 72, 2) := by decide +kernel
theorem dX4_ahead_30 : decode cX4_ahead 30 = .ok (.invokevirtual 78, 3) := by decide +kernel
theorem dX4_ahead_33 : decode cX4_ahead 33 = .ok (.ireturn, 1) := by decide +kernel
set_option maxRecDepth 20000 in
theorem ggX4_broken_X4_isPlayer : GoodIn wsX4_broken wsX4_isPlayer := goodIn_r _ [8, 2, 9, 10, 7, 11, 78, 79, 80, 81, 82, 83, 84, 85, 86, 87, 88, 89, 90, 91, 92, 93, 94, 95, 96, 97, 98, 99, 100, 101] (by decide +kernel) (by decide +kernel)
set_option maxRecDepth 20000 in
theorem gX4_broken_X4_isPlayer : GoodIn wsX4_broken (wsV RX4 152 RX4 yX4_isPlayer wsX4_isPlayer) := goodIn_app (goodIn_of _ (by decide +kernel)) ggX4_broken_X4_isPlayer
set_option maxRecDepth 20000 in
theorem ggX4_broken_X4_finding : GoodIn wsX4_broken wsX4_finding := goodIn_r _ [15, 16, 1, 78, 79, 80, 81, 82, 83, 84, 85, 86, 87, 88, 89, 90, 91, 92, 93, 94, 95, 96, 97, 98, 99, 100, 101] (by decide +kernel) (by decide +kernel)
set_option maxRecDepth 20000 in
theorem gX4_broken_X4_finding : GoodIn wsX4_broken (wsV RX4 78 RX4 yX4_finding wsX4_finding) := goodIn_app (goodIn_of _ (by decide +kernel)) ggX4_broken_X4_finding
set_option maxRecDepth 20000 in
theorem ggX4_broken_X4_copyRow : GoodIn wsX4_broken wsX4_copyRow := goodIn_r _ [19] (by decide +kernel) (by decide +kernel)
set_option maxRecDepth 20000 in
theorem gX4_broken_X4_copyRow : GoodIn wsX4_broken (va_wsS RX4 73 yX4_copyRow wsX4_copyRow) := goodIn_app (goodIn_of _ (by decide +kernel)) ggX4_broken_X4_copyRow
set_option maxRecDepth 20000 in
theorem ggX4_broken_X4_playerIs : GoodIn wsX4_broken wsX4_playerIs := goodIn_r _ [23, 2, 24, 25, 7, 26, 78, 79, 80, 81, 82, 83, 84, 85, 86, 87, 88, 89, 90, 91, 92, 93, 94, 95, 96, 97, 98, 99, 100, 101] (by decide +kernel) (by decide +kernel)
set_option maxRecDepth 20000 in
theorem gX4_broken_X4_playerIs : GoodIn wsX4_broken (wsV RX4 100 RX4 yX4_playerIs wsX4_playerIs) := goodIn_app (goodIn_of _ (by decide +kernel)) ggX4_broken_X4_playerIs
set_option maxRecDepth 20000 in
theorem ggX4_broken_X4_evening : GoodIn wsX4_broken wsX4_evening := goodIn_r _ [30, 2, 31, 32, 33, 7, 34, 35, 36, 37, 38, 39, 40, 41, 42, 43, 44, 45, 46, 20, 21, 22, 23, 24, 25, 26, 47, 48, 49, 50, 51, 52, 53, 54, 55, 56, 57, 58, 59, 60, 61, 62, 63, 64, 65, 66, 67, 68, 78, 79, 80, 81, 82, 83, 84, 85, 86, 87, 88, 89, 90, 91, 92, 93, 94, 95, 96, 97, 98, 99, 100, 101] (by decide +kernel) (by decide +kernel)
set_option maxRecDepth 20000 in
theorem gX4_broken_X4_evening : GoodIn wsX4_broken (wsV RX4 180 RX4 yX4_evening wsX4_evening) := goodIn_app (goodIn_of _ (by decide +kernel)) ggX4_broken_X4_evening
set_option maxRecDepth 20000 in
theorem ggX4_broken_X4_putBack : GoodIn wsX4_broken wsX4_putBack := goodIn_r _ [72, 3, 2, 17, 18, 7, 19, 78, 79, 80, 81, 82, 83, 84, 85, 86, 87, 88, 89, 90, 91, 92, 93, 94, 95, 96, 97, 98, 99, 100, 101] (by decide +kernel) (by decide +kernel)
set_option maxRecDepth 20000 in
theorem gX4_broken_X4_putBack : GoodIn wsX4_broken (wsV RX4 197 RX4 yX4_putBack wsX4_putBack) := goodIn_app (goodIn_of _ (by decide +kernel)) ggX4_broken_X4_putBack
set_option maxRecDepth 20000 in
theorem ggX4_broken_X4_orNone : GoodIn wsX4_broken wsX4_orNone := goodIn_r _ [76, 77, 12, 13, 14, 7, 15, 16, 1, 78, 79, 80, 81, 82, 83, 84, 85, 86, 87, 88, 89, 90, 91, 92, 93, 94, 95, 96, 97, 98, 99, 100, 101] (by decide +kernel) (by decide +kernel)
set_option maxRecDepth 20000 in
theorem gX4_broken_X4_orNone : GoodIn wsX4_broken (wsV RX4 203 RX4 yX4_orNone wsX4_orNone) := goodIn_app (goodIn_of _ (by decide +kernel)) ggX4_broken_X4_orNone
theorem dX4_broken_0 : decode cX4_broken 0 = .ok (.aload_n 0, 1) := by decide +kernel
theorem dX4_broken_1 : decode cX4_broken 1 = .ok (.iload_n 1, 1) := by decide +kernel
theorem dX4_broken_2 : decode cX4_broken 2 = .ok (.invokevirtual 152, 3) := by decide +kernel
theorem dX4_broken_5 : decode cX4_broken 5 = .ok (.ifCond .ne 10, 3) := by decide +kernel
theorem dX4_broken_8 : decode cX4_broken 8 = .ok (.aload_n 0, 1) := by decide +kernel
theorem dX4_broken_9 : decode cX4_broken 9 = .ok (.ldc 72, 2) := by decide +kernel
theorem dX4_broken_11 : decode cX4_broken 11 = .ok (.invokevirtual 78, 3) := by decide +kernel
theorem dX4_broken_14 : decode cX4_broken 14 = .ok (.ireturn, 1) := by decide +kernel
theorem dX4_broken_15 : decode cX4_broken 15 = .ok (.aload_n 0, 1) := by decide +kernel
theorem dX4_broken_16 : decode cX4_broken 16 = .ok (.getfield 9, 3) := by decide +kernel
theorem dX4_broken_19 : decode cX4_broken 19 = .ok (.aload_n 0, 1) := by decide +kernel
theorem dX4_broken_20 : decode cX4_broken 20 = .ok (.getfield 16, 3) := by decide +kernel
theorem dX4_broken_23 : decode cX4_broken 23 = .ok (.invokestatic 73, 3) := by decide +kernel
theorem dX4_broken_26 : decode cX4_broken 26 = .ok (.iconst 0, 1) := by decide +kernel
theorem dX4_broken_27 : decode cX4_broken 27 = .ok (.istore_n 2, 1) := by decide +kernel
theorem dX4_broken_28 : decode cX4_broken 28 = .ok (.iload_n 2, 1) := by decide +kernel
theorem dX4_broken_29 : decode cX4_broken 29 = .ok (.bipush 40, 2) := by decide +kernel
theorem dX4_broken_31 : decode cX4_broken 31 = .ok (.if_icmp .ge 22, 3) := by decide +kernel
theorem dX4_broken_34 : decode cX4_broken 34 = .ok (.aload_n 0, 1) := by decide +kernel
theorem dX4_broken_35 : decode cX4_broken 35 = .ok (.iload_n 1, 1) := by decide +kernel
theorem dX4_broken_36 : decode cX4_broken 36 = .ok (.iconst 4, 1) := by decide +kernel
theorem dX4_broken_37 : decode cX4_broken 37 = .ok (.invokevirtual 100, 3) := by decide +kernel
theorem dX4_broken_40 : decode cX4_broken 40 = .ok (.ifCond .eq 13, 3) := by decide +kernel
theorem dX4_broken_43 : decode cX4_broken 43 = .ok (.aload_n 0, 1) := by decide +kernel
theorem dX4_broken_44 : decode cX4_broken 44 = .ok (.invokevirtual 180, 3) := by decide +kernel
theorem dX4_broken_47 : decode cX4_broken 47 = .ok (.iinc 2 1, 3) := by decide +kernel
theorem dX4_broken_50 : decode cX4_broken 50 = .ok (.goto (-22), 3) := by decide +kernel
theorem dX4_broken_53 : decode cX4_broken 53 = .ok (.aload_n 0, 1) := by decide +kernel
theorem dX4_broken_54 : decode cX4_broken 54 = .ok (.aload_n 0, 1) := by decide +kernel
theorem dX4_broken_55 : decode cX4_broken 55 = .ok (.aload_n 0, 1) := by decide +kernel
theorem dX4_broken_56 : decode cX4_broken 56 = .ok (.iload_n 1, 1) := by decide +kernel
theorem dX4_broken_57 : decode cX4_broken 57 = .ok (.iconst 4, 1) := by decide +kernel
theorem dX4_broken_58 : decode cX4_broken 58 = .ok (.invokevirtual 100, 3) := by decide +kernel
theorem dX4_broken_61 : decode cX4_broken 61 = .ok (.ifCond .ne 7, 3) := by decide +kernel
theorem dX4_broken_64 : decode cX4_broken 64 = .ok (.iload_n 2, 1) := by decide +kernel
theorem dX4_broken_65 : decode cX4_broken 65 = .ok (.goto 4, 3) := by decide +kernel
theorem dX4_broken_68 : decode cX4_broken 68 = .ok (.iconst (-1), 1) := by decide +kernel
theorem dX4_broken_69 : decode cX4_broken 69 = .ok (.invokevirtual 197, 3) := by decide +kernel
theorem dX4_broken_72 : decode cX4_broken 72 = .ok (.invokevirtual 203, 3) := by decide +kernel
theorem dX4_broken_75 : decode cX4_broken 75 = .ok (.ireturn, 1) := by decide +kernel
set_option maxRecDepth 20000 in
theorem ggX4_isLikeBehind_X4_playerIs : GoodIn wsX4_isLikeBehind wsX4_playerIs := goodIn_r _ [7, 1, 8, 9, 6, 10, 53, 54, 55, 56, 57, 58, 59, 60, 61, 62, 63, 64, 65, 66, 67, 68, 69, 70, 71, 72, 73, 74, 75, 76] (by decide +kernel) (by decide +kernel)
set_option maxRecDepth 20000 in
theorem gX4_isLikeBehind_X4_playerIs : GoodIn wsX4_isLikeBehind (wsV RX4 100 RX4 yX4_playerIs wsX4_playerIs) := goodIn_app (goodIn_of _ (by decide +kernel)) ggX4_isLikeBehind_X4_playerIs
set_option maxRecDepth 20000 in
theorem ggX4_isLikeBehind_X4_evening : GoodIn wsX4_isLikeBehind wsX4_evening := goodIn_r _ [14, 1, 15, 16, 17, 6, 18, 19, 20, 21, 22, 23, 24, 25, 26, 27, 28, 29, 30, 3, 4, 5, 7, 8, 9, 10, 31, 32, 33, 34, 35, 36, 37, 38, 39, 40, 41, 42, 43, 44, 45, 46, 47, 48, 49, 50, 51, 52, 53, 54, 55, 56, 57, 58, 59, 60, 61, 62, 63, 64, 65, 66, 67, 68, 69, 70, 71, 72, 73, 74, 75, 76] (by decide +kernel) (by decide +kernel)
set_option maxRecDepth 20000 in
theorem gX4_isLikeBehind_X4_evening : GoodIn wsX4_isLikeBehind (wsV RX4 180 RX4 yX4_evening wsX4_evening) := goodIn_app (goodIn_of _ (by decide +kernel)) ggX4_isLikeBehind_X4_evening
theorem dX4_isLikeBehind_0 : decode cX4_isLikeBehind 0 = .ok (.iconst 0, 1) := by decide +kernel
theorem dX4_isLikeBehind_1 : decode cX4_isLikeBehind 1 = .ok (.istore_n 1, 1) := by decide +kernel
theorem dX4_isLikeBehind_2 : decode cX4_isLikeBehind 2 = .ok (.iload_n 1, 1) := by decide +kernel
theorem dX4_isLikeBehind_3 : decode cX4_isLikeBehind 3 = .ok (.aload_n 0, 1) := by decide +kernel
theorem dX4_isLikeBehind_4 : decode cX4_isLikeBehind 4 = .ok (.getfield 9, 3) := by decide +kernel
theorem dX4_isLikeBehind_7 : decode cX4_isLikeBehind 7 = .ok (.iconst 1, 1) := by decide +kernel
theorem dX4_isLikeBehind_8 : decode cX4_isLikeBehind 8 = .ok (.iaload, 1) := by decide +kernel
theorem dX4_isLikeBehind_9 : decode cX4_isLikeBehind 9 = .ok (.if_icmp .ge 39, 3) := by decide +kernel
theorem dX4_isLikeBehind_12 : decode cX4_isLikeBehind 12 = .ok (.aload_n 0, 1) := by decide +kernel
theorem dX4_isLikeBehind_13 : decode cX4_isLikeBehind 13 = .ok (.getfield 28, 3) := by decide +kernel
theorem dX4_isLikeBehind_16 : decode cX4_isLikeBehind 16 = .ok (.iconst 2, 1) := by decide +kernel
theorem dX4_isLikeBehind_17 : decode cX4_isLikeBehind 17 = .ok (.iload_n 1, 1) := by decide +kernel
theorem dX4_isLikeBehind_18 : decode cX4_isLikeBehind 18 = .ok (.imul, 1) := by decide +kernel
theorem dX4_isLikeBehind_19 : decode cX4_isLikeBehind 19 = .ok (.aload_n 0, 1) := by decide +kernel
theorem dX4_isLikeBehind_20 : decode cX4_isLikeBehind 20 = .ok (.iload_n 1, 1) := by decide +kernel
theorem dX4_isLikeBehind_21 : decode cX4_isLikeBehind 21 = .ok (.iconst 4, 1) := by decide +kernel
theorem dX4_isLikeBehind_22 : decode cX4_isLikeBehind 22 = .ok (.invokevirtual 100, 3) := by decide +kernel
theorem dX4_isLikeBehind_25 : decode cX4_isLikeBehind 25 = .ok (.iastore, 1) := by decide +kernel
theorem dX4_isLikeBehind_26 : decode cX4_isLikeBehind 26 = .ok (.aload_n 0, 1) := by decide +kernel
theorem dX4_isLikeBehind_27 : decode cX4_isLikeBehind 27 = .ok (.getfield 28, 3) := by decide +kernel
theorem dX4_isLikeBehind_30 : decode cX4_isLikeBehind 30 = .ok (.iconst 2, 1) := by decide +kernel
theorem dX4_isLikeBehind_31 : decode cX4_isLikeBehind 31 = .ok (.iload_n 1, 1) := by decide +kernel
theorem dX4_isLikeBehind_32 : decode cX4_isLikeBehind 32 = .ok (.imul, 1) := by decide +kernel
theorem dX4_isLikeBehind_33 : decode cX4_isLikeBehind 33 = .ok (.iconst 1, 1) := by decide +kernel
theorem dX4_isLikeBehind_34 : decode cX4_isLikeBehind 34 = .ok (.iadd, 1) := by decide +kernel
theorem dX4_isLikeBehind_35 : decode cX4_isLikeBehind 35 = .ok (.aload_n 0, 1) := by decide +kernel
theorem dX4_isLikeBehind_36 : decode cX4_isLikeBehind 36 = .ok (.iload_n 1, 1) := by decide +kernel
theorem dX4_isLikeBehind_37 : decode cX4_isLikeBehind 37 = .ok (.iconst 3, 1) := by decide +kernel
theorem dX4_isLikeBehind_38 : decode cX4_isLikeBehind 38 = .ok (.invokevirtual 100, 3) := by decide +kernel
theorem dX4_isLikeBehind_41 : decode cX4_isLikeBehind 41 = .ok (.iastore, 1) := by decide +kernel
theorem dX4_isLikeBehind_42 : decode cX4_isLikeBehind 42 = .ok (.iinc 1 1, 3) := by decide +kernel
theorem dX4_isLikeBehind_45 : decode cX4_isLikeBehind 45 = .ok (.goto (-43), 3) := by decide +kernel
theorem dX4_isLikeBehind_48 : decode cX4_isLikeBehind 48 = .ok (.aload_n 0, 1) := by decide +kernel
theorem dX4_isLikeBehind_49 : decode cX4_isLikeBehind 49 = .ok (.invokevirtual 180, 3) := by decide +kernel
theorem dX4_isLikeBehind_52 : decode cX4_isLikeBehind 52 = .ok (.iconst 1, 1) := by decide +kernel
theorem dX4_isLikeBehind_53 : decode cX4_isLikeBehind 53 = .ok (.istore_n 1, 1) := by decide +kernel
theorem dX4_isLikeBehind_54 : decode cX4_isLikeBehind 54 = .ok (.iconst 0, 1) := by decide +kernel
theorem dX4_isLikeBehind_55 : decode cX4_isLikeBehind 55 = .ok (.istore_n 2, 1) := by decide +kernel
theorem dX4_isLikeBehind_56 : decode cX4_isLikeBehind 56 = .ok (.iload_n 2, 1) := by decide +kernel
theorem dX4_isLikeBehind_57 : decode cX4_isLikeBehind 57 = .ok (.aload_n 0, 1) := by decide +kernel
theorem dX4_isLikeBehind_58 : decode cX4_isLikeBehind 58 = .ok (.getfield 9, 3) := by decide +kernel
theorem dX4_isLikeBehind_61 : decode cX4_isLikeBehind 61 = .ok (.iconst 1, 1) := by decide +kernel
theorem dX4_isLikeBehind_62 : decode cX4_isLikeBehind 62 = .ok (.iaload, 1) := by decide +kernel
theorem dX4_isLikeBehind_63 : decode cX4_isLikeBehind 63 = .ok (.if_icmp .ge 55, 3) := by decide +kernel
theorem dX4_isLikeBehind_66 : decode cX4_isLikeBehind 66 = .ok (.iload_n 1, 1) := by decide +kernel
theorem dX4_isLikeBehind_67 : decode cX4_isLikeBehind 67 = .ok (.ifCond .eq 43, 3) := by decide +kernel
theorem dX4_isLikeBehind_70 : decode cX4_isLikeBehind 70 = .ok (.aload_n 0, 1) := by decide +kernel
theorem dX4_isLikeBehind_71 : decode cX4_isLikeBehind 71 = .ok (.getfield 28, 3) := by decide +kernel
theorem dX4_isLikeBehind_74 : decode cX4_isLikeBehind 74 = .ok (.iconst 2, 1) := by decide +kernel
theorem dX4_isLikeBehind_75 : decode cX4_isLikeBehind 75 = .ok (.iload_n 2, 1) := by decide +kernel
theorem dX4_isLikeBehind_76 : decode cX4_isLikeBehind 76 = .ok (.imul, 1) := by decide +kernel
theorem dX4_isLikeBehind_77 : decode cX4_isLikeBehind 77 = .ok (.iaload, 1) := by decide +kernel
theorem dX4_isLikeBehind_78 : decode cX4_isLikeBehind 78 = .ok (.aload_n 0, 1) := by decide +kernel
theorem dX4_isLikeBehind_79 : decode cX4_isLikeBehind 79 = .ok (.iload_n 2, 1) := by decide +kernel
theorem dX4_isLikeBehind_80 : decode cX4_isLikeBehind 80 = .ok (.iconst 4, 1) := by decide +kernel
theorem dX4_isLikeBehind_81 : decode cX4_isLikeBehind 81 = .ok (.invokevirtual 100, 3) := by decide +kernel
theorem dX4_isLikeBehind_84 : decode cX4_isLikeBehind 84 = .ok (.if_icmp .ne 26, 3) := by decide +kernel
theorem dX4_isLikeBehind_87 : decode cX4_isLikeBehind 87 = .ok (.aload_n 0, 1) := by decide +kernel
theorem dX4_isLikeBehind_88 : decode cX4_isLikeBehind 88 = .ok (.getfield 28, 3) := by decide +kernel
theorem dX4_isLikeBehind_91 : decode cX4_isLikeBehind 91 = .ok (.iconst 2, 1) := by decide +kernel
theorem dX4_isLikeBehind_92 : decode cX4_isLikeBehind 92 = .ok (.iload_n 2, 1) := by decide +kernel
theorem dX4_isLikeBehind_93 : decode cX4_isLikeBehind 93 = .ok (.imul, 1) := by decide +kernel
theorem dX4_isLikeBehind_94 : decode cX4_isLikeBehind 94 = .ok (.iconst 1, 1) := by decide +kernel
theorem dX4_isLikeBehind_95 : decode cX4_isLikeBehind 95 = .ok (.iadd, 1) := by decide +kernel
theorem dX4_isLikeBehind_96 : decode cX4_isLikeBehind 96 = .ok (.iaload, 1) := by decide +kernel
theorem dX4_isLikeBehind_97 : decode cX4_isLikeBehind 97 = .ok (.aload_n 0, 1) := by decide +kernel
theorem dX4_isLikeBehind_98 : decode cX4_isLikeBehind 98 = .ok (.iload_n 2, 1) := by decide +kernel
theorem dX4_isLikeBehind_99 : decode cX4_isLikeBehind 99 = .ok (.iconst 3, 1) := by decide +kernel
theorem dX4_isLikeBehind_100 : decode cX4_isLikeBehind 100 = .ok (.invokevirtual 100, 3) := by decide +kernel
theorem dX4_isLikeBehind_103 : decode cX4_isLikeBehind 103 = .ok (.if_icmp .ne 7, 3) := by decide +kernel
theorem dX4_isLikeBehind_106 : decode cX4_isLikeBehind 106 = .ok (.iconst 1, 1) := by decide +kernel
theorem dX4_isLikeBehind_107 : decode cX4_isLikeBehind 107 = .ok (.goto 4, 3) := by decide +kernel
theorem dX4_isLikeBehind_110 : decode cX4_isLikeBehind 110 = .ok (.iconst 0, 1) := by decide +kernel
theorem dX4_isLikeBehind_111 : decode cX4_isLikeBehind 111 = .ok (.istore_n 1, 1) := by decide +kernel
theorem dX4_isLikeBehind_112 : decode cX4_isLikeBehind 112 = .ok (.iinc 2 1, 3) := by decide +kernel
theorem dX4_isLikeBehind_115 : decode cX4_isLikeBehind 115 = .ok (.goto (-59), 3) := by decide +kernel
theorem dX4_isLikeBehind_118 : decode cX4_isLikeBehind 118 = .ok (.iload_n 1, 1) := by decide +kernel
theorem dX4_isLikeBehind_119 : decode cX4_isLikeBehind 119 = .ok (.ireturn, 1) := by decide +kernel
set_option maxRecDepth 20000 in
theorem ggX4_settles_X4_copyRow : GoodIn wsX4_settles wsX4_copyRow := goodIn_r _ [6] (by decide +kernel) (by decide +kernel)
set_option maxRecDepth 20000 in
theorem gX4_settles_X4_copyRow : GoodIn wsX4_settles (va_wsS RX4 73 yX4_copyRow wsX4_copyRow) := goodIn_app (goodIn_of _ (by decide +kernel)) ggX4_settles_X4_copyRow
set_option maxRecDepth 20000 in
theorem ggX4_settles_X4_isLikeBehind : GoodIn wsX4_settles wsX4_isLikeBehind := goodIn_r _ [10, 1, 11, 12, 13, 14, 5, 15, 16, 17, 18, 19, 20, 21, 22, 23, 24, 25, 26, 27, 28, 29, 30, 31, 32, 33, 34, 35, 36, 37, 38, 39, 40, 41, 42, 43, 44, 45, 46, 47, 48, 49, 50, 51, 52, 53, 54, 55, 56, 57, 58, 59, 60, 76, 77, 78, 79, 80, 81, 82, 83, 84, 85, 86, 87, 88, 89, 90, 91, 92, 93, 94, 95, 96, 97, 98, 99] (by decide +kernel) (by decide +kernel)
set_option maxRecDepth 20000 in
theorem gX4_settles_X4_isLikeBehind : GoodIn wsX4_settles (wsV RX4 206 RX4 yX4_isLikeBehind wsX4_isLikeBehind) := goodIn_app (goodIn_of _ (by decide +kernel)) ggX4_settles_X4_isLikeBehind
set_option maxRecDepth 20000 in
theorem ggX4_settles_X4_putBack : GoodIn wsX4_settles wsX4_putBack := goodIn_r _ [64, 2, 1, 3, 4, 5, 6, 76, 77, 78, 79, 80, 81, 82, 83, 84, 85, 86, 87, 88, 89, 90, 91, 92, 93, 94, 95, 96, 97, 98, 99] (by decide +kernel) (by decide +kernel)
set_option maxRecDepth 20000 in
theorem gX4_settles_X4_putBack : GoodIn wsX4_settles (wsV RX4 197 RX4 yX4_putBack wsX4_putBack) := goodIn_app (goodIn_of _ (by decide +kernel)) ggX4_settles_X4_putBack
set_option maxRecDepth 20000 in
theorem ggX4_settles_X4_orNone : GoodIn wsX4_settles wsX4_orNone := goodIn_r _ [68, 69, 70, 71, 72, 5, 73, 74, 75, 76, 77, 78, 79, 80, 81, 82, 83, 84, 85, 86, 87, 88, 89, 90, 91, 92, 93, 94, 95, 96, 97, 98, 99] (by decide +kernel) (by decide +kernel)
set_option maxRecDepth 20000 in
theorem gX4_settles_X4_orNone : GoodIn wsX4_settles (wsV RX4 203 RX4 yX4_orNone wsX4_orNone) := goodIn_app (goodIn_of _ (by decide +kernel)) ggX4_settles_X4_orNone
theorem dX4_settles_0 : decode cX4_settles 0 = .ok (.aload_n 0, 1) := by decide +kernel
theorem dX4_settles_1 : decode cX4_settles 1 = .ok (.getfield 9, 3) := by decide +kernel
theorem dX4_settles_4 : decode cX4_settles 4 = .ok (.aload_n 0, 1) := by decide +kernel
theorem dX4_settles_5 : decode cX4_settles 5 = .ok (.getfield 16, 3) := by decide +kernel
theorem dX4_settles_8 : decode cX4_settles 8 = .ok (.invokestatic 73, 3) := by decide +kernel
theorem dX4_settles_11 : decode cX4_settles 11 = .ok (.iconst 0, 1) := by decide +kernel
theorem dX4_settles_12 : decode cX4_settles 12 = .ok (.istore_n 1, 1) := by decide +kernel
theorem dX4_settles_13 : decode cX4_settles 13 = .ok (.iload_n 1, 1) := by decide +kernel
theorem dX4_settles_14 : decode cX4_settles 14 = .ok (.bipush 40, 2) := by decide +kernel
theorem dX4_settles_16 : decode cX4_settles 16 = .ok (.if_icmp .gt 16, 3) := by decide +kernel
theorem dX4_settles_19 : decode cX4_settles 19 = .ok (.aload_n 0, 1) := by decide +kernel
theorem dX4_settles_20 : decode cX4_settles 20 = .ok (.invokevirtual 206, 3) := by decide +kernel
theorem dX4_settles_23 : decode cX4_settles 23 = .ok (.ifCond .ne 9, 3) := by decide +kernel
theorem dX4_settles_26 : decode cX4_settles 26 = .ok (.iinc 1 1, 3) := by decide +kernel
theorem dX4_settles_29 : decode cX4_settles 29 = .ok (.goto (-16), 3) := by decide +kernel
theorem dX4_settles_32 : decode cX4_settles 32 = .ok (.aload_n 0, 1) := by decide +kernel
theorem dX4_settles_33 : decode cX4_settles 33 = .ok (.aload_n 0, 1) := by decide +kernel
theorem dX4_settles_34 : decode cX4_settles 34 = .ok (.iload_n 1, 1) := by decide +kernel
theorem dX4_settles_35 : decode cX4_settles 35 = .ok (.bipush 40, 2) := by decide +kernel
theorem dX4_settles_37 : decode cX4_settles 37 = .ok (.if_icmp .gt 7, 3) := by decide +kernel
theorem dX4_settles_40 : decode cX4_settles 40 = .ok (.iload_n 1, 1) := by decide +kernel
theorem dX4_settles_41 : decode cX4_settles 41 = .ok (.goto 4, 3) := by decide +kernel
theorem dX4_settles_44 : decode cX4_settles 44 = .ok (.iconst (-1), 1) := by decide +kernel
theorem dX4_settles_45 : decode cX4_settles 45 = .ok (.invokevirtual 197, 3) := by decide +kernel
theorem dX4_settles_48 : decode cX4_settles 48 = .ok (.invokevirtual 203, 3) := by decide +kernel
theorem dX4_settles_51 : decode cX4_settles 51 = .ok (.ireturn, 1) := by decide +kernel
set_option maxRecDepth 20000 in
theorem ggX4_best_X4_playerIs : GoodIn wsX4_best wsX4_playerIs := goodIn_r _ [10, 1, 11, 12, 9, 13, 68, 69, 70, 71, 72, 73, 74, 75, 76, 77, 78, 79, 80, 81, 82, 83, 84, 85, 86, 87, 88, 89, 90, 91] (by decide +kernel) (by decide +kernel)
set_option maxRecDepth 20000 in
theorem gX4_best_X4_playerIs : GoodIn wsX4_best (wsV RX4 100 RX4 yX4_playerIs wsX4_playerIs) := goodIn_app (goodIn_of _ (by decide +kernel)) ggX4_best_X4_playerIs
set_option maxRecDepth 20000 in
theorem ggX4_best_X4_at : GoodIn wsX4_best wsX4_at := goodIn_r _ [13] (by decide +kernel) (by decide +kernel)
set_option maxRecDepth 20000 in
theorem gX4_best_X4_at : GoodIn wsX4_best (va_wsS RX4 86 yX4_at wsX4_at) := goodIn_app (goodIn_of _ (by decide +kernel)) ggX4_best_X4_at
set_option maxRecDepth 20000 in
theorem ggX4_best_X4_nerveBehind : GoodIn wsX4_best wsX4_nerveBehind := goodIn_r _ [17, 1, 18, 19, 20, 9, 21, 22, 23, 24, 25, 26, 27, 28, 29, 30, 31, 32, 33, 34, 35, 36, 4, 37, 2, 3, 5, 38, 39, 40, 41, 6, 7, 8, 10, 11, 12, 13, 42, 43, 44, 45, 46, 47, 48, 49, 50, 51, 52, 53, 54, 55, 56, 57, 58, 59, 60, 61, 62, 63, 64, 65, 66, 67, 68, 69, 70, 71, 72, 73, 74, 75, 76, 77, 78, 79, 80, 81, 82, 83, 84, 85, 86, 87, 88, 89, 90, 91] (by decide +kernel) (by decide +kernel)
set_option maxRecDepth 20000 in
theorem gX4_best_X4_nerveBehind : GoodIn wsX4_best (wsV RX4 200 RX4 yX4_nerveBehind wsX4_nerveBehind) := goodIn_app (goodIn_of _ (by decide +kernel)) ggX4_best_X4_nerveBehind
theorem dX4_best_0 : decode cX4_best 0 = .ok (.aload_n 0, 1) := by decide +kernel
theorem dX4_best_1 : decode cX4_best 1 = .ok (.iload_n 1, 1) := by decide +kernel
theorem dX4_best_2 : decode cX4_best 2 = .ok (.iload_n 2, 1) := by decide +kernel
theorem dX4_best_3 : decode cX4_best 3 = .ok (.invokevirtual 100, 3) := by decide +kernel
theorem dX4_best_6 : decode cX4_best 6 = .ok (.istore 5, 2) := by decide +kernel
theorem dX4_best_8 : decode cX4_best 8 = .ok (.iconst 0, 1) := by decide +kernel
theorem dX4_best_9 : decode cX4_best 9 = .ok (.istore 6, 2) := by decide +kernel
theorem dX4_best_11 : decode cX4_best 11 = .ok (.iconst (-1), 1) := by decide +kernel
theorem dX4_best_12 : decode cX4_best 12 = .ok (.istore 7, 2) := by decide +kernel
theorem dX4_best_14 : decode cX4_best 14 = .ok (.iconst 0, 1) := by decide +kernel
theorem dX4_best_15 : decode cX4_best 15 = .ok (.istore 8, 2) := by decide +kernel
theorem dX4_best_17 : decode cX4_best 17 = .ok (.iload 8, 2) := by decide +kernel
theorem dX4_best_19 : decode cX4_best 19 = .ok (.iload_n 3, 1) := by decide +kernel
theorem dX4_best_20 : decode cX4_best 20 = .ok (.if_icmp .ge 55, 3) := by decide +kernel
theorem dX4_best_23 : decode cX4_best 23 = .ok (.aload_n 0, 1) := by decide +kernel
theorem dX4_best_24 : decode cX4_best 24 = .ok (.getfield 9, 3) := by decide +kernel
theorem dX4_best_27 : decode cX4_best 27 = .ok (.iload_n 1, 1) := by decide +kernel
theorem dX4_best_28 : decode cX4_best 28 = .ok (.iload_n 2, 1) := by decide +kernel
theorem dX4_best_29 : decode cX4_best 29 = .ok (.invokestatic 86, 3) := by decide +kernel
theorem dX4_best_32 : decode cX4_best 32 = .ok (.iload 8, 2) := by decide +kernel
theorem dX4_best_34 : decode cX4_best 34 = .ok (.iastore, 1) := by decide +kernel
theorem dX4_best_35 : decode cX4_best 35 = .ok (.aload_n 0, 1) := by decide +kernel
theorem dX4_best_36 : decode cX4_best 36 = .ok (.iload_n 1, 1) := by decide +kernel
theorem dX4_best_37 : decode cX4_best 37 = .ok (.iload 4, 2) := by decide +kernel
theorem dX4_best_39 : decode cX4_best 39 = .ok (.invokevirtual 200, 3) := by decide +kernel
theorem dX4_best_42 : decode cX4_best 42 = .ok (.istore 9, 2) := by decide +kernel
theorem dX4_best_44 : decode cX4_best 44 = .ok (.iload 9, 2) := by decide +kernel
theorem dX4_best_46 : decode cX4_best 46 = .ok (.iload 7, 2) := by decide +kernel
theorem dX4_best_48 : decode cX4_best 48 = .ok (.if_icmp .le 8, 3) := by decide +kernel
theorem dX4_best_51 : decode cX4_best 51 = .ok (.iload 8, 2) := by decide +kernel
theorem dX4_best_53 : decode cX4_best 53 = .ok (.goto 5, 3) := by decide +kernel
theorem dX4_best_56 : decode cX4_best 56 = .ok (.iload 6, 2) := by decide +kernel
theorem dX4_best_58 : decode cX4_best 58 = .ok (.istore 6, 2) := by decide +kernel
theorem dX4_best_60 : decode cX4_best 60 = .ok (.iload 7, 2) := by decide +kernel
theorem dX4_best_62 : decode cX4_best 62 = .ok (.iload 9, 2) := by decide +kernel
theorem dX4_best_64 : decode cX4_best 64 = .ok (.invokestatic 118, 3) := by decide +kernel
theorem dX4_best_67 : decode cX4_best 67 = .ok (.istore 7, 2) := by decide +kernel
theorem dX4_best_69 : decode cX4_best 69 = .ok (.iinc 8 1, 3) := by decide +kernel
theorem dX4_best_72 : decode cX4_best 72 = .ok (.goto (-55), 3) := by decide +kernel
theorem dX4_best_75 : decode cX4_best 75 = .ok (.aload_n 0, 1) := by decide +kernel
theorem dX4_best_76 : decode cX4_best 76 = .ok (.getfield 9, 3) := by decide +kernel
theorem dX4_best_79 : decode cX4_best 79 = .ok (.iload_n 1, 1) := by decide +kernel
theorem dX4_best_80 : decode cX4_best 80 = .ok (.iload_n 2, 1) := by decide +kernel
theorem dX4_best_81 : decode cX4_best 81 = .ok (.invokestatic 86, 3) := by decide +kernel
theorem dX4_best_84 : decode cX4_best 84 = .ok (.iload 5, 2) := by decide +kernel
theorem dX4_best_86 : decode cX4_best 86 = .ok (.iastore, 1) := by decide +kernel
theorem dX4_best_87 : decode cX4_best 87 = .ok (.iload 6, 2) := by decide +kernel
theorem dX4_best_89 : decode cX4_best 89 = .ok (.ireturn, 1) := by decide +kernel
set_option maxRecDepth 20000 in
theorem ggX4_kindFor_X4_isPlayer : GoodIn wsX4_kindFor wsX4_isPlayer := goodIn_r _ [6, 7, 8, 9, 5, 10, 85, 86, 87, 88, 89, 90, 91, 92, 93, 94, 95, 96, 97, 98, 99, 100, 101, 102, 103, 104, 105, 106, 107, 108] (by decide +kernel) (by decide +kernel)
set_option maxRecDepth 20000 in
theorem gX4_kindFor_X4_isPlayer : GoodIn wsX4_kindFor (wsV RX4 152 RX4 yX4_isPlayer wsX4_isPlayer) := goodIn_app (goodIn_of _ (by decide +kernel)) ggX4_kindFor_X4_isPlayer
set_option maxRecDepth 20000 in
theorem ggX4_kindFor_X4_within : GoodIn wsX4_kindFor wsX4_within := goodIn_r _ [10] (by decide +kernel) (by decide +kernel)
set_option maxRecDepth 20000 in
theorem gX4_kindFor_X4_within : GoodIn wsX4_kindFor (va_wsS RX4 82 yX4_within wsX4_within) := goodIn_app (goodIn_of _ (by decide +kernel)) ggX4_kindFor_X4_within
set_option maxRecDepth 20000 in
theorem ggX4_kindFor_X4_best : GoodIn wsX4_kindFor wsX4_best := goodIn_r _ [14, 7, 15, 16, 17, 18, 19, 20, 21, 5, 22, 23, 24, 25, 26, 27, 28, 29, 30, 31, 32, 33, 34, 35, 36, 37, 38, 39, 40, 41, 42, 43, 44, 45, 46, 47, 48, 49, 50, 51, 52, 53, 54, 55, 56, 57, 58, 59, 60, 61, 62, 63, 64, 65, 66, 67, 68, 69, 70, 71, 72, 73, 74, 75, 76, 77, 78, 79, 85, 86, 87, 88, 89, 90, 91, 92, 93, 94, 95, 96, 97, 98, 99, 100, 101, 102, 103, 104, 105, 106, 107, 108] (by decide +kernel) (by decide +kernel)
set_option maxRecDepth 20000 in
theorem gX4_kindFor_X4_best : GoodIn wsX4_kindFor (wsV RX4 210 RX4 yX4_best wsX4_best) := goodIn_app (goodIn_of _ (by decide +kernel)) ggX4_kindFor_X4_best
set_option maxRecDepth 20000 in
theorem ggX4_kindFor_X4_finding : GoodIn wsX4_kindFor wsX4_finding := goodIn_r _ [83, 84, 1, 85, 86, 87, 88, 89, 90, 91, 92, 93, 94, 95, 96, 97, 98, 99, 100, 101, 102, 103, 104, 105, 106, 107, 108] (by decide +kernel) (by decide +kernel)
set_option maxRecDepth 20000 in
theorem gX4_kindFor_X4_finding : GoodIn wsX4_kindFor (wsV RX4 78 RX4 yX4_finding wsX4_finding) := goodIn_app (goodIn_of _ (by decide +kernel)) ggX4_kindFor_X4_finding
theorem dX4_kindFor_0 : decode cX4_kindFor 0 = .ok (.aload_n 0, 1) := by decide +kernel
theorem dX4_kindFor_1 : decode cX4_kindFor 1 = .ok (.iload_n 1, 1) := by decide +kernel
theorem dX4_kindFor_2 : decode cX4_kindFor 2 = .ok (.invokevirtual 152, 3) := by decide +kernel
theorem dX4_kindFor_5 : decode cX4_kindFor 5 = .ok (.ifCond .eq 25, 3) := by decide +kernel
theorem dX4_kindFor_8 : decode cX4_kindFor 8 = .ok (.iload_n 2, 1) := by decide +kernel
theorem dX4_kindFor_9 : decode cX4_kindFor 9 = .ok (.iconst 0, 1) := by decide +kernel
theorem dX4_kindFor_10 : decode cX4_kindFor 10 = .ok (.bipush 20, 2) := by decide +kernel
theorem dX4_kindFor_12 : decode cX4_kindFor 12 = .ok (.invokestatic 82, 3) := by decide +kernel
theorem dX4_kindFor_15 : decode cX4_kindFor 15 = .ok (.ifCond .eq 15, 3) := by decide +kernel
theorem dX4_kindFor_18 : decode cX4_kindFor 18 = .ok (.aload_n 0, 1) := by decide +kernel
theorem dX4_kindFor_19 : decode cX4_kindFor 19 = .ok (.iload_n 1, 1) := by decide +kernel
theorem dX4_kindFor_20 : decode cX4_kindFor 20 = .ok (.iconst 0, 1) := by decide +kernel
theorem dX4_kindFor_21 : decode cX4_kindFor 21 = .ok (.bipush 7, 2) := by decide +kernel
theorem dX4_kindFor_23 : decode cX4_kindFor 23 = .ok (.iload_n 2, 1) := by decide +kernel
theorem dX4_kindFor_24 : decode cX4_kindFor 24 = .ok (.invokevirtual 210, 3) := by decide +kernel
theorem dX4_kindFor_27 : decode cX4_kindFor 27 = .ok (.goto 9, 3) := by decide +kernel
theorem dX4_kindFor_30 : decode cX4_kindFor 30 = .ok (.aload_n 0, 1) := by decide +kernel
theorem dX4_kindFor_31 : decode cX4_kindFor 31 = .ok (.ldc 72, 2) := by decide +kernel
theorem dX4_kindFor_33 : decode cX4_kindFor 33 = .ok (.invokevirtual 78, 3) := by decide +kernel
theorem dX4_kindFor_36 : decode cX4_kindFor 36 = .ok (.ireturn, 1) := by decide +kernel
set_option maxRecDepth 20000 in
theorem ggX4_seatFor_X4_isPlayer : GoodIn wsX4_seatFor wsX4_isPlayer := goodIn_r _ [6, 7, 8, 9, 5, 10, 85, 86, 87, 88, 89, 90, 91, 92, 93, 94, 95, 96, 97, 98, 99, 100, 101, 102, 103, 104, 105, 106, 107, 108] (by decide +kernel) (by decide +kernel)
set_option maxRecDepth 20000 in
theorem gX4_seatFor_X4_isPlayer : GoodIn wsX4_seatFor (wsV RX4 152 RX4 yX4_isPlayer wsX4_isPlayer) := goodIn_app (goodIn_of _ (by decide +kernel)) ggX4_seatFor_X4_isPlayer
set_option maxRecDepth 20000 in
theorem ggX4_seatFor_X4_within : GoodIn wsX4_seatFor wsX4_within := goodIn_r _ [10] (by decide +kernel) (by decide +kernel)
set_option maxRecDepth 20000 in
theorem gX4_seatFor_X4_within : GoodIn wsX4_seatFor (va_wsS RX4 82 yX4_within wsX4_within) := goodIn_app (goodIn_of _ (by decide +kernel)) ggX4_seatFor_X4_within
set_option maxRecDepth 20000 in
theorem ggX4_seatFor_X4_best : GoodIn wsX4_seatFor wsX4_best := goodIn_r _ [14, 7, 15, 16, 17, 18, 19, 20, 21, 5, 22, 23, 24, 25, 26, 27, 28, 29, 30, 31, 32, 33, 34, 35, 36, 37, 38, 39, 40, 41, 42, 43, 44, 45, 46, 47, 48, 49, 50, 51, 52, 53, 54, 55, 56, 57, 58, 59, 60, 61, 62, 63, 64, 65, 66, 67, 68, 69, 70, 71, 72, 73, 74, 75, 76, 77, 78, 79, 85, 86, 87, 88, 89, 90, 91, 92, 93, 94, 95, 96, 97, 98, 99, 100, 101, 102, 103, 104, 105, 106, 107, 108] (by decide +kernel) (by decide +kernel)
set_option maxRecDepth 20000 in
theorem gX4_seatFor_X4_best : GoodIn wsX4_seatFor (wsV RX4 210 RX4 yX4_best wsX4_best) := goodIn_app (goodIn_of _ (by decide +kernel)) ggX4_seatFor_X4_best
set_option maxRecDepth 20000 in
theorem ggX4_seatFor_X4_finding : GoodIn wsX4_seatFor wsX4_finding := goodIn_r _ [83, 84, 1, 85, 86, 87, 88, 89, 90, 91, 92, 93, 94, 95, 96, 97, 98, 99, 100, 101, 102, 103, 104, 105, 106, 107, 108] (by decide +kernel) (by decide +kernel)
set_option maxRecDepth 20000 in
theorem gX4_seatFor_X4_finding : GoodIn wsX4_seatFor (wsV RX4 78 RX4 yX4_finding wsX4_finding) := goodIn_app (goodIn_of _ (by decide +kernel)) ggX4_seatFor_X4_finding
theorem dX4_seatFor_0 : decode cX4_seatFor 0 = .ok (.aload_n 0, 1) := by decide +kernel
theorem dX4_seatFor_1 : decode cX4_seatFor 1 = .ok (.iload_n 1, 1) := by decide +kernel
theorem dX4_seatFor_2 : decode cX4_seatFor 2 = .ok (.invokevirtual 152, 3) := by decide +kernel
theorem dX4_seatFor_5 : decode cX4_seatFor 5 = .ok (.ifCond .eq 25, 3) := by decide +kernel
theorem dX4_seatFor_8 : decode cX4_seatFor 8 = .ok (.iload_n 2, 1) := by decide +kernel
theorem dX4_seatFor_9 : decode cX4_seatFor 9 = .ok (.iconst 0, 1) := by decide +kernel
theorem dX4_seatFor_10 : decode cX4_seatFor 10 = .ok (.bipush 20, 2) := by decide +kernel
theorem dX4_seatFor_12 : decode cX4_seatFor 12 = .ok (.invokestatic 82, 3) := by decide +kernel
theorem dX4_seatFor_15 : decode cX4_seatFor 15 = .ok (.ifCond .eq 15, 3) := by decide +kernel
theorem dX4_seatFor_18 : decode cX4_seatFor 18 = .ok (.aload_n 0, 1) := by decide +kernel
theorem dX4_seatFor_19 : decode cX4_seatFor 19 = .ok (.iload_n 1, 1) := by decide +kernel
theorem dX4_seatFor_20 : decode cX4_seatFor 20 = .ok (.iconst 1, 1) := by decide +kernel
theorem dX4_seatFor_21 : decode cX4_seatFor 21 = .ok (.bipush 16, 2) := by decide +kernel
theorem dX4_seatFor_23 : decode cX4_seatFor 23 = .ok (.iload_n 2, 1) := by decide +kernel
theorem dX4_seatFor_24 : decode cX4_seatFor 24 = .ok (.invokevirtual 210, 3) := by decide +kernel
theorem dX4_seatFor_27 : decode cX4_seatFor 27 = .ok (.goto 9, 3) := by decide +kernel
theorem dX4_seatFor_30 : decode cX4_seatFor 30 = .ok (.aload_n 0, 1) := by decide +kernel
theorem dX4_seatFor_31 : decode cX4_seatFor 31 = .ok (.ldc 72, 2) := by decide +kernel
theorem dX4_seatFor_33 : decode cX4_seatFor 33 = .ok (.invokevirtual 78, 3) := by decide +kernel
theorem dX4_seatFor_36 : decode cX4_seatFor 36 = .ok (.ireturn, 1) := by decide +kernel
set_option maxRecDepth 20000 in
theorem ggX4_hearAll_X4_everybody : GoodIn wsX4_hearAll wsX4_everybody := goodIn_r _ [6, 7, 41, 42, 43, 44, 45, 46, 47, 48, 49, 50, 51, 52, 53, 54, 55, 56, 57, 58, 59, 60, 61, 62, 63, 64] (by decide +kernel) (by decide +kernel)
set_option maxRecDepth 20000 in
theorem gX4_hearAll_X4_everybody : GoodIn wsX4_hearAll (wsV RX4 128 RX4 yX4_everybody wsX4_everybody) := goodIn_app (goodIn_of _ (by decide +kernel)) ggX4_hearAll_X4_everybody
set_option maxRecDepth 20000 in
theorem ggX4_hearAll_X4_heardOf : GoodIn wsX4_hearAll wsX4_heardOf := goodIn_r _ [11, 7, 12, 13, 14, 15, 16, 17, 5, 18, 19, 20, 21, 22, 23, 24, 25, 26, 27, 28, 29, 30, 31, 32, 33, 34, 35, 36, 37, 38, 39, 40, 41, 42, 43, 44, 45, 46, 47, 48, 49, 50, 51, 52, 53, 54, 55, 56, 57, 58, 59, 60, 61, 62, 63, 64] (by decide +kernel) (by decide +kernel)
set_option maxRecDepth 20000 in
theorem gX4_hearAll_X4_heardOf : GoodIn wsX4_hearAll (wsV RX4 132 RX4 yX4_heardOf wsX4_heardOf) := goodIn_app (goodIn_of _ (by decide +kernel)) ggX4_hearAll_X4_heardOf
theorem dX4_hearAll_0 : decode cX4_hearAll 0 = .ok (.iconst 0, 1) := by decide +kernel
theorem dX4_hearAll_1 : decode cX4_hearAll 1 = .ok (.istore_n 1, 1) := by decide +kernel
theorem dX4_hearAll_2 : decode cX4_hearAll 2 = .ok (.iload_n 1, 1) := by decide +kernel
theorem dX4_hearAll_3 : decode cX4_hearAll 3 = .ok (.bipush 12, 2) := by decide +kernel
theorem dX4_hearAll_5 : decode cX4_hearAll 5 = .ok (.if_icmp .ge 44, 3) := by decide +kernel
theorem dX4_hearAll_8 : decode cX4_hearAll 8 = .ok (.iconst 0, 1) := by decide +kernel
theorem dX4_hearAll_9 : decode cX4_hearAll 9 = .ok (.istore_n 2, 1) := by decide +kernel
theorem dX4_hearAll_10 : decode cX4_hearAll 10 = .ok (.iload_n 2, 1) := by decide +kernel
theorem dX4_hearAll_11 : decode cX4_hearAll 11 = .ok (.bipush 16, 2) := by decide +kernel
theorem dX4_hearAll_13 : decode cX4_hearAll 13 = .ok (.if_icmp .ge 30, 3) := by decide +kernel
theorem dX4_hearAll_16 : decode cX4_hearAll 16 = .ok (.aload_n 0, 1) := by decide +kernel
theorem dX4_hearAll_17 : decode cX4_hearAll 17 = .ok (.getfield 25, 3) := by decide +kernel
theorem dX4_hearAll_20 : decode cX4_hearAll 20 = .ok (.bipush 16, 2) := by decide +kernel
theorem dX4_hearAll_22 : decode cX4_hearAll 22 = .ok (.iload_n 1, 1) := by decide +kernel
theorem dX4_hearAll_23 : decode cX4_hearAll 23 = .ok (.imul, 1) := by decide +kernel
theorem dX4_hearAll_24 : decode cX4_hearAll 24 = .ok (.iload_n 2, 1) := by decide +kernel
theorem dX4_hearAll_25 : decode cX4_hearAll 25 = .ok (.iadd, 1) := by decide +kernel
theorem dX4_hearAll_26 : decode cX4_hearAll 26 = .ok (.aload_n 0, 1) := by decide +kernel
theorem dX4_hearAll_27 : decode cX4_hearAll 27 = .ok (.aload_n 0, 1) := by decide +kernel
theorem dX4_hearAll_28 : decode cX4_hearAll 28 = .ok (.invokevirtual 128, 3) := by decide +kernel
theorem dX4_hearAll_31 : decode cX4_hearAll 31 = .ok (.iload_n 2, 1) := by decide +kernel
theorem dX4_hearAll_32 : decode cX4_hearAll 32 = .ok (.iload_n 1, 1) := by decide +kernel
theorem dX4_hearAll_33 : decode cX4_hearAll 33 = .ok (.invokevirtual 132, 3) := by decide +kernel
theorem dX4_hearAll_36 : decode cX4_hearAll 36 = .ok (.iastore, 1) := by decide +kernel
theorem dX4_hearAll_37 : decode cX4_hearAll 37 = .ok (.iinc 2 1, 3) := by decide +kernel
theorem dX4_hearAll_40 : decode cX4_hearAll 40 = .ok (.goto (-30), 3) := by decide +kernel
theorem dX4_hearAll_43 : decode cX4_hearAll 43 = .ok (.iinc 1 1, 3) := by decide +kernel
theorem dX4_hearAll_46 : decode cX4_hearAll 46 = .ok (.goto (-44), 3) := by decide +kernel
theorem dX4_hearAll_49 : decode cX4_hearAll 49 = .ok (.return_, 1) := by decide +kernel
set_option maxRecDepth 20000 in
theorem ggX4_lessBy_X4_heardOf : GoodIn wsX4_lessBy wsX4_heardOf := goodIn_r _ [6, 7, 8, 9, 10, 11, 12, 13, 5, 14, 15, 16, 17, 18, 19, 20, 21, 22, 23, 24, 25, 26, 27, 28, 29, 30, 31, 32, 33, 34, 35, 36, 37, 38, 39, 40, 41, 42, 43, 44, 45, 46, 47, 48, 49, 50, 51, 52, 53, 54, 55, 56, 57, 58, 59, 60] (by decide +kernel) (by decide +kernel)
set_option maxRecDepth 20000 in
theorem gX4_lessBy_X4_heardOf : GoodIn wsX4_lessBy (wsV RX4 132 RX4 yX4_heardOf wsX4_heardOf) := goodIn_app (goodIn_of _ (by decide +kernel)) ggX4_lessBy_X4_heardOf
theorem dX4_lessBy_0 : decode cX4_lessBy 0 = .ok (.iconst 0, 1) := by decide +kernel
theorem dX4_lessBy_1 : decode cX4_lessBy 1 = .ok (.istore_n 2, 1) := by decide +kernel
theorem dX4_lessBy_2 : decode cX4_lessBy 2 = .ok (.iconst 0, 1) := by decide +kernel
theorem dX4_lessBy_3 : decode cX4_lessBy 3 = .ok (.istore_n 3, 1) := by decide +kernel
theorem dX4_lessBy_4 : decode cX4_lessBy 4 = .ok (.iload_n 3, 1) := by decide +kernel
theorem dX4_lessBy_5 : decode cX4_lessBy 5 = .ok (.bipush 12, 2) := by decide +kernel
theorem dX4_lessBy_7 : decode cX4_lessBy 7 = .ok (.if_icmp .ge 56, 3) := by decide +kernel
theorem dX4_lessBy_10 : decode cX4_lessBy 10 = .ok (.iconst 0, 1) := by decide +kernel
theorem dX4_lessBy_11 : decode cX4_lessBy 11 = .ok (.istore 4, 2) := by decide +kernel
theorem dX4_lessBy_13 : decode cX4_lessBy 13 = .ok (.iload 4, 2) := by decide +kernel
theorem dX4_lessBy_15 : decode cX4_lessBy 15 = .ok (.bipush 16, 2) := by decide +kernel
theorem dX4_lessBy_17 : decode cX4_lessBy 17 = .ok (.if_icmp .ge 40, 3) := by decide +kernel
theorem dX4_lessBy_20 : decode cX4_lessBy 20 = .ok (.iload_n 2, 1) := by decide +kernel
theorem dX4_lessBy_21 : decode cX4_lessBy 21 = .ok (.aload_n 0, 1) := by decide +kernel
theorem dX4_lessBy_22 : decode cX4_lessBy 22 = .ok (.iload_n 1, 1) := by decide +kernel
theorem dX4_lessBy_23 : decode cX4_lessBy 23 = .ok (.iload 4, 2) := by decide +kernel
theorem dX4_lessBy_25 : decode cX4_lessBy 25 = .ok (.iload_n 3, 1) := by decide +kernel
theorem dX4_lessBy_26 : decode cX4_lessBy 26 = .ok (.invokevirtual 132, 3) := by decide +kernel
theorem dX4_lessBy_29 : decode cX4_lessBy 29 = .ok (.aload_n 0, 1) := by decide +kernel
theorem dX4_lessBy_30 : decode cX4_lessBy 30 = .ok (.getfield 25, 3) := by decide +kernel
theorem dX4_lessBy_33 : decode cX4_lessBy 33 = .ok (.bipush 16, 2) := by decide +kernel
theorem dX4_lessBy_35 : decode cX4_lessBy 35 = .ok (.iload_n 3, 1) := by decide +kernel
theorem dX4_lessBy_36 : decode cX4_lessBy 36 = .ok (.imul, 1) := by decide +kernel
theorem dX4_lessBy_37 : decode cX4_lessBy 37 = .ok (.iload 4, 2) := by decide +kernel
theorem dX4_lessBy_39 : decode cX4_lessBy 39 = .ok (.iadd, 1) := by decide +kernel
theorem dX4_lessBy_40 : decode cX4_lessBy 40 = .ok (.iaload, 1) := by decide +kernel
theorem dX4_lessBy_41 : decode cX4_lessBy 41 = .ok (.if_icmp .ge 7, 3) := by decide +kernel
theorem dX4_lessBy_44 : decode cX4_lessBy 44 = .ok (.iconst 1, 1) := by decide +kernel
theorem dX4_lessBy_45 : decode cX4_lessBy 45 = .ok (.goto 4, 3) := by decide +kernel
theorem dX4_lessBy_48 : decode cX4_lessBy 48 = .ok (.iconst 0, 1) := by decide +kernel
theorem dX4_lessBy_49 : decode cX4_lessBy 49 = .ok (.iadd, 1) := by decide +kernel
theorem dX4_lessBy_50 : decode cX4_lessBy 50 = .ok (.istore_n 2, 1) := by decide +kernel
theorem dX4_lessBy_51 : decode cX4_lessBy 51 = .ok (.iinc 4 1, 3) := by decide +kernel
theorem dX4_lessBy_54 : decode cX4_lessBy 54 = .ok (.goto (-41), 3) := by decide +kernel
theorem dX4_lessBy_57 : decode cX4_lessBy 57 = .ok (.iinc 3 1, 3) := by decide +kernel
theorem dX4_lessBy_60 : decode cX4_lessBy 60 = .ok (.goto (-56), 3) := by decide +kernel
theorem dX4_lessBy_63 : decode cX4_lessBy 63 = .ok (.iload_n 2, 1) := by decide +kernel
theorem dX4_lessBy_64 : decode cX4_lessBy 64 = .ok (.ireturn, 1) := by decide +kernel
set_option maxRecDepth 20000 in
theorem ggX4_spare_X4_hearAll : GoodIn wsX4_spare wsX4_hearAll := goodIn_r _ [6, 7, 8, 9, 10, 5, 11, 1, 12, 13, 14, 15, 16, 17, 18, 19, 20, 21, 22, 23, 24, 25, 26, 27, 28, 29, 30, 31, 32, 33, 34, 35, 36, 37, 38, 39, 40, 41, 42, 43, 44, 49, 50, 51, 52, 53, 54, 55, 56, 57, 58, 59, 60, 61, 62, 63, 64, 65, 66, 67, 68, 69, 70, 71, 72] (by decide +kernel) (by decide +kernel)
set_option maxRecDepth 20000 in
theorem gX4_spare_X4_hearAll : GoodIn wsX4_spare (wsV RX4 214 RX4 yX4_hearAll wsX4_hearAll) := goodIn_app (goodIn_of _ (by decide +kernel)) ggX4_spare_X4_hearAll
set_option maxRecDepth 20000 in
theorem ggX4_spare_X4_everybody : GoodIn wsX4_spare wsX4_everybody := goodIn_r _ [11, 1, 49, 50, 51, 52, 53, 54, 55, 56, 57, 58, 59, 60, 61, 62, 63, 64, 65, 66, 67, 68, 69, 70, 71, 72] (by decide +kernel) (by decide +kernel)
set_option maxRecDepth 20000 in
theorem gX4_spare_X4_everybody : GoodIn wsX4_spare (wsV RX4 128 RX4 yX4_everybody wsX4_everybody) := goodIn_app (goodIn_of _ (by decide +kernel)) ggX4_spare_X4_everybody
set_option maxRecDepth 20000 in
theorem ggX4_spare_X4_lessBy : GoodIn wsX4_spare wsX4_lessBy := goodIn_r _ [48, 7, 12, 13, 14, 5, 15, 1, 16, 17, 18, 19, 20, 21, 22, 23, 24, 25, 26, 27, 28, 29, 30, 31, 32, 33, 34, 35, 36, 37, 38, 39, 40, 41, 42, 43, 44, 49, 50, 51, 52, 53, 54, 55, 56, 57, 58, 59, 60, 61, 62, 63, 64, 65, 66, 67, 68, 69, 70, 71, 72] (by decide +kernel) (by decide +kernel)
set_option maxRecDepth 20000 in
theorem gX4_spare_X4_lessBy : GoodIn wsX4_spare (wsV RX4 217 RX4 yX4_lessBy wsX4_lessBy) := goodIn_app (goodIn_of _ (by decide +kernel)) ggX4_spare_X4_lessBy
theorem dX4_spare_0 : decode cX4_spare 0 = .ok (.aload_n 0, 1) := by decide +kernel
theorem dX4_spare_1 : decode cX4_spare 1 = .ok (.invokevirtual 214, 3) := by decide +kernel
theorem dX4_spare_4 : decode cX4_spare 4 = .ok (.iconst 0, 1) := by decide +kernel
theorem dX4_spare_5 : decode cX4_spare 5 = .ok (.istore_n 1, 1) := by decide +kernel
theorem dX4_spare_6 : decode cX4_spare 6 = .ok (.iconst 0, 1) := by decide +kernel
theorem dX4_spare_7 : decode cX4_spare 7 = .ok (.istore_n 2, 1) := by decide +kernel
theorem dX4_spare_8 : decode cX4_spare 8 = .ok (.iload_n 2, 1) := by decide +kernel
theorem dX4_spare_9 : decode cX4_spare 9 = .ok (.aload_n 0, 1) := by decide +kernel
theorem dX4_spare_10 : decode cX4_spare 10 = .ok (.getfield 9, 3) := by decide +kernel
theorem dX4_spare_13 : decode cX4_spare 13 = .ok (.iconst 1, 1) := by decide +kernel
theorem dX4_spare_14 : decode cX4_spare 14 = .ok (.iaload, 1) := by decide +kernel
theorem dX4_spare_15 : decode cX4_spare 15 = .ok (.if_icmp .ge 36, 3) := by decide +kernel
theorem dX4_spare_18 : decode cX4_spare 18 = .ok (.iload_n 1, 1) := by decide +kernel
theorem dX4_spare_19 : decode cX4_spare 19 = .ok (.aload_n 0, 1) := by decide +kernel
theorem dX4_spare_20 : decode cX4_spare 20 = .ok (.aload_n 0, 1) := by decide +kernel
theorem dX4_spare_21 : decode cX4_spare 21 = .ok (.invokevirtual 128, 3) := by decide +kernel
theorem dX4_spare_24 : decode cX4_spare 24 = .ok (.iconst 1, 1) := by decide +kernel
theorem dX4_spare_25 : decode cX4_spare 25 = .ok (.iload_n 2, 1) := by decide +kernel
theorem dX4_spare_26 : decode cX4_spare 26 = .ok (.ishl, 1) := by decide +kernel
theorem dX4_spare_27 : decode cX4_spare 27 = .ok (.iconst (-1), 1) := by decide +kernel
theorem dX4_spare_28 : decode cX4_spare 28 = .ok (.ixor, 1) := by decide +kernel
theorem dX4_spare_29 : decode cX4_spare 29 = .ok (.iand, 1) := by decide +kernel
theorem dX4_spare_30 : decode cX4_spare 30 = .ok (.invokevirtual 217, 3) := by decide +kernel
theorem dX4_spare_33 : decode cX4_spare 33 = .ok (.ifCond .ne 9, 3) := by decide +kernel
theorem dX4_spare_36 : decode cX4_spare 36 = .ok (.iconst 1, 1) := by decide +kernel
theorem dX4_spare_37 : decode cX4_spare 37 = .ok (.iload_n 2, 1) := by decide +kernel
theorem dX4_spare_38 : decode cX4_spare 38 = .ok (.ishl, 1) := by decide +kernel
theorem dX4_spare_39 : decode cX4_spare 39 = .ok (.goto 4, 3) := by decide +kernel
theorem dX4_spare_42 : decode cX4_spare 42 = .ok (.iconst 0, 1) := by decide +kernel
theorem dX4_spare_43 : decode cX4_spare 43 = .ok (.ior, 1) := by decide +kernel
theorem dX4_spare_44 : decode cX4_spare 44 = .ok (.istore_n 1, 1) := by decide +kernel
theorem dX4_spare_45 : decode cX4_spare 45 = .ok (.iinc 2 1, 3) := by decide +kernel
theorem dX4_spare_48 : decode cX4_spare 48 = .ok (.goto (-40), 3) := by decide +kernel
theorem dX4_spare_51 : decode cX4_spare 51 = .ok (.iload_n 1, 1) := by decide +kernel
theorem dX4_spare_52 : decode cX4_spare 52 = .ok (.ireturn, 1) := by decide +kernel
set_option maxRecDepth 20000 in
theorem ggX4_fewest_X4_hearAll : GoodIn wsX4_fewest wsX4_hearAll := goodIn_r _ [5, 6, 7, 8, 9, 4, 10, 11, 12, 13, 14, 15, 16, 17, 18, 19, 20, 21, 22, 23, 24, 25, 26, 27, 28, 29, 30, 31, 32, 33, 34, 35, 36, 37, 38, 39, 40, 41, 42, 43, 44, 52, 53, 54, 55, 56, 57, 58, 59, 60, 61, 62, 63, 64, 65, 66, 67, 68, 69, 70, 71, 72, 73, 74, 75] (by decide +kernel) (by decide +kernel)
set_option maxRecDepth 20000 in
theorem gX4_fewest_X4_hearAll : GoodIn wsX4_fewest (wsV RX4 214 RX4 yX4_hearAll wsX4_hearAll) := goodIn_app (goodIn_of _ (by decide +kernel)) ggX4_fewest_X4_hearAll
set_option maxRecDepth 20000 in
theorem ggX4_fewest_X4_everybody : GoodIn wsX4_fewest wsX4_everybody := goodIn_r _ [10, 11, 52, 53, 54, 55, 56, 57, 58, 59, 60, 61, 62, 63, 64, 65, 66, 67, 68, 69, 70, 71, 72, 73, 74, 75] (by decide +kernel) (by decide +kernel)
set_option maxRecDepth 20000 in
theorem gX4_fewest_X4_everybody : GoodIn wsX4_fewest (wsV RX4 128 RX4 yX4_everybody wsX4_everybody) := goodIn_app (goodIn_of _ (by decide +kernel)) ggX4_fewest_X4_everybody
set_option maxRecDepth 20000 in
theorem ggX4_fewest_X4_bits : GoodIn wsX4_fewest wsX4_bits := goodIn_r _ [47] (by decide +kernel) (by decide +kernel)
set_option maxRecDepth 20000 in
theorem gX4_fewest_X4_bits : GoodIn wsX4_fewest (va_wsS RX4 220 yX4_bits wsX4_bits) := goodIn_app (goodIn_of _ (by decide +kernel)) ggX4_fewest_X4_bits
set_option maxRecDepth 20000 in
theorem ggX4_fewest_X4_lessBy : GoodIn wsX4_fewest wsX4_lessBy := goodIn_r _ [51, 6, 12, 13, 14, 4, 15, 11, 16, 17, 18, 19, 20, 21, 22, 23, 24, 25, 26, 27, 28, 29, 30, 31, 32, 33, 34, 35, 36, 37, 38, 39, 40, 41, 42, 43, 44, 52, 53, 54, 55, 56, 57, 58, 59, 60, 61, 62, 63, 64, 65, 66, 67, 68, 69, 70, 71, 72, 73, 74, 75] (by decide +kernel) (by decide +kernel)
set_option maxRecDepth 20000 in
theorem gX4_fewest_X4_lessBy : GoodIn wsX4_fewest (wsV RX4 217 RX4 yX4_lessBy wsX4_lessBy) := goodIn_app (goodIn_of _ (by decide +kernel)) ggX4_fewest_X4_lessBy
theorem dX4_fewest_0 : decode cX4_fewest 0 = .ok (.aload_n 0, 1) := by decide +kernel
theorem dX4_fewest_1 : decode cX4_fewest 1 = .ok (.invokevirtual 214, 3) := by decide +kernel
theorem dX4_fewest_4 : decode cX4_fewest 4 = .ok (.aload_n 0, 1) := by decide +kernel
theorem dX4_fewest_5 : decode cX4_fewest 5 = .ok (.invokevirtual 128, 3) := by decide +kernel
theorem dX4_fewest_8 : decode cX4_fewest 8 = .ok (.istore_n 1, 1) := by decide +kernel
theorem dX4_fewest_9 : decode cX4_fewest 9 = .ok (.aload_n 0, 1) := by decide +kernel
theorem dX4_fewest_10 : decode cX4_fewest 10 = .ok (.invokevirtual 128, 3) := by decide +kernel
theorem dX4_fewest_13 : decode cX4_fewest 13 = .ok (.istore_n 2, 1) := by decide +kernel
theorem dX4_fewest_14 : decode cX4_fewest 14 = .ok (.iload_n 2, 1) := by decide +kernel
theorem dX4_fewest_15 : decode cX4_fewest 15 = .ok (.ifCond .lt 34, 3) := by decide +kernel
theorem dX4_fewest_18 : decode cX4_fewest 18 = .ok (.iload_n 2, 1) := by decide +kernel
theorem dX4_fewest_19 : decode cX4_fewest 19 = .ok (.invokestatic 220, 3) := by decide +kernel
theorem dX4_fewest_22 : decode cX4_fewest 22 = .ok (.iload_n 1, 1) := by decide +kernel
theorem dX4_fewest_23 : decode cX4_fewest 23 = .ok (.invokestatic 220, 3) := by decide +kernel
theorem dX4_fewest_26 : decode cX4_fewest 26 = .ok (.if_icmp .gt 15, 3) := by decide +kernel
theorem dX4_fewest_29 : decode cX4_fewest 29 = .ok (.aload_n 0, 1) := by decide +kernel
theorem dX4_fewest_30 : decode cX4_fewest 30 = .ok (.iload_n 2, 1) := by decide +kernel
theorem dX4_fewest_31 : decode cX4_fewest 31 = .ok (.invokevirtual 217, 3) := by decide +kernel
theorem dX4_fewest_34 : decode cX4_fewest 34 = .ok (.ifCond .ne 7, 3) := by decide +kernel
theorem dX4_fewest_37 : decode cX4_fewest 37 = .ok (.iload_n 2, 1) := by decide +kernel
theorem dX4_fewest_38 : decode cX4_fewest 38 = .ok (.goto 4, 3) := by decide +kernel
theorem dX4_fewest_41 : decode cX4_fewest 41 = .ok (.iload_n 1, 1) := by decide +kernel
theorem dX4_fewest_42 : decode cX4_fewest 42 = .ok (.istore_n 1, 1) := by decide +kernel
theorem dX4_fewest_43 : decode cX4_fewest 43 = .ok (.iinc 2 (-1), 3) := by decide +kernel
theorem dX4_fewest_46 : decode cX4_fewest 46 = .ok (.goto (-32), 3) := by decide +kernel
theorem dX4_fewest_49 : decode cX4_fewest 49 = .ok (.iload_n 1, 1) := by decide +kernel
theorem dX4_fewest_50 : decode cX4_fewest 50 = .ok (.ireturn, 1) := by decide +kernel
set_option maxRecDepth 20000 in
theorem ggX4_lost_X4_everybody : GoodIn wsX4_lost wsX4_everybody := goodIn_r _ [6, 7, 58, 59, 60, 61, 62, 63, 64, 65, 66, 67, 68, 69, 70, 71, 72, 73, 74, 75, 76, 77, 78, 79, 80, 81] (by decide +kernel) (by decide +kernel)
set_option maxRecDepth 20000 in
theorem gX4_lost_X4_everybody : GoodIn wsX4_lost (wsV RX4 128 RX4 yX4_everybody wsX4_everybody) := goodIn_app (goodIn_of _ (by decide +kernel)) ggX4_lost_X4_everybody
set_option maxRecDepth 20000 in
theorem ggX4_lost_X4_within : GoodIn wsX4_lost wsX4_within := goodIn_r _ [10] (by decide +kernel) (by decide +kernel)
set_option maxRecDepth 20000 in
theorem gX4_lost_X4_within : GoodIn wsX4_lost (va_wsS RX4 82 yX4_within wsX4_within) := goodIn_app (goodIn_of _ (by decide +kernel)) ggX4_lost_X4_within
set_option maxRecDepth 20000 in
theorem ggX4_lost_X4_finding : GoodIn wsX4_lost wsX4_finding := goodIn_r _ [14, 15, 1, 58, 59, 60, 61, 62, 63, 64, 65, 66, 67, 68, 69, 70, 71, 72, 73, 74, 75, 76, 77, 78, 79, 80, 81] (by decide +kernel) (by decide +kernel)
set_option maxRecDepth 20000 in
theorem gX4_lost_X4_finding : GoodIn wsX4_lost (wsV RX4 78 RX4 yX4_finding wsX4_finding) := goodIn_app (goodIn_of _ (by decide +kernel)) ggX4_lost_X4_finding
set_option maxRecDepth 20000 in
theorem ggX4_lost_X4_hearAll : GoodIn wsX4_lost wsX4_hearAll := goodIn_r _ [19, 20, 2, 3, 4, 5, 6, 7, 21, 22, 23, 24, 25, 26, 27, 28, 29, 30, 31, 32, 33, 34, 35, 36, 37, 38, 39, 40, 41, 42, 43, 44, 45, 46, 47, 48, 49, 50, 51, 52, 53, 58, 59, 60, 61, 62, 63, 64, 65, 66, 67, 68, 69, 70, 71, 72, 73, 74, 75, 76, 77, 78, 79, 80, 81] (by decide +kernel) (by decide +kernel)
set_option maxRecDepth 20000 in
theorem gX4_lost_X4_hearAll : GoodIn wsX4_lost (wsV RX4 214 RX4 yX4_hearAll wsX4_hearAll) := goodIn_app (goodIn_of _ (by decide +kernel)) ggX4_lost_X4_hearAll
set_option maxRecDepth 20000 in
theorem ggX4_lost_X4_lessBy : GoodIn wsX4_lost wsX4_lessBy := goodIn_r _ [57, 20, 21, 22, 23, 5, 24, 7, 25, 26, 27, 28, 29, 30, 31, 32, 33, 34, 35, 36, 37, 38, 39, 40, 41, 42, 43, 44, 45, 46, 47, 48, 49, 50, 51, 52, 53, 58, 59, 60, 61, 62, 63, 64, 65, 66, 67, 68, 69, 70, 71, 72, 73, 74, 75, 76, 77, 78, 79, 80, 81] (by decide +kernel) (by decide +kernel)
set_option maxRecDepth 20000 in
theorem gX4_lost_X4_lessBy : GoodIn wsX4_lost (wsV RX4 217 RX4 yX4_lessBy wsX4_lessBy) := goodIn_app (goodIn_of _ (by decide +kernel)) ggX4_lost_X4_lessBy
theorem dX4_lost_0 : decode cX4_lost 0 = .ok (.iload_n 1, 1) := by decide +kernel
theorem dX4_lost_1 : decode cX4_lost 1 = .ok (.iconst 0, 1) := by decide +kernel
theorem dX4_lost_2 : decode cX4_lost 2 = .ok (.aload_n 0, 1) := by decide +kernel
theorem dX4_lost_3 : decode cX4_lost 3 = .ok (.invokevirtual 128, 3) := by decide +kernel
theorem dX4_lost_6 : decode cX4_lost 6 = .ok (.invokestatic 82, 3) := by decide +kernel
theorem dX4_lost_9 : decode cX4_lost 9 = .ok (.ifCond .ne 10, 3) := by decide +kernel
theorem dX4_lost_12 : decode cX4_lost 12 = .ok (.aload_n 0, 1) := by decide +kernel
theorem dX4_lost_13 : decode cX4_lost 13 = .ok (.ldc 72, 2) := by decide +kernel
theorem dX4_lost_15 : decode cX4_lost 15 = .ok (.invokevirtual 78, 3) := by decide +kernel
theorem dX4_lost_18 : decode cX4_lost 18 = .ok (.ireturn, 1) := by decide +kernel
theorem dX4_lost_19 : decode cX4_lost 19 = .ok (.aload_n 0, 1) := by decide +kernel
theorem dX4_lost_20 : decode cX4_lost 20 = .ok (.invokevirtual 214, 3) := by decide +kernel
theorem dX4_lost_23 : decode cX4_lost 23 = .ok (.aload_n 0, 1) := by decide +kernel
theorem dX4_lost_24 : decode cX4_lost 24 = .ok (.aload_n 0, 1) := by decide +kernel
theorem dX4_lost_25 : decode cX4_lost 25 = .ok (.invokevirtual 128, 3) := by decide +kernel
theorem dX4_lost_28 : decode cX4_lost 28 = .ok (.iload_n 1, 1) := by decide +kernel
theorem dX4_lost_29 : decode cX4_lost 29 = .ok (.iconst (-1), 1) := by decide +kernel
theorem dX4_lost_30 : decode cX4_lost 30 = .ok (.ixor, 1) := by decide +kernel
theorem dX4_lost_31 : decode cX4_lost 31 = .ok (.iand, 1) := by decide +kernel
theorem dX4_lost_32 : decode cX4_lost 32 = .ok (.invokevirtual 217, 3) := by decide +kernel
theorem dX4_lost_35 : decode cX4_lost 35 = .ok (.ireturn, 1) := by decide +kernel
set_option maxRecDepth 20000 in
theorem ggX4_dearest_X4_hearAll : GoodIn wsX4_dearest wsX4_hearAll := goodIn_r _ [10, 11, 12, 13, 14, 9, 15, 1, 16, 17, 18, 19, 2, 3, 4, 5, 20, 21, 22, 23, 24, 25, 26, 27, 28, 29, 30, 31, 32, 33, 34, 35, 36, 37, 38, 39, 40, 41, 42, 43, 44, 60, 61, 62, 63, 64, 65, 66, 67, 68, 69, 70, 71, 72, 73, 74, 75, 76, 77, 78, 79, 80, 81, 82, 83] (by decide +kernel) (by decide +kernel)
set_option maxRecDepth 20000 in
theorem gX4_dearest_X4_hearAll : GoodIn wsX4_dearest (wsV RX4 214 RX4 yX4_hearAll wsX4_hearAll) := goodIn_app (goodIn_of _ (by decide +kernel)) ggX4_dearest_X4_hearAll
set_option maxRecDepth 20000 in
theorem ggX4_dearest_X4_everybody : GoodIn wsX4_dearest wsX4_everybody := goodIn_r _ [15, 1, 60, 61, 62, 63, 64, 65, 66, 67, 68, 69, 70, 71, 72, 73, 74, 75, 76, 77, 78, 79, 80, 81, 82, 83] (by decide +kernel) (by decide +kernel)
set_option maxRecDepth 20000 in
theorem gX4_dearest_X4_everybody : GoodIn wsX4_dearest (wsV RX4 128 RX4 yX4_everybody wsX4_everybody) := goodIn_app (goodIn_of _ (by decide +kernel)) ggX4_dearest_X4_everybody
set_option maxRecDepth 20000 in
theorem ggX4_dearest_X4_lessBy : GoodIn wsX4_dearest wsX4_lessBy := goodIn_r _ [48, 11, 16, 17, 18, 9, 19, 1, 2, 3, 4, 5, 20, 21, 22, 23, 24, 25, 26, 27, 28, 29, 30, 31, 32, 33, 34, 35, 36, 37, 38, 39, 40, 41, 42, 43, 44, 60, 61, 62, 63, 64, 65, 66, 67, 68, 69, 70, 71, 72, 73, 74, 75, 76, 77, 78, 79, 80, 81, 82, 83] (by decide +kernel) (by decide +kernel)
set_option maxRecDepth 20000 in
theorem gX4_dearest_X4_lessBy : GoodIn wsX4_dearest (wsV RX4 217 RX4 yX4_lessBy wsX4_lessBy) := goodIn_app (goodIn_of _ (by decide +kernel)) ggX4_dearest_X4_lessBy
set_option maxRecDepth 20000 in
theorem ggX4_dearest_X4_orNone : GoodIn wsX4_dearest wsX4_orNone := goodIn_r _ [52, 53, 54, 55, 56, 9, 57, 58, 59, 60, 61, 62, 63, 64, 65, 66, 67, 68, 69, 70, 71, 72, 73, 74, 75, 76, 77, 78, 79, 80, 81, 82, 83] (by decide +kernel) (by decide +kernel)
set_option maxRecDepth 20000 in
theorem gX4_dearest_X4_orNone : GoodIn wsX4_dearest (wsV RX4 203 RX4 yX4_orNone wsX4_orNone) := goodIn_app (goodIn_of _ (by decide +kernel)) ggX4_dearest_X4_orNone
theorem dX4_dearest_0 : decode cX4_dearest 0 = .ok (.aload_n 0, 1) := by decide +kernel
theorem dX4_dearest_1 : decode cX4_dearest 1 = .ok (.invokevirtual 214, 3) := by decide +kernel
theorem dX4_dearest_4 : decode cX4_dearest 4 = .ok (.iconst (-1), 1) := by decide +kernel
theorem dX4_dearest_5 : decode cX4_dearest 5 = .ok (.istore_n 1, 1) := by decide +kernel
theorem dX4_dearest_6 : decode cX4_dearest 6 = .ok (.iconst (-1), 1) := by decide +kernel
theorem dX4_dearest_7 : decode cX4_dearest 7 = .ok (.istore_n 2, 1) := by decide +kernel
theorem dX4_dearest_8 : decode cX4_dearest 8 = .ok (.iconst 0, 1) := by decide +kernel
theorem dX4_dearest_9 : decode cX4_dearest 9 = .ok (.istore_n 3, 1) := by decide +kernel
theorem dX4_dearest_10 : decode cX4_dearest 10 = .ok (.iload_n 3, 1) := by decide +kernel
theorem dX4_dearest_11 : decode cX4_dearest 11 = .ok (.aload_n 0, 1) := by decide +kernel
theorem dX4_dearest_12 : decode cX4_dearest 12 = .ok (.getfield 9, 3) := by decide +kernel
theorem dX4_dearest_15 : decode cX4_dearest 15 = .ok (.iconst 1, 1) := by decide +kernel
theorem dX4_dearest_16 : decode cX4_dearest 16 = .ok (.iaload, 1) := by decide +kernel
theorem dX4_dearest_17 : decode cX4_dearest 17 = .ok (.if_icmp .ge 44, 3) := by decide +kernel
theorem dX4_dearest_20 : decode cX4_dearest 20 = .ok (.aload_n 0, 1) := by decide +kernel
theorem dX4_dearest_21 : decode cX4_dearest 21 = .ok (.aload_n 0, 1) := by decide +kernel
theorem dX4_dearest_22 : decode cX4_dearest 22 = .ok (.invokevirtual 128, 3) := by decide +kernel
theorem dX4_dearest_25 : decode cX4_dearest 25 = .ok (.iconst 1, 1) := by decide +kernel
theorem dX4_dearest_26 : decode cX4_dearest 26 = .ok (.iload_n 3, 1) := by decide +kernel
theorem dX4_dearest_27 : decode cX4_dearest 27 = .ok (.ishl, 1) := by decide +kernel
theorem dX4_dearest_28 : decode cX4_dearest 28 = .ok (.iconst (-1), 1) := by decide +kernel
theorem dX4_dearest_29 : decode cX4_dearest 29 = .ok (.ixor, 1) := by decide +kernel
theorem dX4_dearest_30 : decode cX4_dearest 30 = .ok (.iand, 1) := by decide +kernel
theorem dX4_dearest_31 : decode cX4_dearest 31 = .ok (.invokevirtual 217, 3) := by decide +kernel
theorem dX4_dearest_34 : decode cX4_dearest 34 = .ok (.istore 4, 2) := by decide +kernel
theorem dX4_dearest_36 : decode cX4_dearest 36 = .ok (.iload 4, 2) := by decide +kernel
theorem dX4_dearest_38 : decode cX4_dearest 38 = .ok (.iload_n 2, 1) := by decide +kernel
theorem dX4_dearest_39 : decode cX4_dearest 39 = .ok (.if_icmp .le 7, 3) := by decide +kernel
theorem dX4_dearest_42 : decode cX4_dearest 42 = .ok (.iload_n 3, 1) := by decide +kernel
theorem dX4_dearest_43 : decode cX4_dearest 43 = .ok (.goto 4, 3) := by decide +kernel
theorem dX4_dearest_46 : decode cX4_dearest 46 = .ok (.iload_n 1, 1) := by decide +kernel
theorem dX4_dearest_47 : decode cX4_dearest 47 = .ok (.istore_n 1, 1) := by decide +kernel
theorem dX4_dearest_48 : decode cX4_dearest 48 = .ok (.iload_n 2, 1) := by decide +kernel
theorem dX4_dearest_49 : decode cX4_dearest 49 = .ok (.iload 4, 2) := by decide +kernel
theorem dX4_dearest_51 : decode cX4_dearest 51 = .ok (.invokestatic 118, 3) := by decide +kernel
theorem dX4_dearest_54 : decode cX4_dearest 54 = .ok (.istore_n 2, 1) := by decide +kernel
theorem dX4_dearest_55 : decode cX4_dearest 55 = .ok (.iinc 3 1, 3) := by decide +kernel
theorem dX4_dearest_58 : decode cX4_dearest 58 = .ok (.goto (-48), 3) := by decide +kernel
theorem dX4_dearest_61 : decode cX4_dearest 61 = .ok (.aload_n 0, 1) := by decide +kernel
theorem dX4_dearest_62 : decode cX4_dearest 62 = .ok (.iload_n 1, 1) := by decide +kernel
theorem dX4_dearest_63 : decode cX4_dearest 63 = .ok (.invokevirtual 203, 3) := by decide +kernel
theorem dX4_dearest_66 : decode cX4_dearest 66 = .ok (.ireturn, 1) := by decide +kernel
set_option maxRecDepth 20000 in
theorem ggX4_parts_X4_areTwo : GoodIn wsX4_parts wsX4_areTwo := goodIn_r _ [6, 7, 8, 9, 5, 10, 11, 12, 13, 14, 42, 43, 44, 45, 46, 47, 48, 49, 50, 51, 52, 53, 54, 55, 56, 57, 58, 59, 60, 61, 62, 63, 64, 65] (by decide +kernel) (by decide +kernel)
set_option maxRecDepth 20000 in
theorem gX4_parts_X4_areTwo : GoodIn wsX4_parts (wsV RX4 164 RX4 yX4_areTwo wsX4_areTwo) := goodIn_app (goodIn_of _ (by decide +kernel)) ggX4_parts_X4_areTwo
set_option maxRecDepth 20000 in
theorem ggX4_parts_X4_barsOf : GoodIn wsX4_parts wsX4_barsOf := goodIn_r _ [18, 19, 20, 21, 5, 22, 11, 23, 24, 25, 26, 27, 28, 29, 30, 31, 32, 33, 34, 35, 36, 42, 43, 44, 45, 46, 47, 48, 49, 50, 51, 52, 53, 54, 55, 56, 57, 58, 59, 60, 61, 62, 63, 64, 65] (by decide +kernel) (by decide +kernel)
set_option maxRecDepth 20000 in
theorem gX4_parts_X4_barsOf : GoodIn wsX4_parts (wsV RX4 155 RX4 yX4_barsOf wsX4_barsOf) := goodIn_app (goodIn_of _ (by decide +kernel)) ggX4_parts_X4_barsOf
set_option maxRecDepth 20000 in
theorem ggX4_parts_X4_finding : GoodIn wsX4_parts wsX4_finding := goodIn_r _ [40, 41, 1, 42, 43, 44, 45, 46, 47, 48, 49, 50, 51, 52, 53, 54, 55, 56, 57, 58, 59, 60, 61, 62, 63, 64, 65] (by decide +kernel) (by decide +kernel)
set_option maxRecDepth 20000 in
theorem gX4_parts_X4_finding : GoodIn wsX4_parts (wsV RX4 78 RX4 yX4_finding wsX4_finding) := goodIn_app (goodIn_of _ (by decide +kernel)) ggX4_parts_X4_finding
theorem dX4_parts_0 : decode cX4_parts 0 = .ok (.aload_n 0, 1) := by decide +kernel
theorem dX4_parts_1 : decode cX4_parts 1 = .ok (.iload_n 1, 1) := by decide +kernel
theorem dX4_parts_2 : decode cX4_parts 2 = .ok (.iload_n 2, 1) := by decide +kernel
theorem dX4_parts_3 : decode cX4_parts 3 = .ok (.invokevirtual 164, 3) := by decide +kernel
theorem dX4_parts_6 : decode cX4_parts 6 = .ok (.ifCond .eq 17, 3) := by decide +kernel
theorem dX4_parts_9 : decode cX4_parts 9 = .ok (.aload_n 0, 1) := by decide +kernel
theorem dX4_parts_10 : decode cX4_parts 10 = .ok (.iload_n 1, 1) := by decide +kernel
theorem dX4_parts_11 : decode cX4_parts 11 = .ok (.invokevirtual 155, 3) := by decide +kernel
theorem dX4_parts_14 : decode cX4_parts 14 = .ok (.aload_n 0, 1) := by decide +kernel
theorem dX4_parts_15 : decode cX4_parts 15 = .ok (.iload_n 2, 1) := by decide +kernel
theorem dX4_parts_16 : decode cX4_parts 16 = .ok (.invokevirtual 155, 3) := by decide +kernel
theorem dX4_parts_19 : decode cX4_parts 19 = .ok (.ixor, 1) := by decide +kernel
theorem dX4_parts_20 : decode cX4_parts 20 = .ok (.goto 9, 3) := by decide +kernel
theorem dX4_parts_23 : decode cX4_parts 23 = .ok (.aload_n 0, 1) := by decide +kernel
theorem dX4_parts_24 : decode cX4_parts 24 = .ok (.ldc 72, 2) := by decide +kernel
theorem dX4_parts_26 : decode cX4_parts 26 = .ok (.invokevirtual 78, 3) := by decide +kernel
theorem dX4_parts_29 : decode cX4_parts 29 = .ok (.ireturn, 1) := by decide +kernel
theorem dX4_areApart_0 : decode cX4_areApart 0 = .ok (.iconst 1, 1) := by decide +kernel
theorem dX4_areApart_1 : decode cX4_areApart 1 = .ok (.istore_n 2, 1) := by decide +kernel
theorem dX4_areApart_2 : decode cX4_areApart 2 = .ok (.iconst 0, 1) := by decide +kernel
theorem dX4_areApart_3 : decode cX4_areApart 3 = .ok (.istore_n 3, 1) := by decide +kernel
theorem dX4_areApart_4 : decode cX4_areApart 4 = .ok (.iload_n 3, 1) := by decide +kernel
theorem dX4_areApart_5 : decode cX4_areApart 5 = .ok (.aload_n 0, 1) := by decide +kernel
theorem dX4_areApart_6 : decode cX4_areApart 6 = .ok (.getfield 9, 3) := by decide +kernel
theorem dX4_areApart_9 : decode cX4_areApart 9 = .ok (.iconst 1, 1) := by decide +kernel
theorem dX4_areApart_10 : decode cX4_areApart 10 = .ok (.iaload, 1) := by decide +kernel
theorem dX4_areApart_11 : decode cX4_areApart 11 = .ok (.if_icmp .ge 53, 3) := by decide +kernel
theorem dX4_areApart_14 : decode cX4_areApart 14 = .ok (.iconst 0, 1) := by decide +kernel
theorem dX4_areApart_15 : decode cX4_areApart 15 = .ok (.istore 4, 2) := by decide +kernel
theorem dX4_areApart_17 : decode cX4_areApart 17 = .ok (.iload 4, 2) := by decide +kernel
theorem dX4_areApart_19 : decode cX4_areApart 19 = .ok (.iload_n 3, 1) := by decide +kernel
theorem dX4_areApart_20 : decode cX4_areApart 20 = .ok (.if_icmp .ge 38, 3) := by decide +kernel
theorem dX4_areApart_23 : decode cX4_areApart 23 = .ok (.iload_n 2, 1) := by decide +kernel
theorem dX4_areApart_24 : decode cX4_areApart 24 = .ok (.ifCond .eq 26, 3) := by decide +kernel
theorem dX4_areApart_27 : decode cX4_areApart 27 = .ok (.aload_n 0, 1) := by decide +kernel
theorem dX4_areApart_28 : decode cX4_areApart 28 = .ok (.getfield 31, 3) := by decide +kernel
theorem dX4_areApart_31 : decode cX4_areApart 31 = .ok (.iload_n 3, 1) := by decide +kernel
theorem dX4_areApart_32 : decode cX4_areApart 32 = .ok (.iaload, 1) := by decide +kernel
theorem dX4_areApart_33 : decode cX4_areApart 33 = .ok (.aload_n 0, 1) := by decide +kernel
theorem dX4_areApart_34 : decode cX4_areApart 34 = .ok (.getfield 31, 3) := by decide +kernel
theorem dX4_areApart_37 : decode cX4_areApart 37 = .ok (.iload 4, 2) := by decide +kernel
theorem dX4_areApart_39 : decode cX4_areApart 39 = .ok (.iaload, 1) := by decide +kernel
theorem dX4_areApart_40 : decode cX4_areApart 40 = .ok (.ixor, 1) := by decide +kernel
theorem dX4_areApart_41 : decode cX4_areApart 41 = .ok (.iload_n 1, 1) := by decide +kernel
theorem dX4_areApart_42 : decode cX4_areApart 42 = .ok (.iand, 1) := by decide +kernel
theorem dX4_areApart_43 : decode cX4_areApart 43 = .ok (.ifCond .eq 7, 3) := by decide +kernel
theorem dX4_areApart_46 : decode cX4_areApart 46 = .ok (.iconst 1, 1) := by decide +kernel
theorem dX4_areApart_47 : decode cX4_areApart 47 = .ok (.goto 4, 3) := by decide +kernel
theorem dX4_areApart_50 : decode cX4_areApart 50 = .ok (.iconst 0, 1) := by decide +kernel
theorem dX4_areApart_51 : decode cX4_areApart 51 = .ok (.istore_n 2, 1) := by decide +kernel
theorem dX4_areApart_52 : decode cX4_areApart 52 = .ok (.iinc 4 1, 3) := by decide +kernel
theorem dX4_areApart_55 : decode cX4_areApart 55 = .ok (.goto (-38), 3) := by decide +kernel
theorem dX4_areApart_58 : decode cX4_areApart 58 = .ok (.iinc 3 1, 3) := by decide +kernel
theorem dX4_areApart_61 : decode cX4_areApart 61 = .ok (.goto (-57), 3) := by decide +kernel
theorem dX4_areApart_64 : decode cX4_areApart 64 = .ok (.iload_n 2, 1) := by decide +kernel
theorem dX4_areApart_65 : decode cX4_areApart 65 = .ok (.ireturn, 1) := by decide +kernel
set_option maxRecDepth 20000 in
theorem ggX4_tells_X4_barsOf : GoodIn wsX4_tells wsX4_barsOf := goodIn_r _ [7, 8, 9, 10, 6, 11, 1, 12, 13, 14, 15, 16, 17, 18, 19, 20, 21, 22, 23, 24, 25, 44, 45, 46, 47, 48, 49, 50, 51, 52, 53, 54, 55, 56, 57, 58, 59, 60, 61, 62, 63, 64, 65, 66, 67] (by decide +kernel) (by decide +kernel)
set_option maxRecDepth 20000 in
theorem gX4_tells_X4_barsOf : GoodIn wsX4_tells (wsV RX4 155 RX4 yX4_barsOf wsX4_barsOf) := goodIn_app (goodIn_of _ (by decide +kernel)) ggX4_tells_X4_barsOf
set_option maxRecDepth 20000 in
theorem ggX4_tells_X4_bits : GoodIn wsX4_tells wsX4_bits := goodIn_r _ [28] (by decide +kernel) (by decide +kernel)
set_option maxRecDepth 20000 in
theorem gX4_tells_X4_bits : GoodIn wsX4_tells (va_wsS RX4 220 yX4_bits wsX4_bits) := goodIn_app (goodIn_of _ (by decide +kernel)) ggX4_tells_X4_bits
set_option maxRecDepth 20000 in
theorem ggX4_tells_X4_areApart : GoodIn wsX4_tells wsX4_areApart := goodIn_r _ [32, 1, 2, 44, 45, 46, 47, 48, 49, 50, 51, 52, 53, 54, 55, 56, 57, 58, 59, 60, 61, 62, 63, 64, 65, 66, 67] (by decide +kernel) (by decide +kernel)
set_option maxRecDepth 20000 in
theorem gX4_tells_X4_areApart : GoodIn wsX4_tells (wsV RX4 223 RX4 yX4_areApart wsX4_areApart) := goodIn_app (goodIn_of _ (by decide +kernel)) ggX4_tells_X4_areApart
set_option maxRecDepth 20000 in
theorem ggX4_tells_X4_orNone : GoodIn wsX4_tells wsX4_orNone := goodIn_r _ [36, 37, 38, 39, 40, 6, 41, 42, 43, 44, 45, 46, 47, 48, 49, 50, 51, 52, 53, 54, 55, 56, 57, 58, 59, 60, 61, 62, 63, 64, 65, 66, 67] (by decide +kernel) (by decide +kernel)
set_option maxRecDepth 20000 in
theorem gX4_tells_X4_orNone : GoodIn wsX4_tells (wsV RX4 203 RX4 yX4_orNone wsX4_orNone) := goodIn_app (goodIn_of _ (by decide +kernel)) ggX4_tells_X4_orNone
theorem dX4_tells_0 : decode cX4_tells 0 = .ok (.iconst 0, 1) := by decide +kernel
theorem dX4_tells_1 : decode cX4_tells 1 = .ok (.istore_n 1, 1) := by decide +kernel
theorem dX4_tells_2 : decode cX4_tells 2 = .ok (.iload_n 1, 1) := by decide +kernel
theorem dX4_tells_3 : decode cX4_tells 3 = .ok (.aload_n 0, 1) := by decide +kernel
theorem dX4_tells_4 : decode cX4_tells 4 = .ok (.getfield 9, 3) := by decide +kernel
theorem dX4_tells_7 : decode cX4_tells 7 = .ok (.iconst 1, 1) := by decide +kernel
theorem dX4_tells_8 : decode cX4_tells 8 = .ok (.iaload, 1) := by decide +kernel
theorem dX4_tells_9 : decode cX4_tells 9 = .ok (.if_icmp .ge 20, 3) := by decide +kernel
theorem dX4_tells_12 : decode cX4_tells 12 = .ok (.aload_n 0, 1) := by decide +kernel
theorem dX4_tells_13 : decode cX4_tells 13 = .ok (.getfield 31, 3) := by decide +kernel
theorem dX4_tells_16 : decode cX4_tells 16 = .ok (.iload_n 1, 1) := by decide +kernel
theorem dX4_tells_17 : decode cX4_tells 17 = .ok (.aload_n 0, 1) := by decide +kernel
theorem dX4_tells_18 : decode cX4_tells 18 = .ok (.iload_n 1, 1) := by decide +kernel
theorem dX4_tells_19 : decode cX4_tells 19 = .ok (.invokevirtual 155, 3) := by decide +kernel
theorem dX4_tells_22 : decode cX4_tells 22 = .ok (.iastore, 1) := by decide +kernel
theorem dX4_tells_23 : decode cX4_tells 23 = .ok (.iinc 1 1, 3) := by decide +kernel
theorem dX4_tells_26 : decode cX4_tells 26 = .ok (.goto (-24), 3) := by decide +kernel
theorem dX4_tells_29 : decode cX4_tells 29 = .ok (.iconst (-1), 1) := by decide +kernel
theorem dX4_tells_30 : decode cX4_tells 30 = .ok (.istore_n 1, 1) := by decide +kernel
theorem dX4_tells_31 : decode cX4_tells 31 = .ok (.sipush 4095, 3) := by decide +kernel
theorem dX4_tells_34 : decode cX4_tells 34 = .ok (.istore_n 2, 1) := by decide +kernel
theorem dX4_tells_35 : decode cX4_tells 35 = .ok (.iload_n 2, 1) := by decide +kernel
theorem dX4_tells_36 : decode cX4_tells 36 = .ok (.ifCond .lt 48, 3) := by decide +kernel
theorem dX4_tells_39 : decode cX4_tells 39 = .ok (.iload_n 1, 1) := by decide +kernel
theorem dX4_tells_40 : decode cX4_tells 40 = .ok (.ifCond .lt 14, 3) := by decide +kernel
theorem dX4_tells_43 : decode cX4_tells 43 = .ok (.iload_n 2, 1) := by decide +kernel
theorem dX4_tells_44 : decode cX4_tells 44 = .ok (.invokestatic 220, 3) := by decide +kernel
theorem dX4_tells_47 : decode cX4_tells 47 = .ok (.iload_n 1, 1) := by decide +kernel
theorem dX4_tells_48 : decode cX4_tells 48 = .ok (.invokestatic 220, 3) := by decide +kernel
theorem dX4_tells_51 : decode cX4_tells 51 = .ok (.if_icmp .gt 7, 3) := by decide +kernel
theorem dX4_tells_54 : decode cX4_tells 54 = .ok (.iconst 1, 1) := by decide +kernel
theorem dX4_tells_55 : decode cX4_tells 55 = .ok (.goto 4, 3) := by decide +kernel
theorem dX4_tells_58 : decode cX4_tells 58 = .ok (.iconst 0, 1) := by decide +kernel
theorem dX4_tells_59 : decode cX4_tells 59 = .ok (.istore_n 3, 1) := by decide +kernel
theorem dX4_tells_60 : decode cX4_tells 60 = .ok (.iload_n 3, 1) := by decide +kernel
theorem dX4_tells_61 : decode cX4_tells 61 = .ok (.ifCond .eq 15, 3) := by decide +kernel
theorem dX4_tells_64 : decode cX4_tells 64 = .ok (.aload_n 0, 1) := by decide +kernel
theorem dX4_tells_65 : decode cX4_tells 65 = .ok (.iload_n 2, 1) := by decide +kernel
theorem dX4_tells_66 : decode cX4_tells 66 = .ok (.invokevirtual 223, 3) := by decide +kernel
theorem dX4_tells_69 : decode cX4_tells 69 = .ok (.ifCond .eq 7, 3) := by decide +kernel
theorem dX4_tells_72 : decode cX4_tells 72 = .ok (.iload_n 2, 1) := by decide +kernel
theorem dX4_tells_73 : decode cX4_tells 73 = .ok (.goto 4, 3) := by decide +kernel
theorem dX4_tells_76 : decode cX4_tells 76 = .ok (.iload_n 1, 1) := by decide +kernel
theorem dX4_tells_77 : decode cX4_tells 77 = .ok (.istore_n 1, 1) := by decide +kernel
theorem dX4_tells_78 : decode cX4_tells 78 = .ok (.iinc 2 (-1), 3) := by decide +kernel
theorem dX4_tells_81 : decode cX4_tells 81 = .ok (.goto (-46), 3) := by decide +kernel
theorem dX4_tells_84 : decode cX4_tells 84 = .ok (.aload_n 0, 1) := by decide +kernel
theorem dX4_tells_85 : decode cX4_tells 85 = .ok (.iload_n 1, 1) := by decide +kernel
theorem dX4_tells_86 : decode cX4_tells 86 = .ok (.invokevirtual 203, 3) := by decide +kernel
theorem dX4_tells_89 : decode cX4_tells 89 = .ok (.ireturn, 1) := by decide +kernel
set_option maxRecDepth 20000 in
theorem ggX4_halves_X4_playsIn : GoodIn wsX4_halves wsX4_playsIn := goodIn_r _ [13, 1, 14, 15, 16, 12, 17, 18, 19, 20, 21, 22, 23, 24, 25, 26, 27, 28, 29, 30, 31, 35, 36, 37, 38, 39, 40, 41, 42, 43, 44, 45, 46, 47, 48, 49, 50, 51, 52, 53, 54, 55, 56, 57, 58] (by decide +kernel) (by decide +kernel)
set_option maxRecDepth 20000 in
theorem gX4_halves_X4_playsIn : GoodIn wsX4_halves (wsV RX4 125 RX4 yX4_playsIn wsX4_playsIn) := goodIn_app (goodIn_of _ (by decide +kernel)) ggX4_halves_X4_playsIn
set_option maxRecDepth 20000 in
theorem ggX4_halves_X4_bits : GoodIn wsX4_halves wsX4_bits := goodIn_r _ [34] (by decide +kernel) (by decide +kernel)
set_option maxRecDepth 20000 in
theorem gX4_halves_X4_bits : GoodIn wsX4_halves (va_wsS RX4 220 yX4_bits wsX4_bits) := goodIn_app (goodIn_of _ (by decide +kernel)) ggX4_halves_X4_bits
theorem dX4_halves_0 : decode cX4_halves 0 = .ok (.iconst 0, 1) := by decide +kernel
theorem dX4_halves_1 : decode cX4_halves 1 = .ok (.istore_n 1, 1) := by decide +kernel
theorem dX4_halves_2 : decode cX4_halves 2 = .ok (.iconst (-1), 1) := by decide +kernel
theorem dX4_halves_3 : decode cX4_halves 3 = .ok (.istore_n 2, 1) := by decide +kernel
theorem dX4_halves_4 : decode cX4_halves 4 = .ok (.iconst 0, 1) := by decide +kernel
theorem dX4_halves_5 : decode cX4_halves 5 = .ok (.istore_n 3, 1) := by decide +kernel
theorem dX4_halves_6 : decode cX4_halves 6 = .ok (.iload_n 3, 1) := by decide +kernel
theorem dX4_halves_7 : decode cX4_halves 7 = .ok (.bipush 12, 2) := by decide +kernel
theorem dX4_halves_9 : decode cX4_halves 9 = .ok (.if_icmp .ge 54, 3) := by decide +kernel
theorem dX4_halves_12 : decode cX4_halves 12 = .ok (.aload_n 0, 1) := by decide +kernel
theorem dX4_halves_13 : decode cX4_halves 13 = .ok (.iload_n 3, 1) := by decide +kernel
theorem dX4_halves_14 : decode cX4_halves 14 = .ok (.invokevirtual 125, 3) := by decide +kernel
theorem dX4_halves_17 : decode cX4_halves 17 = .ok (.invokestatic 220, 3) := by decide +kernel
theorem dX4_halves_20 : decode cX4_halves 20 = .ok (.istore 4, 2) := by decide +kernel
theorem dX4_halves_22 : decode cX4_halves 22 = .ok (.iload 4, 2) := by decide +kernel
theorem dX4_halves_24 : decode cX4_halves 24 = .ok (.aload_n 0, 1) := by decide +kernel
theorem dX4_halves_25 : decode cX4_halves 25 = .ok (.getfield 9, 3) := by decide +kernel
theorem dX4_halves_28 : decode cX4_halves 28 = .ok (.iconst 1, 1) := by decide +kernel
theorem dX4_halves_29 : decode cX4_halves 29 = .ok (.iaload, 1) := by decide +kernel
theorem dX4_halves_30 : decode cX4_halves 30 = .ok (.iload 4, 2) := by decide +kernel
theorem dX4_halves_32 : decode cX4_halves 32 = .ok (.isub, 1) := by decide +kernel
theorem dX4_halves_33 : decode cX4_halves 33 = .ok (.invokestatic 173, 3) := by decide +kernel
theorem dX4_halves_36 : decode cX4_halves 36 = .ok (.istore 5, 2) := by decide +kernel
theorem dX4_halves_38 : decode cX4_halves 38 = .ok (.iload 5, 2) := by decide +kernel
theorem dX4_halves_40 : decode cX4_halves 40 = .ok (.iload_n 2, 1) := by decide +kernel
theorem dX4_halves_41 : decode cX4_halves 41 = .ok (.if_icmp .le 7, 3) := by decide +kernel
theorem dX4_halves_44 : decode cX4_halves 44 = .ok (.iload_n 3, 1) := by decide +kernel
theorem dX4_halves_45 : decode cX4_halves 45 = .ok (.goto 4, 3) := by decide +kernel
theorem dX4_halves_48 : decode cX4_halves 48 = .ok (.iload_n 1, 1) := by decide +kernel
theorem dX4_halves_49 : decode cX4_halves 49 = .ok (.istore_n 1, 1) := by decide +kernel
theorem dX4_halves_50 : decode cX4_halves 50 = .ok (.iload_n 2, 1) := by decide +kernel
theorem dX4_halves_51 : decode cX4_halves 51 = .ok (.iload 5, 2) := by decide +kernel
theorem dX4_halves_53 : decode cX4_halves 53 = .ok (.invokestatic 118, 3) := by decide +kernel
theorem dX4_halves_56 : decode cX4_halves 56 = .ok (.istore_n 2, 1) := by decide +kernel
theorem dX4_halves_57 : decode cX4_halves 57 = .ok (.iinc 3 1, 3) := by decide +kernel
theorem dX4_halves_60 : decode cX4_halves 60 = .ok (.goto (-54), 3) := by decide +kernel
theorem dX4_halves_63 : decode cX4_halves 63 = .ok (.iload_n 1, 1) := by decide +kernel
theorem dX4_halves_64 : decode cX4_halves 64 = .ok (.ireturn, 1) := by decide +kernel
set_option maxRecDepth 20000 in
theorem ggX4_who_X4_within : GoodIn wsX4_who wsX4_within := goodIn_r _ [6] (by decide +kernel) (by decide +kernel)
set_option maxRecDepth 20000 in
theorem gX4_who_X4_within : GoodIn wsX4_who (va_wsS RX4 82 yX4_within wsX4_within) := goodIn_app (goodIn_of _ (by decide +kernel)) ggX4_who_X4_within
set_option maxRecDepth 20000 in
theorem ggX4_who_X4_finding : GoodIn wsX4_who wsX4_finding := goodIn_r _ [10, 11, 1, 34, 35, 36, 37, 38, 39, 40, 41, 42, 43, 44, 45, 46, 47, 48, 49, 50, 51, 52, 53, 54, 55, 56, 57] (by decide +kernel) (by decide +kernel)
set_option maxRecDepth 20000 in
theorem gX4_who_X4_finding : GoodIn wsX4_who (wsV RX4 78 RX4 yX4_finding wsX4_finding) := goodIn_app (goodIn_of _ (by decide +kernel)) ggX4_who_X4_finding
set_option maxRecDepth 20000 in
theorem ggX4_who_X4_barsOf : GoodIn wsX4_who wsX4_barsOf := goodIn_r _ [15, 16, 17, 18, 5, 19, 2, 20, 21, 22, 23, 24, 25, 26, 27, 28, 29, 30, 31, 32, 33, 34, 35, 36, 37, 38, 39, 40, 41, 42, 43, 44, 45, 46, 47, 48, 49, 50, 51, 52, 53, 54, 55, 56, 57] (by decide +kernel) (by decide +kernel)
set_option maxRecDepth 20000 in
theorem gX4_who_X4_barsOf : GoodIn wsX4_who (wsV RX4 155 RX4 yX4_barsOf wsX4_barsOf) := goodIn_app (goodIn_of _ (by decide +kernel)) ggX4_who_X4_barsOf
theorem dX4_who_0 : decode cX4_who 0 = .ok (.iload_n 1, 1) := by decide +kernel
theorem dX4_who_1 : decode cX4_who 1 = .ok (.iconst 0, 1) := by decide +kernel
theorem dX4_who_2 : decode cX4_who 2 = .ok (.sipush 4095, 3) := by decide +kernel
theorem dX4_who_5 : decode cX4_who 5 = .ok (.invokestatic 82, 3) := by decide +kernel
theorem dX4_who_8 : decode cX4_who 8 = .ok (.ifCond .ne 10, 3) := by decide +kernel
theorem dX4_who_11 : decode cX4_who 11 = .ok (.aload_n 0, 1) := by decide +kernel
theorem dX4_who_12 : decode cX4_who 12 = .ok (.ldc 72, 2) := by decide +kernel
theorem dX4_who_14 : decode cX4_who 14 = .ok (.invokevirtual 78, 3) := by decide +kernel
theorem dX4_who_17 : decode cX4_who 17 = .ok (.ireturn, 1) := by decide +kernel
theorem dX4_who_18 : decode cX4_who 18 = .ok (.iconst 0, 1) := by decide +kernel
theorem dX4_who_19 : decode cX4_who 19 = .ok (.istore_n 2, 1) := by decide +kernel
theorem dX4_who_20 : decode cX4_who 20 = .ok (.iconst 0, 1) := by decide +kernel
theorem dX4_who_21 : decode cX4_who 21 = .ok (.istore_n 3, 1) := by decide +kernel
theorem dX4_who_22 : decode cX4_who 22 = .ok (.iload_n 3, 1) := by decide +kernel
theorem dX4_who_23 : decode cX4_who 23 = .ok (.aload_n 0, 1) := by decide +kernel
theorem dX4_who_24 : decode cX4_who 24 = .ok (.getfield 9, 3) := by decide +kernel
theorem dX4_who_27 : decode cX4_who 27 = .ok (.iconst 1, 1) := by decide +kernel
theorem dX4_who_28 : decode cX4_who 28 = .ok (.iaload, 1) := by decide +kernel
theorem dX4_who_29 : decode cX4_who 29 = .ok (.if_icmp .ge 28, 3) := by decide +kernel
theorem dX4_who_32 : decode cX4_who 32 = .ok (.iload_n 2, 1) := by decide +kernel
theorem dX4_who_33 : decode cX4_who 33 = .ok (.aload_n 0, 1) := by decide +kernel
theorem dX4_who_34 : decode cX4_who 34 = .ok (.iload_n 3, 1) := by decide +kernel
theorem dX4_who_35 : decode cX4_who 35 = .ok (.invokevirtual 155, 3) := by decide +kernel
theorem dX4_who_38 : decode cX4_who 38 = .ok (.iload_n 1, 1) := by decide +kernel
theorem dX4_who_39 : decode cX4_who 39 = .ok (.if_icmp .ne 9, 3) := by decide +kernel
theorem dX4_who_42 : decode cX4_who 42 = .ok (.iconst 1, 1) := by decide +kernel
theorem dX4_who_43 : decode cX4_who 43 = .ok (.iload_n 3, 1) := by decide +kernel
theorem dX4_who_44 : decode cX4_who 44 = .ok (.ishl, 1) := by decide +kernel
theorem dX4_who_45 : decode cX4_who 45 = .ok (.goto 4, 3) := by decide +kernel
theorem dX4_who_48 : decode cX4_who 48 = .ok (.iconst 0, 1) := by decide +kernel
theorem dX4_who_49 : decode cX4_who 49 = .ok (.ior, 1) := by decide +kernel
theorem dX4_who_50 : decode cX4_who 50 = .ok (.istore_n 2, 1) := by decide +kernel
theorem dX4_who_51 : decode cX4_who 51 = .ok (.iinc 3 1, 3) := by decide +kernel
theorem dX4_who_54 : decode cX4_who 54 = .ok (.goto (-32), 3) := by decide +kernel
theorem dX4_who_57 : decode cX4_who 57 = .ok (.iload_n 2, 1) := by decide +kernel
theorem dX4_who_58 : decode cX4_who 58 = .ok (.ireturn, 1) := by decide +kernel
set_option maxRecDepth 20000 in
theorem ggX4_nearest_X4_areTwo : GoodIn wsX4_nearest wsX4_areTwo := goodIn_r _ [11, 12, 13, 14, 10, 15, 2, 16, 17, 18, 60, 61, 62, 63, 64, 65, 66, 67, 68, 69, 70, 71, 72, 73, 74, 75, 76, 77, 78, 79, 80, 81, 82, 83] (by decide +kernel) (by decide +kernel)
set_option maxRecDepth 20000 in
theorem gX4_nearest_X4_areTwo : GoodIn wsX4_nearest (wsV RX4 164 RX4 yX4_areTwo wsX4_areTwo) := goodIn_app (goodIn_of _ (by decide +kernel)) ggX4_nearest_X4_areTwo
set_option maxRecDepth 20000 in
theorem ggX4_nearest_X4_finding : GoodIn wsX4_nearest wsX4_finding := goodIn_r _ [22, 23, 1, 60, 61, 62, 63, 64, 65, 66, 67, 68, 69, 70, 71, 72, 73, 74, 75, 76, 77, 78, 79, 80, 81, 82, 83] (by decide +kernel) (by decide +kernel)
set_option maxRecDepth 20000 in
theorem gX4_nearest_X4_finding : GoodIn wsX4_nearest (wsV RX4 78 RX4 yX4_finding wsX4_finding) := goodIn_app (goodIn_of _ (by decide +kernel)) ggX4_nearest_X4_finding
set_option maxRecDepth 20000 in
theorem ggX4_nearest_X4_playerIs : GoodIn wsX4_nearest wsX4_playerIs := goodIn_r _ [27, 2, 28, 29, 10, 30, 60, 61, 62, 63, 64, 65, 66, 67, 68, 69, 70, 71, 72, 73, 74, 75, 76, 77, 78, 79, 80, 81, 82, 83] (by decide +kernel) (by decide +kernel)
set_option maxRecDepth 20000 in
theorem gX4_nearest_X4_playerIs : GoodIn wsX4_nearest (wsV RX4 100 RX4 yX4_playerIs wsX4_playerIs) := goodIn_app (goodIn_of _ (by decide +kernel)) ggX4_nearest_X4_playerIs
set_option maxRecDepth 20000 in
theorem ggX4_nearest_X4_at : GoodIn wsX4_nearest wsX4_at := goodIn_r _ [30] (by decide +kernel) (by decide +kernel)
set_option maxRecDepth 20000 in
theorem gX4_nearest_X4_at : GoodIn wsX4_nearest (va_wsS RX4 86 yX4_at wsX4_at) := goodIn_app (goodIn_of _ (by decide +kernel)) ggX4_nearest_X4_at
set_option maxRecDepth 20000 in
theorem ggX4_nearest_X4_hearsIn : GoodIn wsX4_nearest wsX4_hearsIn := goodIn_r _ [34, 35, 36, 37, 10, 38, 24, 25, 26, 27, 2, 28, 29, 30, 39, 40, 41, 42, 43, 44, 5, 45, 3, 4, 6, 46, 47, 48, 49, 50, 51, 52, 53, 54, 55, 56, 60, 61, 62, 63, 64, 65, 66, 67, 68, 69, 70, 71, 72, 73, 74, 75, 76, 77, 78, 79, 80, 81, 82, 83] (by decide +kernel) (by decide +kernel)
set_option maxRecDepth 20000 in
theorem gX4_nearest_X4_hearsIn : GoodIn wsX4_nearest (wsV RX4 170 RX4 yX4_hearsIn wsX4_hearsIn) := goodIn_app (goodIn_of _ (by decide +kernel)) ggX4_nearest_X4_hearsIn
set_option maxRecDepth 20000 in
theorem ggX4_nearest_X4_bits : GoodIn wsX4_nearest wsX4_bits := goodIn_r _ [59] (by decide +kernel) (by decide +kernel)
set_option maxRecDepth 20000 in
theorem gX4_nearest_X4_bits : GoodIn wsX4_nearest (va_wsS RX4 220 yX4_bits wsX4_bits) := goodIn_app (goodIn_of _ (by decide +kernel)) ggX4_nearest_X4_bits
theorem dX4_nearest_0 : decode cX4_nearest 0 = .ok (.aload_n 0, 1) := by decide +kernel
theorem dX4_nearest_1 : decode cX4_nearest 1 = .ok (.iload_n 1, 1) := by decide +kernel
theorem dX4_nearest_2 : decode cX4_nearest 2 = .ok (.iload_n 2, 1) := by decide +kernel
theorem dX4_nearest_3 : decode cX4_nearest 3 = .ok (.invokevirtual 164, 3) := by decide +kernel
theorem dX4_nearest_6 : decode cX4_nearest 6 = .ok (.ifCond .ne 10, 3) := by decide +kernel
theorem dX4_nearest_9 : decode cX4_nearest 9 = .ok (.aload_n 0, 1) := by decide +kernel
theorem dX4_nearest_10 : decode cX4_nearest 10 = .ok (.ldc 72, 2) := by decide +kernel
theorem dX4_nearest_12 : decode cX4_nearest 12 = .ok (.invokevirtual 78, 3) := by decide +kernel
theorem dX4_nearest_15 : decode cX4_nearest 15 = .ok (.ireturn, 1) := by decide +kernel
theorem dX4_nearest_16 : decode cX4_nearest 16 = .ok (.aload_n 0, 1) := by decide +kernel
theorem dX4_nearest_17 : decode cX4_nearest 17 = .ok (.iload_n 1, 1) := by decide +kernel
theorem dX4_nearest_18 : decode cX4_nearest 18 = .ok (.iconst 1, 1) := by decide +kernel
theorem dX4_nearest_19 : decode cX4_nearest 19 = .ok (.invokevirtual 100, 3) := by decide +kernel
theorem dX4_nearest_22 : decode cX4_nearest 22 = .ok (.istore_n 3, 1) := by decide +kernel
theorem dX4_nearest_23 : decode cX4_nearest 23 = .ok (.iconst 0, 1) := by decide +kernel
theorem dX4_nearest_24 : decode cX4_nearest 24 = .ok (.istore 4, 2) := by decide +kernel
theorem dX4_nearest_26 : decode cX4_nearest 26 = .ok (.iconst (-1), 1) := by decide +kernel
theorem dX4_nearest_27 : decode cX4_nearest 27 = .ok (.istore 5, 2) := by decide +kernel
theorem dX4_nearest_29 : decode cX4_nearest 29 = .ok (.iconst 0, 1) := by decide +kernel
theorem dX4_nearest_30 : decode cX4_nearest 30 = .ok (.istore 6, 2) := by decide +kernel
theorem dX4_nearest_32 : decode cX4_nearest 32 = .ok (.iload 6, 2) := by decide +kernel
theorem dX4_nearest_34 : decode cX4_nearest 34 = .ok (.bipush 16, 2) := by decide +kernel
theorem dX4_nearest_36 : decode cX4_nearest 36 = .ok (.if_icmp .ge 57, 3) := by decide +kernel
theorem dX4_nearest_39 : decode cX4_nearest 39 = .ok (.aload_n 0, 1) := by decide +kernel
theorem dX4_nearest_40 : decode cX4_nearest 40 = .ok (.getfield 9, 3) := by decide +kernel
theorem dX4_nearest_43 : decode cX4_nearest 43 = .ok (.iload_n 1, 1) := by decide +kernel
theorem dX4_nearest_44 : decode cX4_nearest 44 = .ok (.iconst 1, 1) := by decide +kernel
theorem dX4_nearest_45 : decode cX4_nearest 45 = .ok (.invokestatic 86, 3) := by decide +kernel
theorem dX4_nearest_48 : decode cX4_nearest 48 = .ok (.iload 6, 2) := by decide +kernel
theorem dX4_nearest_50 : decode cX4_nearest 50 = .ok (.iastore, 1) := by decide +kernel
theorem dX4_nearest_51 : decode cX4_nearest 51 = .ok (.aload_n 0, 1) := by decide +kernel
theorem dX4_nearest_52 : decode cX4_nearest 52 = .ok (.iload_n 1, 1) := by decide +kernel
theorem dX4_nearest_53 : decode cX4_nearest 53 = .ok (.iload_n 2, 1) := by decide +kernel
theorem dX4_nearest_54 : decode cX4_nearest 54 = .ok (.invokevirtual 170, 3) := by decide +kernel
theorem dX4_nearest_57 : decode cX4_nearest 57 = .ok (.invokestatic 220, 3) := by decide +kernel
theorem dX4_nearest_60 : decode cX4_nearest 60 = .ok (.istore 7, 2) := by decide +kernel
theorem dX4_nearest_62 : decode cX4_nearest 62 = .ok (.iload 7, 2) := by decide +kernel
theorem dX4_nearest_64 : decode cX4_nearest 64 = .ok (.iload 5, 2) := by decide +kernel
theorem dX4_nearest_66 : decode cX4_nearest 66 = .ok (.if_icmp .le 8, 3) := by decide +kernel
theorem dX4_nearest_69 : decode cX4_nearest 69 = .ok (.iload 6, 2) := by decide +kernel
theorem dX4_nearest_71 : decode cX4_nearest 71 = .ok (.goto 5, 3) := by decide +kernel
theorem dX4_nearest_74 : decode cX4_nearest 74 = .ok (.iload 4, 2) := by decide +kernel
theorem dX4_nearest_76 : decode cX4_nearest 76 = .ok (.istore 4, 2) := by decide +kernel
theorem dX4_nearest_78 : decode cX4_nearest 78 = .ok (.iload 5, 2) := by decide +kernel
theorem dX4_nearest_80 : decode cX4_nearest 80 = .ok (.iload 7, 2) := by decide +kernel
theorem dX4_nearest_82 : decode cX4_nearest 82 = .ok (.invokestatic 118, 3) := by decide +kernel
theorem dX4_nearest_85 : decode cX4_nearest 85 = .ok (.istore 5, 2) := by decide +kernel
theorem dX4_nearest_87 : decode cX4_nearest 87 = .ok (.iinc 6 1, 3) := by decide +kernel
theorem dX4_nearest_90 : decode cX4_nearest 90 = .ok (.goto (-58), 3) := by decide +kernel
theorem dX4_nearest_93 : decode cX4_nearest 93 = .ok (.aload_n 0, 1) := by decide +kernel
theorem dX4_nearest_94 : decode cX4_nearest 94 = .ok (.getfield 9, 3) := by decide +kernel
theorem dX4_nearest_97 : decode cX4_nearest 97 = .ok (.iload_n 1, 1) := by decide +kernel
theorem dX4_nearest_98 : decode cX4_nearest 98 = .ok (.iconst 1, 1) := by decide +kernel
theorem dX4_nearest_99 : decode cX4_nearest 99 = .ok (.invokestatic 86, 3) := by decide +kernel
theorem dX4_nearest_102 : decode cX4_nearest 102 = .ok (.iload_n 3, 1) := by decide +kernel
theorem dX4_nearest_103 : decode cX4_nearest 103 = .ok (.iastore, 1) := by decide +kernel
theorem dX4_nearest_104 : decode cX4_nearest 104 = .ok (.iload 4, 2) := by decide +kernel
theorem dX4_nearest_106 : decode cX4_nearest 106 = .ok (.ireturn, 1) := by decide +kernel
set_option maxRecDepth 20000 in
theorem ggX4_linksNow_X4_hearsIn : GoodIn wsX4_linksNow wsX4_hearsIn := goodIn_r _ [6, 7, 8, 9, 5, 10, 11, 12, 13, 14, 1, 15, 16, 17, 18, 19, 20, 21, 22, 23, 24, 25, 26, 27, 28, 29, 30, 31, 32, 33, 34, 35, 36, 37, 38, 39, 40, 41, 42, 43, 44, 45, 46, 47, 48, 49, 50, 51, 52, 53, 54, 55, 56, 57, 58, 59, 60, 61, 62, 63] (by decide +kernel) (by decide +kernel)
set_option maxRecDepth 20000 in
theorem gX4_linksNow_X4_hearsIn : GoodIn wsX4_linksNow (wsV RX4 170 RX4 yX4_hearsIn wsX4_hearsIn) := goodIn_app (goodIn_of _ (by decide +kernel)) ggX4_linksNow_X4_hearsIn
theorem dX4_linksNow_0 : decode cX4_linksNow 0 = .ok (.iconst 0, 1) := by decide +kernel
theorem dX4_linksNow_1 : decode cX4_linksNow 1 = .ok (.istore_n 1, 1) := by decide +kernel
theorem dX4_linksNow_2 : decode cX4_linksNow 2 = .ok (.iconst 0, 1) := by decide +kernel
theorem dX4_linksNow_3 : decode cX4_linksNow 3 = .ok (.istore_n 2, 1) := by decide +kernel
theorem dX4_linksNow_4 : decode cX4_linksNow 4 = .ok (.iload_n 2, 1) := by decide +kernel
theorem dX4_linksNow_5 : decode cX4_linksNow 5 = .ok (.aload_n 0, 1) := by decide +kernel
theorem dX4_linksNow_6 : decode cX4_linksNow 6 = .ok (.getfield 9, 3) := by decide +kernel
theorem dX4_linksNow_9 : decode cX4_linksNow 9 = .ok (.iconst 1, 1) := by decide +kernel
theorem dX4_linksNow_10 : decode cX4_linksNow 10 = .ok (.iaload, 1) := by decide +kernel
theorem dX4_linksNow_11 : decode cX4_linksNow 11 = .ok (.if_icmp .ge 49, 3) := by decide +kernel
theorem dX4_linksNow_14 : decode cX4_linksNow 14 = .ok (.iconst 0, 1) := by decide +kernel
theorem dX4_linksNow_15 : decode cX4_linksNow 15 = .ok (.istore_n 3, 1) := by decide +kernel
theorem dX4_linksNow_16 : decode cX4_linksNow 16 = .ok (.iload_n 3, 1) := by decide +kernel
theorem dX4_linksNow_17 : decode cX4_linksNow 17 = .ok (.aload_n 0, 1) := by decide +kernel
theorem dX4_linksNow_18 : decode cX4_linksNow 18 = .ok (.getfield 9, 3) := by decide +kernel
theorem dX4_linksNow_21 : decode cX4_linksNow 21 = .ok (.iconst 1, 1) := by decide +kernel
theorem dX4_linksNow_22 : decode cX4_linksNow 22 = .ok (.iaload, 1) := by decide +kernel
theorem dX4_linksNow_23 : decode cX4_linksNow 23 = .ok (.if_icmp .ge 31, 3) := by decide +kernel
theorem dX4_linksNow_26 : decode cX4_linksNow 26 = .ok (.iload_n 1, 1) := by decide +kernel
theorem dX4_linksNow_27 : decode cX4_linksNow 27 = .ok (.iload_n 2, 1) := by decide +kernel
theorem dX4_linksNow_28 : decode cX4_linksNow 28 = .ok (.iload_n 3, 1) := by decide +kernel
theorem dX4_linksNow_29 : decode cX4_linksNow 29 = .ok (.if_icmp .eq 16, 3) := by decide +kernel
theorem dX4_linksNow_32 : decode cX4_linksNow 32 = .ok (.aload_n 0, 1) := by decide +kernel
theorem dX4_linksNow_33 : decode cX4_linksNow 33 = .ok (.iload_n 2, 1) := by decide +kernel
theorem dX4_linksNow_34 : decode cX4_linksNow 34 = .ok (.iload_n 3, 1) := by decide +kernel
theorem dX4_linksNow_35 : decode cX4_linksNow 35 = .ok (.invokevirtual 170, 3) := by decide +kernel
theorem dX4_linksNow_38 : decode cX4_linksNow 38 = .ok (.ifCond .eq 7, 3) := by decide +kernel
theorem dX4_linksNow_41 : decode cX4_linksNow 41 = .ok (.iconst 1, 1) := by decide +kernel
theorem dX4_linksNow_42 : decode cX4_linksNow 42 = .ok (.goto 4, 3) := by decide +kernel
theorem dX4_linksNow_45 : decode cX4_linksNow 45 = .ok (.iconst 0, 1) := by decide +kernel
theorem dX4_linksNow_46 : decode cX4_linksNow 46 = .ok (.iadd, 1) := by decide +kernel
theorem dX4_linksNow_47 : decode cX4_linksNow 47 = .ok (.istore_n 1, 1) := by decide +kernel
theorem dX4_linksNow_48 : decode cX4_linksNow 48 = .ok (.iinc 3 1, 3) := by decide +kernel
theorem dX4_linksNow_51 : decode cX4_linksNow 51 = .ok (.goto (-35), 3) := by decide +kernel
theorem dX4_linksNow_54 : decode cX4_linksNow 54 = .ok (.iinc 2 1, 3) := by decide +kernel
theorem dX4_linksNow_57 : decode cX4_linksNow 57 = .ok (.goto (-53), 3) := by decide +kernel
theorem dX4_linksNow_60 : decode cX4_linksNow 60 = .ok (.iload_n 1, 1) := by decide +kernel
theorem dX4_linksNow_61 : decode cX4_linksNow 61 = .ok (.ireturn, 1) := by decide +kernel
set_option maxRecDepth 20000 in
theorem ggX4_links_X4_linksNow : GoodIn wsX4_links wsX4_linksNow := goodIn_r _ [5, 6, 7, 8, 9, 4, 10, 11, 12, 13, 14, 15, 16, 17, 18, 19, 20, 21, 22, 23, 24, 25, 26, 27, 28, 29, 30, 31, 32, 33, 34, 35, 36, 37, 38, 39, 40, 41, 42, 43, 44, 45, 46, 47, 48, 49, 50, 51, 52, 53, 54, 55, 56, 57, 58, 59, 60, 61, 62, 63, 64, 65, 66, 67] (by decide +kernel) (by decide +kernel)
set_option maxRecDepth 20000 in
theorem gX4_links_X4_linksNow : GoodIn wsX4_links (wsV RX4 226 RX4 yX4_linksNow wsX4_linksNow) := goodIn_app (goodIn_of _ (by decide +kernel)) ggX4_links_X4_linksNow
theorem dX4_links_0 : decode cX4_links 0 = .ok (.aload_n 0, 1) := by decide +kernel
theorem dX4_links_1 : decode cX4_links 1 = .ok (.invokevirtual 226, 3) := by decide +kernel
theorem dX4_links_4 : decode cX4_links 4 = .ok (.ireturn, 1) := by decide +kernel
set_option maxRecDepth 20000 in
theorem ggX4_bestSwap_X4_swapped : GoodIn wsX4_bestSwap wsX4_swapped := goodIn_r _ [10, 11, 12, 9, 13, 14, 15, 16, 17, 1, 18, 19, 20, 21, 63, 64, 65, 66, 67, 68, 69, 70, 71, 72, 73, 74, 75, 76, 77, 78, 79, 80, 81, 82, 83, 84, 85, 86] (by decide +kernel) (by decide +kernel)
set_option maxRecDepth 20000 in
theorem gX4_bestSwap_X4_swapped : GoodIn wsX4_bestSwap (wsV RX4 167 RX4 yX4_swapped wsX4_swapped) := goodIn_app (goodIn_of _ (by decide +kernel)) ggX4_bestSwap_X4_swapped
set_option maxRecDepth 20000 in
theorem ggX4_bestSwap_X4_linksNow : GoodIn wsX4_bestSwap wsX4_linksNow := goodIn_r _ [25, 1, 26, 27, 28, 9, 29, 30, 31, 32, 33, 14, 15, 16, 17, 11, 12, 13, 34, 35, 36, 37, 38, 39, 4, 40, 2, 3, 5, 41, 42, 43, 44, 45, 46, 47, 48, 49, 50, 51, 63, 64, 65, 66, 67, 68, 69, 70, 71, 72, 73, 74, 75, 76, 77, 78, 79, 80, 81, 82, 83, 84, 85, 86] (by decide +kernel) (by decide +kernel)
set_option maxRecDepth 20000 in
theorem gX4_bestSwap_X4_linksNow : GoodIn wsX4_bestSwap (wsV RX4 226 RX4 yX4_linksNow wsX4_linksNow) := goodIn_app (goodIn_of _ (by decide +kernel)) ggX4_bestSwap_X4_linksNow
set_option maxRecDepth 20000 in
theorem ggX4_bestSwap_X4_orNone : GoodIn wsX4_bestSwap wsX4_orNone := goodIn_r _ [55, 56, 57, 58, 59, 9, 60, 61, 62, 63, 64, 65, 66, 67, 68, 69, 70, 71, 72, 73, 74, 75, 76, 77, 78, 79, 80, 81, 82, 83, 84, 85, 86] (by decide +kernel) (by decide +kernel)
set_option maxRecDepth 20000 in
theorem gX4_bestSwap_X4_orNone : GoodIn wsX4_bestSwap (wsV RX4 203 RX4 yX4_orNone wsX4_orNone) := goodIn_app (goodIn_of _ (by decide +kernel)) ggX4_bestSwap_X4_orNone
theorem dX4_bestSwap_0 : decode cX4_bestSwap 0 = .ok (.iconst (-1), 1) := by decide +kernel
theorem dX4_bestSwap_1 : decode cX4_bestSwap 1 = .ok (.istore_n 1, 1) := by decide +kernel
theorem dX4_bestSwap_2 : decode cX4_bestSwap 2 = .ok (.iconst (-1), 1) := by decide +kernel
theorem dX4_bestSwap_3 : decode cX4_bestSwap 3 = .ok (.istore_n 2, 1) := by decide +kernel
theorem dX4_bestSwap_4 : decode cX4_bestSwap 4 = .ok (.iconst 0, 1) := by decide +kernel
theorem dX4_bestSwap_5 : decode cX4_bestSwap 5 = .ok (.istore_n 3, 1) := by decide +kernel
theorem dX4_bestSwap_6 : decode cX4_bestSwap 6 = .ok (.iload_n 3, 1) := by decide +kernel
theorem dX4_bestSwap_7 : decode cX4_bestSwap 7 = .ok (.aload_n 0, 1) := by decide +kernel
theorem dX4_bestSwap_8 : decode cX4_bestSwap 8 = .ok (.getfield 9, 3) := by decide +kernel
theorem dX4_bestSwap_11 : decode cX4_bestSwap 11 = .ok (.iconst 1, 1) := by decide +kernel
theorem dX4_bestSwap_12 : decode cX4_bestSwap 12 = .ok (.iaload, 1) := by decide +kernel
theorem dX4_bestSwap_13 : decode cX4_bestSwap 13 = .ok (.if_icmp .ge 88, 3) := by decide +kernel
theorem dX4_bestSwap_16 : decode cX4_bestSwap 16 = .ok (.iload_n 3, 1) := by decide +kernel
theorem dX4_bestSwap_17 : decode cX4_bestSwap 17 = .ok (.iconst 1, 1) := by decide +kernel
theorem dX4_bestSwap_18 : decode cX4_bestSwap 18 = .ok (.iadd, 1) := by decide +kernel
theorem dX4_bestSwap_19 : decode cX4_bestSwap 19 = .ok (.istore 4, 2) := by decide +kernel
theorem dX4_bestSwap_21 : decode cX4_bestSwap 21 = .ok (.iload 4, 2) := by decide +kernel
theorem dX4_bestSwap_23 : decode cX4_bestSwap 23 = .ok (.aload_n 0, 1) := by decide +kernel
theorem dX4_bestSwap_24 : decode cX4_bestSwap 24 = .ok (.getfield 9, 3) := by decide +kernel
theorem dX4_bestSwap_27 : decode cX4_bestSwap 27 = .ok (.iconst 1, 1) := by decide +kernel
theorem dX4_bestSwap_28 : decode cX4_bestSwap 28 = .ok (.iaload, 1) := by decide +kernel
theorem dX4_bestSwap_29 : decode cX4_bestSwap 29 = .ok (.if_icmp .ge 66, 3) := by decide +kernel
theorem dX4_bestSwap_32 : decode cX4_bestSwap 32 = .ok (.aload_n 0, 1) := by decide +kernel
theorem dX4_bestSwap_33 : decode cX4_bestSwap 33 = .ok (.iload_n 3, 1) := by decide +kernel
theorem dX4_bestSwap_34 : decode cX4_bestSwap 34 = .ok (.iload 4, 2) := by decide +kernel
theorem dX4_bestSwap_36 : decode cX4_bestSwap 36 = .ok (.invokevirtual 167, 3) := by decide +kernel
theorem dX4_bestSwap_39 : decode cX4_bestSwap 39 = .ok (.istore 5, 2) := by decide +kernel
theorem dX4_bestSwap_41 : decode cX4_bestSwap 41 = .ok (.aload_n 0, 1) := by decide +kernel
theorem dX4_bestSwap_42 : decode cX4_bestSwap 42 = .ok (.invokevirtual 226, 3) := by decide +kernel
theorem dX4_bestSwap_45 : decode cX4_bestSwap 45 = .ok (.istore 6, 2) := by decide +kernel
theorem dX4_bestSwap_47 : decode cX4_bestSwap 47 = .ok (.iload 5, 2) := by decide +kernel
theorem dX4_bestSwap_49 : decode cX4_bestSwap 49 = .ok (.aload_n 0, 1) := by decide +kernel
theorem dX4_bestSwap_50 : decode cX4_bestSwap 50 = .ok (.iload_n 3, 1) := by decide +kernel
theorem dX4_bestSwap_51 : decode cX4_bestSwap 51 = .ok (.iload 4, 2) := by decide +kernel
theorem dX4_bestSwap_53 : decode cX4_bestSwap 53 = .ok (.invokevirtual 167, 3) := by decide +kernel
theorem dX4_bestSwap_56 : decode cX4_bestSwap 56 = .ok (.iadd, 1) := by decide +kernel
theorem dX4_bestSwap_57 : decode cX4_bestSwap 57 = .ok (.istore 5, 2) := by decide +kernel
theorem dX4_bestSwap_59 : decode cX4_bestSwap 59 = .ok (.iload 6, 2) := by decide +kernel
theorem dX4_bestSwap_61 : decode cX4_bestSwap 61 = .ok (.iload_n 2, 1) := by decide +kernel
theorem dX4_bestSwap_62 : decode cX4_bestSwap 62 = .ok (.if_icmp .le 18, 3) := by decide +kernel
theorem dX4_bestSwap_65 : decode cX4_bestSwap 65 = .ok (.iload 5, 2) := by decide +kernel
theorem dX4_bestSwap_67 : decode cX4_bestSwap 67 = .ok (.ifCond .lt 13, 3) := by decide +kernel
theorem dX4_bestSwap_70 : decode cX4_bestSwap 70 = .ok (.bipush 8, 2) := by decide +kernel
theorem dX4_bestSwap_72 : decode cX4_bestSwap 72 = .ok (.iload_n 3, 1) := by decide +kernel
theorem dX4_bestSwap_73 : decode cX4_bestSwap 73 = .ok (.imul, 1) := by decide +kernel
theorem dX4_bestSwap_74 : decode cX4_bestSwap 74 = .ok (.iload 4, 2) := by decide +kernel
theorem dX4_bestSwap_76 : decode cX4_bestSwap 76 = .ok (.iadd, 1) := by decide +kernel
theorem dX4_bestSwap_77 : decode cX4_bestSwap 77 = .ok (.goto 4, 3) := by decide +kernel
theorem dX4_bestSwap_80 : decode cX4_bestSwap 80 = .ok (.iload_n 1, 1) := by decide +kernel
theorem dX4_bestSwap_81 : decode cX4_bestSwap 81 = .ok (.istore_n 1, 1) := by decide +kernel
theorem dX4_bestSwap_82 : decode cX4_bestSwap 82 = .ok (.iload_n 2, 1) := by decide +kernel
theorem dX4_bestSwap_83 : decode cX4_bestSwap 83 = .ok (.iload 6, 2) := by decide +kernel
theorem dX4_bestSwap_85 : decode cX4_bestSwap 85 = .ok (.invokestatic 118, 3) := by decide +kernel
theorem dX4_bestSwap_88 : decode cX4_bestSwap 88 = .ok (.istore_n 2, 1) := by decide +kernel
theorem dX4_bestSwap_89 : decode cX4_bestSwap 89 = .ok (.iinc 4 1, 3) := by decide +kernel
theorem dX4_bestSwap_92 : decode cX4_bestSwap 92 = .ok (.goto (-71), 3) := by decide +kernel
theorem dX4_bestSwap_95 : decode cX4_bestSwap 95 = .ok (.iinc 3 1, 3) := by decide +kernel
theorem dX4_bestSwap_98 : decode cX4_bestSwap 98 = .ok (.goto (-92), 3) := by decide +kernel
theorem dX4_bestSwap_101 : decode cX4_bestSwap 101 = .ok (.aload_n 0, 1) := by decide +kernel
theorem dX4_bestSwap_102 : decode cX4_bestSwap 102 = .ok (.iload_n 1, 1) := by decide +kernel
theorem dX4_bestSwap_103 : decode cX4_bestSwap 103 = .ok (.invokevirtual 203, 3) := by decide +kernel
theorem dX4_bestSwap_106 : decode cX4_bestSwap 106 = .ok (.ireturn, 1) := by decide +kernel
set_option maxRecDepth 20000 in
theorem ggX4_loudFor_X4_isPlayer : GoodIn wsX4_loudFor wsX4_isPlayer := goodIn_r _ [11, 12, 13, 14, 10, 15, 45, 46, 47, 48, 49, 50, 51, 52, 53, 54, 55, 56, 57, 58, 59, 60, 61, 62, 63, 64, 65, 66, 67, 68] (by decide +kernel) (by decide +kernel)
set_option maxRecDepth 20000 in
theorem gX4_loudFor_X4_isPlayer : GoodIn wsX4_loudFor (wsV RX4 152 RX4 yX4_isPlayer wsX4_isPlayer) := goodIn_app (goodIn_of _ (by decide +kernel)) ggX4_loudFor_X4_isPlayer
set_option maxRecDepth 20000 in
theorem ggX4_loudFor_X4_isSeat : GoodIn wsX4_loudFor wsX4_isSeat := goodIn_r _ [18, 13, 14, 10, 15] (by decide +kernel) (by decide +kernel)
set_option maxRecDepth 20000 in
theorem gX4_loudFor_X4_isSeat : GoodIn wsX4_loudFor (va_wsS RX4 138 yX4_isSeat wsX4_isSeat) := goodIn_app (goodIn_of _ (by decide +kernel)) ggX4_loudFor_X4_isSeat
set_option maxRecDepth 20000 in
theorem ggX4_loudFor_X4_isBar : GoodIn wsX4_loudFor wsX4_isBar := goodIn_r _ [21, 13, 14, 10, 15] (by decide +kernel) (by decide +kernel)
set_option maxRecDepth 20000 in
theorem gX4_loudFor_X4_isBar : GoodIn wsX4_loudFor (va_wsS RX4 90 yX4_isBar wsX4_isBar) := goodIn_app (goodIn_of _ (by decide +kernel)) ggX4_loudFor_X4_isBar
set_option maxRecDepth 20000 in
theorem ggX4_loudFor_X4_finding : GoodIn wsX4_loudFor wsX4_finding := goodIn_r _ [25, 26, 1, 45, 46, 47, 48, 49, 50, 51, 52, 53, 54, 55, 56, 57, 58, 59, 60, 61, 62, 63, 64, 65, 66, 67, 68] (by decide +kernel) (by decide +kernel)
set_option maxRecDepth 20000 in
theorem gX4_loudFor_X4_finding : GoodIn wsX4_loudFor (wsV RX4 78 RX4 yX4_finding wsX4_finding) := goodIn_app (goodIn_of _ (by decide +kernel)) ggX4_loudFor_X4_finding
set_option maxRecDepth 20000 in
theorem ggX4_loudFor_X4_playerIs : GoodIn wsX4_loudFor wsX4_playerIs := goodIn_r _ [30, 12, 31, 32, 10, 33, 45, 46, 47, 48, 49, 50, 51, 52, 53, 54, 55, 56, 57, 58, 59, 60, 61, 62, 63, 64, 65, 66, 67, 68] (by decide +kernel) (by decide +kernel)
set_option maxRecDepth 20000 in
theorem gX4_loudFor_X4_playerIs : GoodIn wsX4_loudFor (wsV RX4 100 RX4 yX4_playerIs wsX4_playerIs) := goodIn_app (goodIn_of _ (by decide +kernel)) ggX4_loudFor_X4_playerIs
set_option maxRecDepth 20000 in
theorem ggX4_loudFor_X4_plays : GoodIn wsX4_loudFor wsX4_plays := goodIn_r _ [37, 12, 27, 28, 29, 10, 30, 31, 32, 33, 38, 39, 40, 41, 42, 43, 44, 45, 46, 47, 48, 49, 50, 51, 52, 53, 54, 55, 56, 57, 58, 59, 60, 61, 62, 63, 64, 65, 66, 67, 68] (by decide +kernel) (by decide +kernel)
set_option maxRecDepth 20000 in
theorem gX4_loudFor_X4_plays : GoodIn wsX4_loudFor (wsV RX4 110 RX4 yX4_plays wsX4_plays) := goodIn_app (goodIn_of _ (by decide +kernel)) ggX4_loudFor_X4_plays
theorem dX4_loudFor_0 : decode cX4_loudFor 0 = .ok (.aload_n 0, 1) := by decide +kernel
theorem dX4_loudFor_1 : decode cX4_loudFor 1 = .ok (.iload_n 1, 1) := by decide +kernel
theorem dX4_loudFor_2 : decode cX4_loudFor 2 = .ok (.invokevirtual 152, 3) := by decide +kernel
theorem dX4_loudFor_5 : decode cX4_loudFor 5 = .ok (.ifCond .eq 17, 3) := by decide +kernel
theorem dX4_loudFor_8 : decode cX4_loudFor 8 = .ok (.iload_n 2, 1) := by decide +kernel
theorem dX4_loudFor_9 : decode cX4_loudFor 9 = .ok (.invokestatic 138, 3) := by decide +kernel
theorem dX4_loudFor_12 : decode cX4_loudFor 12 = .ok (.ifCond .eq 10, 3) := by decide +kernel
theorem dX4_loudFor_15 : decode cX4_loudFor 15 = .ok (.iload_n 3, 1) := by decide +kernel
theorem dX4_loudFor_16 : decode cX4_loudFor 16 = .ok (.invokestatic 90, 3) := by decide +kernel
theorem dX4_loudFor_19 : decode cX4_loudFor 19 = .ok (.ifCond .ne 10, 3) := by decide +kernel
theorem dX4_loudFor_22 : decode cX4_loudFor 22 = .ok (.aload_n 0, 1) := by decide +kernel
theorem dX4_loudFor_23 : decode cX4_loudFor 23 = .ok (.ldc 72, 2) := by decide +kernel
theorem dX4_loudFor_25 : decode cX4_loudFor 25 = .ok (.invokevirtual 78, 3) := by decide +kernel
theorem dX4_loudFor_28 : decode cX4_loudFor 28 = .ok (.ireturn, 1) := by decide +kernel
theorem dX4_loudFor_29 : decode cX4_loudFor 29 = .ok (.iconst 1, 1) := by decide +kernel
theorem dX4_loudFor_30 : decode cX4_loudFor 30 = .ok (.aload_n 0, 1) := by decide +kernel
theorem dX4_loudFor_31 : decode cX4_loudFor 31 = .ok (.iload_n 1, 1) := by decide +kernel
theorem dX4_loudFor_32 : decode cX4_loudFor 32 = .ok (.iconst 1, 1) := by decide +kernel
theorem dX4_loudFor_33 : decode cX4_loudFor 33 = .ok (.invokevirtual 100, 3) := by decide +kernel
theorem dX4_loudFor_36 : decode cX4_loudFor 36 = .ok (.iload_n 2, 1) := by decide +kernel
theorem dX4_loudFor_37 : decode cX4_loudFor 37 = .ok (.isub, 1) := by decide +kernel
theorem dX4_loudFor_38 : decode cX4_loudFor 38 = .ok (.invokestatic 113, 3) := by decide +kernel
theorem dX4_loudFor_41 : decode cX4_loudFor 41 = .ok (.iadd, 1) := by decide +kernel
theorem dX4_loudFor_42 : decode cX4_loudFor 42 = .ok (.istore 4, 2) := by decide +kernel
theorem dX4_loudFor_44 : decode cX4_loudFor 44 = .ok (.iload 4, 2) := by decide +kernel
theorem dX4_loudFor_46 : decode cX4_loudFor 46 = .ok (.bipush 9, 2) := by decide +kernel
theorem dX4_loudFor_48 : decode cX4_loudFor 48 = .ok (.if_icmp .gt 12, 3) := by decide +kernel
theorem dX4_loudFor_51 : decode cX4_loudFor 51 = .ok (.aload_n 0, 1) := by decide +kernel
theorem dX4_loudFor_52 : decode cX4_loudFor 52 = .ok (.iload_n 1, 1) := by decide +kernel
theorem dX4_loudFor_53 : decode cX4_loudFor 53 = .ok (.iload_n 3, 1) := by decide +kernel
theorem dX4_loudFor_54 : decode cX4_loudFor 54 = .ok (.invokevirtual 110, 3) := by decide +kernel
theorem dX4_loudFor_57 : decode cX4_loudFor 57 = .ok (.ifCond .ne 12, 3) := by decide +kernel
theorem dX4_loudFor_60 : decode cX4_loudFor 60 = .ok (.aload_n 0, 1) := by decide +kernel
theorem dX4_loudFor_61 : decode cX4_loudFor 61 = .ok (.ldc 77, 2) := by decide +kernel
theorem dX4_loudFor_63 : decode cX4_loudFor 63 = .ok (.invokevirtual 78, 3) := by decide +kernel
theorem dX4_loudFor_66 : decode cX4_loudFor 66 = .ok (.goto 5, 3) := by decide +kernel
theorem dX4_loudFor_69 : decode cX4_loudFor 69 = .ok (.iload 4, 2) := by decide +kernel
theorem dX4_loudFor_71 : decode cX4_loudFor 71 = .ok (.ireturn, 1) := by decide +kernel
set_option maxRecDepth 20000 in
theorem ggX4_lacks_X4_isSheet : GoodIn wsX4_lacks wsX4_isSheet := goodIn_r _ [7, 8, 9, 6, 10] (by decide +kernel) (by decide +kernel)
set_option maxRecDepth 20000 in
theorem gX4_lacks_X4_isSheet : GoodIn wsX4_lacks (va_wsS RX4 229 yX4_isSheet wsX4_isSheet) := goodIn_app (goodIn_of _ (by decide +kernel)) ggX4_lacks_X4_isSheet
theorem dX4_lacks_0 : decode cX4_lacks 0 = .ok (.iload_n 1, 1) := by decide +kernel
theorem dX4_lacks_1 : decode cX4_lacks 1 = .ok (.invokestatic 229, 3) := by decide +kernel
theorem dX4_lacks_4 : decode cX4_lacks 4 = .ok (.ifCond .ne 8, 3) := by decide +kernel
theorem dX4_lacks_7 : decode cX4_lacks 7 = .ok (.ldc 72, 2) := by decide +kernel
theorem dX4_lacks_9 : decode cX4_lacks 9 = .ok (.goto 18, 3) := by decide +kernel
theorem dX4_lacks_12 : decode cX4_lacks 12 = .ok (.aload_n 0, 1) := by decide +kernel
theorem dX4_lacks_13 : decode cX4_lacks 13 = .ok (.getfield 60, 3) := by decide +kernel
theorem dX4_lacks_16 : decode cX4_lacks 16 = .ok (.iload_n 1, 1) := by decide +kernel
theorem dX4_lacks_17 : decode cX4_lacks 17 = .ok (.iaload, 1) := by decide +kernel
theorem dX4_lacks_18 : decode cX4_lacks 18 = .ok (.ifCond .ne 8, 3) := by decide +kernel
theorem dX4_lacks_21 : decode cX4_lacks 21 = .ok (.ldc 232, 2) := by decide +kernel
theorem dX4_lacks_23 : decode cX4_lacks 23 = .ok (.goto 4, 3) := by decide +kernel
theorem dX4_lacks_26 : decode cX4_lacks 26 = .ok (.iconst 0, 1) := by decide +kernel
theorem dX4_lacks_27 : decode cX4_lacks 27 = .ok (.ireturn, 1) := by decide +kernel
set_option maxRecDepth 20000 in
theorem ggX4_wentSo_X4_copyRow : GoodIn wsX4_wentSo wsX4_copyRow := goodIn_r _ [8] (by decide +kernel) (by decide +kernel)
set_option maxRecDepth 20000 in
theorem gX4_wentSo_X4_copyRow : GoodIn wsX4_wentSo (va_wsS RX4 73 yX4_copyRow wsX4_copyRow) := goodIn_app (goodIn_of _ (by decide +kernel)) ggX4_wentSo_X4_copyRow
set_option maxRecDepth 20000 in
theorem ggX4_wentSo_X4_playerIs : GoodIn wsX4_wentSo wsX4_playerIs := goodIn_r _ [12, 1, 13, 14, 7, 15, 58, 59, 60, 61, 62, 63, 64, 65, 66, 67, 68, 69, 70, 71, 72, 73, 74, 75, 76, 77, 78, 79, 80, 81] (by decide +kernel) (by decide +kernel)
set_option maxRecDepth 20000 in
theorem gX4_wentSo_X4_playerIs : GoodIn wsX4_wentSo (wsV RX4 100 RX4 yX4_playerIs wsX4_playerIs) := goodIn_app (goodIn_of _ (by decide +kernel)) ggX4_wentSo_X4_playerIs
set_option maxRecDepth 20000 in
theorem ggX4_wentSo_X4_evening : GoodIn wsX4_wentSo wsX4_evening := goodIn_r _ [19, 1, 20, 21, 22, 7, 23, 24, 25, 26, 27, 28, 29, 30, 31, 32, 33, 34, 35, 9, 10, 11, 12, 13, 14, 15, 36, 37, 38, 39, 40, 41, 42, 43, 44, 45, 46, 47, 48, 49, 50, 51, 52, 53, 54, 55, 56, 57, 58, 59, 60, 61, 62, 63, 64, 65, 66, 67, 68, 69, 70, 71, 72, 73, 74, 75, 76, 77, 78, 79, 80, 81] (by decide +kernel) (by decide +kernel)
set_option maxRecDepth 20000 in
theorem gX4_wentSo_X4_evening : GoodIn wsX4_wentSo (wsV RX4 180 RX4 yX4_evening wsX4_evening) := goodIn_app (goodIn_of _ (by decide +kernel)) ggX4_wentSo_X4_evening
theorem dX4_wentSo_0 : decode cX4_wentSo 0 = .ok (.aload_n 0, 1) := by decide +kernel
theorem dX4_wentSo_1 : decode cX4_wentSo 1 = .ok (.getfield 9, 3) := by decide +kernel
theorem dX4_wentSo_4 : decode cX4_wentSo 4 = .ok (.aload_n 0, 1) := by decide +kernel
theorem dX4_wentSo_5 : decode cX4_wentSo 5 = .ok (.getfield 16, 3) := by decide +kernel
theorem dX4_wentSo_8 : decode cX4_wentSo 8 = .ok (.invokestatic 73, 3) := by decide +kernel
theorem dX4_wentSo_11 : decode cX4_wentSo 11 = .ok (.iconst 1, 1) := by decide +kernel
theorem dX4_wentSo_12 : decode cX4_wentSo 12 = .ok (.istore_n 3, 1) := by decide +kernel
theorem dX4_wentSo_13 : decode cX4_wentSo 13 = .ok (.iconst 0, 1) := by decide +kernel
theorem dX4_wentSo_14 : decode cX4_wentSo 14 = .ok (.istore 4, 2) := by decide +kernel
theorem dX4_wentSo_16 : decode cX4_wentSo 16 = .ok (.iload 4, 2) := by decide +kernel
theorem dX4_wentSo_18 : decode cX4_wentSo 18 = .ok (.aload_n 0, 1) := by decide +kernel
theorem dX4_wentSo_19 : decode cX4_wentSo 19 = .ok (.getfield 63, 3) := by decide +kernel
theorem dX4_wentSo_22 : decode cX4_wentSo 22 = .ok (.iload_n 1, 1) := by decide +kernel
theorem dX4_wentSo_23 : decode cX4_wentSo 23 = .ok (.iaload, 1) := by decide +kernel
theorem dX4_wentSo_24 : decode cX4_wentSo 24 = .ok (.if_icmp .ge 54, 3) := by decide +kernel
theorem dX4_wentSo_27 : decode cX4_wentSo 27 = .ok (.iload_n 3, 1) := by decide +kernel
theorem dX4_wentSo_28 : decode cX4_wentSo 28 = .ok (.ifCond .eq 50, 3) := by decide +kernel
theorem dX4_wentSo_31 : decode cX4_wentSo 31 = .ok (.aload_n 0, 1) := by decide +kernel
theorem dX4_wentSo_32 : decode cX4_wentSo 32 = .ok (.getfield 66, 3) := by decide +kernel
theorem dX4_wentSo_35 : decode cX4_wentSo 35 = .ok (.bipush 40, 2) := by decide +kernel
theorem dX4_wentSo_37 : decode cX4_wentSo 37 = .ok (.iload_n 1, 1) := by decide +kernel
theorem dX4_wentSo_38 : decode cX4_wentSo 38 = .ok (.imul, 1) := by decide +kernel
theorem dX4_wentSo_39 : decode cX4_wentSo 39 = .ok (.iload 4, 2) := by decide +kernel
theorem dX4_wentSo_41 : decode cX4_wentSo 41 = .ok (.iadd, 1) := by decide +kernel
theorem dX4_wentSo_42 : decode cX4_wentSo 42 = .ok (.iaload, 1) := by decide +kernel
theorem dX4_wentSo_43 : decode cX4_wentSo 43 = .ok (.istore 5, 2) := by decide +kernel
theorem dX4_wentSo_45 : decode cX4_wentSo 45 = .ok (.iload 5, 2) := by decide +kernel
theorem dX4_wentSo_47 : decode cX4_wentSo 47 = .ok (.iconst (-1), 1) := by decide +kernel
theorem dX4_wentSo_48 : decode cX4_wentSo 48 = .ok (.if_icmp .eq 14, 3) := by decide +kernel
theorem dX4_wentSo_51 : decode cX4_wentSo 51 = .ok (.iload 5, 2) := by decide +kernel
theorem dX4_wentSo_53 : decode cX4_wentSo 53 = .ok (.aload_n 0, 1) := by decide +kernel
theorem dX4_wentSo_54 : decode cX4_wentSo 54 = .ok (.iload_n 2, 1) := by decide +kernel
theorem dX4_wentSo_55 : decode cX4_wentSo 55 = .ok (.iconst 4, 1) := by decide +kernel
theorem dX4_wentSo_56 : decode cX4_wentSo 56 = .ok (.invokevirtual 100, 3) := by decide +kernel
theorem dX4_wentSo_59 : decode cX4_wentSo 59 = .ok (.if_icmp .ne 7, 3) := by decide +kernel
theorem dX4_wentSo_62 : decode cX4_wentSo 62 = .ok (.iconst 1, 1) := by decide +kernel
theorem dX4_wentSo_63 : decode cX4_wentSo 63 = .ok (.goto 4, 3) := by decide +kernel
theorem dX4_wentSo_66 : decode cX4_wentSo 66 = .ok (.iconst 0, 1) := by decide +kernel
theorem dX4_wentSo_67 : decode cX4_wentSo 67 = .ok (.istore_n 3, 1) := by decide +kernel
theorem dX4_wentSo_68 : decode cX4_wentSo 68 = .ok (.aload_n 0, 1) := by decide +kernel
theorem dX4_wentSo_69 : decode cX4_wentSo 69 = .ok (.invokevirtual 180, 3) := by decide +kernel
theorem dX4_wentSo_72 : decode cX4_wentSo 72 = .ok (.iinc 4 1, 3) := by decide +kernel
theorem dX4_wentSo_75 : decode cX4_wentSo 75 = .ok (.goto (-59), 3) := by decide +kernel
theorem dX4_wentSo_78 : decode cX4_wentSo 78 = .ok (.aload_n 0, 1) := by decide +kernel
theorem dX4_wentSo_79 : decode cX4_wentSo 79 = .ok (.getfield 16, 3) := by decide +kernel
theorem dX4_wentSo_82 : decode cX4_wentSo 82 = .ok (.aload_n 0, 1) := by decide +kernel
theorem dX4_wentSo_83 : decode cX4_wentSo 83 = .ok (.getfield 9, 3) := by decide +kernel
theorem dX4_wentSo_86 : decode cX4_wentSo 86 = .ok (.invokestatic 73, 3) := by decide +kernel
theorem dX4_wentSo_89 : decode cX4_wentSo 89 = .ok (.iload_n 3, 1) := by decide +kernel
theorem dX4_wentSo_90 : decode cX4_wentSo 90 = .ok (.ireturn, 1) := by decide +kernel
set_option maxRecDepth 20000 in
theorem ggX4_fitting_X4_playerIs : GoodIn wsX4_fitting wsX4_playerIs := goodIn_r _ [6, 1, 7, 8, 5, 9, 62, 63, 64, 65, 66, 67, 68, 69, 70, 71, 72, 73, 74, 75, 76, 77, 78, 79, 80, 81, 82, 83, 84, 85] (by decide +kernel) (by decide +kernel)
set_option maxRecDepth 20000 in
theorem gX4_fitting_X4_playerIs : GoodIn wsX4_fitting (wsV RX4 100 RX4 yX4_playerIs wsX4_playerIs) := goodIn_app (goodIn_of _ (by decide +kernel)) ggX4_fitting_X4_playerIs
set_option maxRecDepth 20000 in
theorem ggX4_fitting_X4_at : GoodIn wsX4_fitting wsX4_at := goodIn_r _ [9] (by decide +kernel) (by decide +kernel)
set_option maxRecDepth 20000 in
theorem gX4_fitting_X4_at : GoodIn wsX4_fitting (va_wsS RX4 86 yX4_at wsX4_at) := goodIn_app (goodIn_of _ (by decide +kernel)) ggX4_fitting_X4_at
set_option maxRecDepth 20000 in
theorem ggX4_fitting_X4_wentSo : GoodIn wsX4_fitting wsX4_wentSo := goodIn_r _ [13, 1, 14, 15, 16, 17, 18, 5, 19, 2, 3, 4, 6, 7, 8, 9, 20, 21, 22, 23, 24, 25, 26, 27, 28, 29, 30, 31, 32, 33, 34, 35, 36, 37, 38, 39, 40, 41, 42, 43, 44, 45, 46, 47, 48, 49, 50, 51, 52, 53, 54, 55, 56, 57, 58, 59, 60, 61, 62, 63, 64, 65, 66, 67, 68, 69, 70, 71, 72, 73, 74, 75, 76, 77, 78, 79, 80, 81, 82, 83, 84, 85] (by decide +kernel) (by decide +kernel)
set_option maxRecDepth 20000 in
theorem gX4_fitting_X4_wentSo : GoodIn wsX4_fitting (wsV RX4 233 RX4 yX4_wentSo wsX4_wentSo) := goodIn_app (goodIn_of _ (by decide +kernel)) ggX4_fitting_X4_wentSo
theorem dX4_fitting_0 : decode cX4_fitting 0 = .ok (.aload_n 0, 1) := by decide +kernel
theorem dX4_fitting_1 : decode cX4_fitting 1 = .ok (.iload_n 2, 1) := by decide +kernel
theorem dX4_fitting_2 : decode cX4_fitting 2 = .ok (.iload_n 3, 1) := by decide +kernel
theorem dX4_fitting_3 : decode cX4_fitting 3 = .ok (.invokevirtual 100, 3) := by decide +kernel
theorem dX4_fitting_6 : decode cX4_fitting 6 = .ok (.istore 5, 2) := by decide +kernel
theorem dX4_fitting_8 : decode cX4_fitting 8 = .ok (.iconst 0, 1) := by decide +kernel
theorem dX4_fitting_9 : decode cX4_fitting 9 = .ok (.istore 6, 2) := by decide +kernel
theorem dX4_fitting_11 : decode cX4_fitting 11 = .ok (.iconst 0, 1) := by decide +kernel
theorem dX4_fitting_12 : decode cX4_fitting 12 = .ok (.istore 7, 2) := by decide +kernel
theorem dX4_fitting_14 : decode cX4_fitting 14 = .ok (.iload 7, 2) := by decide +kernel
theorem dX4_fitting_16 : decode cX4_fitting 16 = .ok (.iload 4, 2) := by decide +kernel
theorem dX4_fitting_18 : decode cX4_fitting 18 = .ok (.if_icmp .ge 43, 3) := by decide +kernel
theorem dX4_fitting_21 : decode cX4_fitting 21 = .ok (.aload_n 0, 1) := by decide +kernel
theorem dX4_fitting_22 : decode cX4_fitting 22 = .ok (.getfield 9, 3) := by decide +kernel
theorem dX4_fitting_25 : decode cX4_fitting 25 = .ok (.iload_n 2, 1) := by decide +kernel
theorem dX4_fitting_26 : decode cX4_fitting 26 = .ok (.iload_n 3, 1) := by decide +kernel
theorem dX4_fitting_27 : decode cX4_fitting 27 = .ok (.invokestatic 86, 3) := by decide +kernel
theorem dX4_fitting_30 : decode cX4_fitting 30 = .ok (.iload 7, 2) := by decide +kernel
theorem dX4_fitting_32 : decode cX4_fitting 32 = .ok (.iastore, 1) := by decide +kernel
theorem dX4_fitting_33 : decode cX4_fitting 33 = .ok (.iload 6, 2) := by decide +kernel
theorem dX4_fitting_35 : decode cX4_fitting 35 = .ok (.aload_n 0, 1) := by decide +kernel
theorem dX4_fitting_36 : decode cX4_fitting 36 = .ok (.iload_n 1, 1) := by decide +kernel
theorem dX4_fitting_37 : decode cX4_fitting 37 = .ok (.iload_n 2, 1) := by decide +kernel
theorem dX4_fitting_38 : decode cX4_fitting 38 = .ok (.invokevirtual 233, 3) := by decide +kernel
theorem dX4_fitting_41 : decode cX4_fitting 41 = .ok (.ifCond .eq 10, 3) := by decide +kernel
theorem dX4_fitting_44 : decode cX4_fitting 44 = .ok (.iconst 1, 1) := by decide +kernel
theorem dX4_fitting_45 : decode cX4_fitting 45 = .ok (.iload 7, 2) := by decide +kernel
theorem dX4_fitting_47 : decode cX4_fitting 47 = .ok (.ishl, 1) := by decide +kernel
theorem dX4_fitting_48 : decode cX4_fitting 48 = .ok (.goto 4, 3) := by decide +kernel
theorem dX4_fitting_51 : decode cX4_fitting 51 = .ok (.iconst 0, 1) := by decide +kernel
theorem dX4_fitting_52 : decode cX4_fitting 52 = .ok (.ior, 1) := by decide +kernel
theorem dX4_fitting_53 : decode cX4_fitting 53 = .ok (.istore 6, 2) := by decide +kernel
theorem dX4_fitting_55 : decode cX4_fitting 55 = .ok (.iinc 7 1, 3) := by decide +kernel
theorem dX4_fitting_58 : decode cX4_fitting 58 = .ok (.goto (-44), 3) := by decide +kernel
theorem dX4_fitting_61 : decode cX4_fitting 61 = .ok (.aload_n 0, 1) := by decide +kernel
theorem dX4_fitting_62 : decode cX4_fitting 62 = .ok (.getfield 9, 3) := by decide +kernel
theorem dX4_fitting_65 : decode cX4_fitting 65 = .ok (.iload_n 2, 1) := by decide +kernel
theorem dX4_fitting_66 : decode cX4_fitting 66 = .ok (.iload_n 3, 1) := by decide +kernel
theorem dX4_fitting_67 : decode cX4_fitting 67 = .ok (.invokestatic 86, 3) := by decide +kernel
theorem dX4_fitting_70 : decode cX4_fitting 70 = .ok (.iload 5, 2) := by decide +kernel
theorem dX4_fitting_72 : decode cX4_fitting 72 = .ok (.iastore, 1) := by decide +kernel
theorem dX4_fitting_73 : decode cX4_fitting 73 = .ok (.iload 6, 2) := by decide +kernel
theorem dX4_fitting_75 : decode cX4_fitting 75 = .ok (.ireturn, 1) := by decide +kernel
set_option maxRecDepth 20000 in
theorem ggX4_fits_X4_lacks : GoodIn wsX4_fits wsX4_lacks := goodIn_r _ [6, 1, 7, 8, 9, 10, 5, 11, 12, 13, 14, 88, 89, 90, 91, 92, 93, 94, 95, 96, 97, 98, 99, 100, 101, 102, 103, 104, 105, 106, 107, 108, 109, 110, 111] (by decide +kernel) (by decide +kernel)
set_option maxRecDepth 20000 in
theorem gX4_fits_X4_lacks : GoodIn wsX4_fits (wsV RX4 236 RX4 yX4_lacks wsX4_lacks) := goodIn_app (goodIn_of _ (by decide +kernel)) ggX4_fits_X4_lacks
set_option maxRecDepth 20000 in
theorem ggX4_fits_X4_isPlayer : GoodIn wsX4_fits wsX4_isPlayer := goodIn_r _ [18, 19, 12, 13, 5, 14, 88, 89, 90, 91, 92, 93, 94, 95, 96, 97, 98, 99, 100, 101, 102, 103, 104, 105, 106, 107, 108, 109, 110, 111] (by decide +kernel) (by decide +kernel)
set_option maxRecDepth 20000 in
theorem gX4_fits_X4_isPlayer : GoodIn wsX4_fits (wsV RX4 152 RX4 yX4_isPlayer wsX4_isPlayer) := goodIn_app (goodIn_of _ (by decide +kernel)) ggX4_fits_X4_isPlayer
set_option maxRecDepth 20000 in
theorem ggX4_fits_X4_finding : GoodIn wsX4_fits wsX4_finding := goodIn_r _ [23, 24, 1, 88, 89, 90, 91, 92, 93, 94, 95, 96, 97, 98, 99, 100, 101, 102, 103, 104, 105, 106, 107, 108, 109, 110, 111] (by decide +kernel) (by decide +kernel)
set_option maxRecDepth 20000 in
theorem gX4_fits_X4_finding : GoodIn wsX4_fits (wsV RX4 78 RX4 yX4_finding wsX4_finding) := goodIn_app (goodIn_of _ (by decide +kernel)) ggX4_fits_X4_finding
set_option maxRecDepth 20000 in
theorem ggX4_fits_X4_fitting : GoodIn wsX4_fits wsX4_fitting := goodIn_r _ [28, 19, 29, 30, 31, 5, 32, 33, 34, 35, 36, 37, 38, 39, 40, 41, 42, 43, 44, 45, 46, 47, 48, 49, 50, 51, 52, 53, 54, 55, 56, 57, 58, 59, 60, 61, 62, 63, 64, 65, 66, 67, 68, 69, 70, 71, 72, 73, 74, 75, 76, 77, 78, 79, 80, 81, 82, 83, 84, 85, 86, 87, 88, 89, 90, 91, 92, 93, 94, 95, 96, 97, 98, 99, 100, 101, 102, 103, 104, 105, 106, 107, 108, 109, 110, 111] (by decide +kernel) (by decide +kernel)
set_option maxRecDepth 20000 in
theorem gX4_fits_X4_fitting : GoodIn wsX4_fits (wsV RX4 239 RX4 yX4_fitting wsX4_fitting) := goodIn_app (goodIn_of _ (by decide +kernel)) ggX4_fits_X4_fitting
theorem dX4_fits_0 : decode cX4_fits 0 = .ok (.aload_n 0, 1) := by decide +kernel
theorem dX4_fits_1 : decode cX4_fits 1 = .ok (.iload_n 1, 1) := by decide +kernel
theorem dX4_fits_2 : decode cX4_fits 2 = .ok (.invokevirtual 236, 3) := by decide +kernel
theorem dX4_fits_5 : decode cX4_fits 5 = .ok (.ifCond .ne 11, 3) := by decide +kernel
theorem dX4_fits_8 : decode cX4_fits 8 = .ok (.aload_n 0, 1) := by decide +kernel
theorem dX4_fits_9 : decode cX4_fits 9 = .ok (.iload_n 2, 1) := by decide +kernel
theorem dX4_fits_10 : decode cX4_fits 10 = .ok (.invokevirtual 152, 3) := by decide +kernel
theorem dX4_fits_13 : decode cX4_fits 13 = .ok (.ifCond .ne 26, 3) := by decide +kernel
theorem dX4_fits_16 : decode cX4_fits 16 = .ok (.aload_n 0, 1) := by decide +kernel
theorem dX4_fits_17 : decode cX4_fits 17 = .ok (.aload_n 0, 1) := by decide +kernel
theorem dX4_fits_18 : decode cX4_fits 18 = .ok (.iload_n 1, 1) := by decide +kernel
theorem dX4_fits_19 : decode cX4_fits 19 = .ok (.invokevirtual 236, 3) := by decide +kernel
theorem dX4_fits_22 : decode cX4_fits 22 = .ok (.ifCond .eq 11, 3) := by decide +kernel
theorem dX4_fits_25 : decode cX4_fits 25 = .ok (.aload_n 0, 1) := by decide +kernel
theorem dX4_fits_26 : decode cX4_fits 26 = .ok (.iload_n 1, 1) := by decide +kernel
theorem dX4_fits_27 : decode cX4_fits 27 = .ok (.invokevirtual 236, 3) := by decide +kernel
theorem dX4_fits_30 : decode cX4_fits 30 = .ok (.goto 5, 3) := by decide +kernel
theorem dX4_fits_33 : decode cX4_fits 33 = .ok (.ldc 72, 2) := by decide +kernel
theorem dX4_fits_35 : decode cX4_fits 35 = .ok (.invokevirtual 78, 3) := by decide +kernel
theorem dX4_fits_38 : decode cX4_fits 38 = .ok (.ireturn, 1) := by decide +kernel
theorem dX4_fits_39 : decode cX4_fits 39 = .ok (.aload_n 0, 1) := by decide +kernel
theorem dX4_fits_40 : decode cX4_fits 40 = .ok (.iload_n 1, 1) := by decide +kernel
theorem dX4_fits_41 : decode cX4_fits 41 = .ok (.iload_n 2, 1) := by decide +kernel
theorem dX4_fits_42 : decode cX4_fits 42 = .ok (.iconst 2, 1) := by decide +kernel
theorem dX4_fits_43 : decode cX4_fits 43 = .ok (.bipush 6, 2) := by decide +kernel
theorem dX4_fits_45 : decode cX4_fits 45 = .ok (.invokevirtual 239, 3) := by decide +kernel
theorem dX4_fits_48 : decode cX4_fits 48 = .ok (.ireturn, 1) := by decide +kernel
set_option maxRecDepth 20000 in
theorem ggX4_kinds_X4_lacks : GoodIn wsX4_kinds wsX4_lacks := goodIn_r _ [6, 1, 7, 8, 9, 10, 5, 11, 12, 13, 14, 88, 89, 90, 91, 92, 93, 94, 95, 96, 97, 98, 99, 100, 101, 102, 103, 104, 105, 106, 107, 108, 109, 110, 111] (by decide +kernel) (by decide +kernel)
set_option maxRecDepth 20000 in
theorem gX4_kinds_X4_lacks : GoodIn wsX4_kinds (wsV RX4 236 RX4 yX4_lacks wsX4_lacks) := goodIn_app (goodIn_of _ (by decide +kernel)) ggX4_kinds_X4_lacks
set_option maxRecDepth 20000 in
theorem ggX4_kinds_X4_isPlayer : GoodIn wsX4_kinds wsX4_isPlayer := goodIn_r _ [18, 19, 12, 13, 5, 14, 88, 89, 90, 91, 92, 93, 94, 95, 96, 97, 98, 99, 100, 101, 102, 103, 104, 105, 106, 107, 108, 109, 110, 111] (by decide +kernel) (by decide +kernel)
set_option maxRecDepth 20000 in
theorem gX4_kinds_X4_isPlayer : GoodIn wsX4_kinds (wsV RX4 152 RX4 yX4_isPlayer wsX4_isPlayer) := goodIn_app (goodIn_of _ (by decide +kernel)) ggX4_kinds_X4_isPlayer
set_option maxRecDepth 20000 in
theorem ggX4_kinds_X4_finding : GoodIn wsX4_kinds wsX4_finding := goodIn_r _ [23, 24, 1, 88, 89, 90, 91, 92, 93, 94, 95, 96, 97, 98, 99, 100, 101, 102, 103, 104, 105, 106, 107, 108, 109, 110, 111] (by decide +kernel) (by decide +kernel)
set_option maxRecDepth 20000 in
theorem gX4_kinds_X4_finding : GoodIn wsX4_kinds (wsV RX4 78 RX4 yX4_finding wsX4_finding) := goodIn_app (goodIn_of _ (by decide +kernel)) ggX4_kinds_X4_finding
set_option maxRecDepth 20000 in
theorem ggX4_kinds_X4_fitting : GoodIn wsX4_kinds wsX4_fitting := goodIn_r _ [28, 19, 29, 30, 31, 5, 32, 33, 34, 35, 36, 37, 38, 39, 40, 41, 42, 43, 44, 45, 46, 47, 48, 49, 50, 51, 52, 53, 54, 55, 56, 57, 58, 59, 60, 61, 62, 63, 64, 65, 66, 67, 68, 69, 70, 71, 72, 73, 74, 75, 76, 77, 78, 79, 80, 81, 82, 83, 84, 85, 86, 87, 88, 89, 90, 91, 92, 93, 94, 95, 96, 97, 98, 99, 100, 101, 102, 103, 104, 105, 106, 107, 108, 109, 110, 111] (by decide +kernel) (by decide +kernel)
set_option maxRecDepth 20000 in
theorem gX4_kinds_X4_fitting : GoodIn wsX4_kinds (wsV RX4 239 RX4 yX4_fitting wsX4_fitting) := goodIn_app (goodIn_of _ (by decide +kernel)) ggX4_kinds_X4_fitting
theorem dX4_kinds_0 : decode cX4_kinds 0 = .ok (.aload_n 0, 1) := by decide +kernel
theorem dX4_kinds_1 : decode cX4_kinds 1 = .ok (.iload_n 1, 1) := by decide +kernel
theorem dX4_kinds_2 : decode cX4_kinds 2 = .ok (.invokevirtual 236, 3) := by decide +kernel
theorem dX4_kinds_5 : decode cX4_kinds 5 = .ok (.ifCond .ne 11, 3) := by decide +kernel
theorem dX4_kinds_8 : decode cX4_kinds 8 = .ok (.aload_n 0, 1) := by decide +kernel
theorem dX4_kinds_9 : decode cX4_kinds 9 = .ok (.iload_n 2, 1) := by decide +kernel
theorem dX4_kinds_10 : decode cX4_kinds 10 = .ok (.invokevirtual 152, 3) := by decide +kernel
theorem dX4_kinds_13 : decode cX4_kinds 13 = .ok (.ifCond .ne 26, 3) := by decide +kernel
theorem dX4_kinds_16 : decode cX4_kinds 16 = .ok (.aload_n 0, 1) := by decide +kernel
theorem dX4_kinds_17 : decode cX4_kinds 17 = .ok (.aload_n 0, 1) := by decide +kernel
theorem dX4_kinds_18 : decode cX4_kinds 18 = .ok (.iload_n 1, 1) := by decide +kernel
theorem dX4_kinds_19 : decode cX4_kinds 19 = .ok (.invokevirtual 236, 3) := by decide +kernel
theorem dX4_kinds_22 : decode cX4_kinds 22 = .ok (.ifCond .eq 11, 3) := by decide +kernel
theorem dX4_kinds_25 : decode cX4_kinds 25 = .ok (.aload_n 0, 1) := by decide +kernel
theorem dX4_kinds_26 : decode cX4_kinds 26 = .ok (.iload_n 1, 1) := by decide +kernel
theorem dX4_kinds_27 : decode cX4_kinds 27 = .ok (.invokevirtual 236, 3) := by decide +kernel
theorem dX4_kinds_30 : decode cX4_kinds 30 = .ok (.goto 5, 3) := by decide +kernel
theorem dX4_kinds_33 : decode cX4_kinds 33 = .ok (.ldc 72, 2) := by decide +kernel
theorem dX4_kinds_35 : decode cX4_kinds 35 = .ok (.invokevirtual 78, 3) := by decide +kernel
theorem dX4_kinds_38 : decode cX4_kinds 38 = .ok (.ireturn, 1) := by decide +kernel
theorem dX4_kinds_39 : decode cX4_kinds 39 = .ok (.aload_n 0, 1) := by decide +kernel
theorem dX4_kinds_40 : decode cX4_kinds 40 = .ok (.iload_n 1, 1) := by decide +kernel
theorem dX4_kinds_41 : decode cX4_kinds 41 = .ok (.iload_n 2, 1) := by decide +kernel
theorem dX4_kinds_42 : decode cX4_kinds 42 = .ok (.iconst 0, 1) := by decide +kernel
theorem dX4_kinds_43 : decode cX4_kinds 43 = .ok (.bipush 7, 2) := by decide +kernel
theorem dX4_kinds_45 : decode cX4_kinds 45 = .ok (.invokevirtual 239, 3) := by decide +kernel
theorem dX4_kinds_48 : decode cX4_kinds 48 = .ok (.ireturn, 1) := by decide +kernel
theorem dX4_drawn_0 : decode cX4_drawn 0 = .ok (.aload_n 0, 1) := by decide +kernel
theorem dX4_drawn_1 : decode cX4_drawn 1 = .ok (.getfield 9, 3) := by decide +kernel
theorem dX4_drawn_4 : decode cX4_drawn 4 = .ok (.iconst 2, 1) := by decide +kernel
theorem dX4_drawn_5 : decode cX4_drawn 5 = .ok (.aload_n 0, 1) := by decide +kernel
theorem dX4_drawn_6 : decode cX4_drawn 6 = .ok (.getfield 9, 3) := by decide +kernel
theorem dX4_drawn_9 : decode cX4_drawn 9 = .ok (.iconst 2, 1) := by decide +kernel
theorem dX4_drawn_10 : decode cX4_drawn 10 = .ok (.iaload, 1) := by decide +kernel
theorem dX4_drawn_11 : decode cX4_drawn 11 = .ok (.ldc 242, 2) := by decide +kernel
theorem dX4_drawn_13 : decode cX4_drawn 13 = .ok (.imul, 1) := by decide +kernel
theorem dX4_drawn_14 : decode cX4_drawn 14 = .ok (.sipush 12345, 3) := by decide +kernel
theorem dX4_drawn_17 : decode cX4_drawn 17 = .ok (.iadd, 1) := by decide +kernel
theorem dX4_drawn_18 : decode cX4_drawn 18 = .ok (.iastore, 1) := by decide +kernel
theorem dX4_drawn_19 : decode cX4_drawn 19 = .ok (.aload_n 0, 1) := by decide +kernel
theorem dX4_drawn_20 : decode cX4_drawn 20 = .ok (.getfield 9, 3) := by decide +kernel
theorem dX4_drawn_23 : decode cX4_drawn 23 = .ok (.iconst 2, 1) := by decide +kernel
theorem dX4_drawn_24 : decode cX4_drawn 24 = .ok (.iaload, 1) := by decide +kernel
theorem dX4_drawn_25 : decode cX4_drawn 25 = .ok (.bipush 8, 2) := by decide +kernel
theorem dX4_drawn_27 : decode cX4_drawn 27 = .ok (.iushr, 1) := by decide +kernel
theorem dX4_drawn_28 : decode cX4_drawn 28 = .ok (.ireturn, 1) := by decide +kernel
set_option maxRecDepth 20000 in
theorem ggX4_strings_X4_within : GoodIn wsX4_strings wsX4_within := goodIn_r _ [8] (by decide +kernel) (by decide +kernel)
set_option maxRecDepth 20000 in
theorem gX4_strings_X4_within : GoodIn wsX4_strings (va_wsS RX4 82 yX4_within wsX4_within) := goodIn_app (goodIn_of _ (by decide +kernel)) ggX4_strings_X4_within
set_option maxRecDepth 20000 in
theorem ggX4_strings_X4_finding : GoodIn wsX4_strings wsX4_finding := goodIn_r _ [12, 13, 1, 72, 73, 74, 75, 76, 77, 78, 79, 80, 81, 82, 83, 84, 85, 86, 87, 88, 89, 90, 91, 92, 93, 94, 95] (by decide +kernel) (by decide +kernel)
set_option maxRecDepth 20000 in
theorem gX4_strings_X4_finding : GoodIn wsX4_strings (wsV RX4 78 RX4 yX4_finding wsX4_finding) := goodIn_app (goodIn_of _ (by decide +kernel)) ggX4_strings_X4_finding
set_option maxRecDepth 20000 in
theorem ggX4_strings_X4_drawn : GoodIn wsX4_strings wsX4_drawn := goodIn_r _ [17, 2, 18, 72, 73, 74, 75, 76, 77, 78, 79, 80, 81, 82, 83, 84, 85, 86, 87, 88, 89, 90, 91, 92, 93, 94, 95] (by decide +kernel) (by decide +kernel)
set_option maxRecDepth 20000 in
theorem gX4_strings_X4_drawn : GoodIn wsX4_strings (wsV RX4 243 RX4 yX4_drawn wsX4_drawn) := goodIn_app (goodIn_of _ (by decide +kernel)) ggX4_strings_X4_drawn
set_option maxRecDepth 20000 in
theorem ggX4_strings_X4_isPlayer : GoodIn wsX4_strings wsX4_isPlayer := goodIn_r _ [22, 2, 5, 6, 7, 8, 72, 73, 74, 75, 76, 77, 78, 79, 80, 81, 82, 83, 84, 85, 86, 87, 88, 89, 90, 91, 92, 93, 94, 95] (by decide +kernel) (by decide +kernel)
set_option maxRecDepth 20000 in
theorem gX4_strings_X4_isPlayer : GoodIn wsX4_strings (wsV RX4 152 RX4 yX4_isPlayer wsX4_isPlayer) := goodIn_app (goodIn_of _ (by decide +kernel)) ggX4_strings_X4_isPlayer
set_option maxRecDepth 20000 in
theorem ggX4_strings_X4_at : GoodIn wsX4_strings wsX4_at := goodIn_r _ [25] (by decide +kernel) (by decide +kernel)
set_option maxRecDepth 20000 in
theorem gX4_strings_X4_at : GoodIn wsX4_strings (va_wsS RX4 86 yX4_at wsX4_at) := goodIn_app (goodIn_of _ (by decide +kernel)) ggX4_strings_X4_at
set_option maxRecDepth 20000 in
theorem ggX4_strings_X4_evening : GoodIn wsX4_strings wsX4_evening := goodIn_r _ [29, 2, 30, 31, 32, 7, 33, 34, 35, 36, 37, 38, 39, 40, 41, 42, 43, 44, 45, 46, 47, 48, 49, 23, 24, 25, 50, 51, 52, 53, 54, 55, 56, 57, 58, 59, 60, 61, 62, 63, 64, 65, 66, 67, 68, 69, 70, 71, 72, 73, 74, 75, 76, 77, 78, 79, 80, 81, 82, 83, 84, 85, 86, 87, 88, 89, 90, 91, 92, 93, 94, 95] (by decide +kernel) (by decide +kernel)
