set_option maxRecDepth 20000 in
theorem ggX3_init_X0_init : GoodIn wsX3_init wsX0_init := goodIn_r _ [25, 26, 2, 3, 17, 27, 28, 29, 30, 31, 32, 33, 34, 35, 36, 37, 38, 39, 55, 56, 57, 58, 59, 60, 61, 62, 63, 64, 65, 66, 67] (by decide +kernel) (by decide +kernel)
set_option maxRecDepth 20000 in
theorem gX3_init_X0_init : GoodIn wsX3_init (wsX0_init) := ggX3_init_X0_init
set_option maxRecDepth 20000 in
theorem ggX3_init_X2_init : GoodIn wsX3_init wsX2_init := goodIn_r _ [41, 42, 2, 3, 43, 17, 44, 45, 46, 47, 48, 77, 78, 79, 80, 81, 82] (by decide +kernel) (by decide +kernel)
set_option maxRecDepth 20000 in
theorem gX3_init_X2_init_n28 : GoodIn wsX3_init (wsX2_init) := ggX3_init_X2_init
set_option maxRecDepth 20000 in
theorem ggX3_init_X1_init : GoodIn wsX3_init wsX1_init := goodIn_r _ [50, 51, 2, 3, 17, 52, 53, 54, 83, 84, 85] (by decide +kernel) (by decide +kernel)
set_option maxRecDepth 20000 in
theorem gX3_init_X1_init_n49 : GoodIn wsX3_init (wsX1_init) := ggX3_init_X1_init
theorem dX3_init_0 : decode cX3_init 0 = .ok (.aload_n 0, 1) := by decide +kernel
theorem dX3_init_1 : decode cX3_init 1 = .ok (.invokespecial 1, 3) := by decide +kernel
theorem dX3_init_4 : decode cX3_init 4 = .ok (.aload_n 0, 1) := by decide +kernel
theorem dX3_init_5 : decode cX3_init 5 = .ok (.new 7, 3) := by decide +kernel
theorem dX3_init_8 : decode cX3_init 8 = .ok (.dup, 1) := by decide +kernel
theorem dX3_init_9 : decode cX3_init 9 = .ok (.invokespecial 9, 3) := by decide +kernel
theorem dX3_init_12 : decode cX3_init 12 = .ok (.putfield 10, 3) := by decide +kernel
theorem dX3_init_15 : decode cX3_init 15 = .ok (.aload_n 0, 1) := by decide +kernel
theorem dX3_init_16 : decode cX3_init 16 = .ok (.new 7, 3) := by decide +kernel
theorem dX3_init_19 : decode cX3_init 19 = .ok (.dup, 1) := by decide +kernel
theorem dX3_init_20 : decode cX3_init 20 = .ok (.invokespecial 9, 3) := by decide +kernel
theorem dX3_init_23 : decode cX3_init 23 = .ok (.putfield 16, 3) := by decide +kernel
theorem dX3_init_26 : decode cX3_init 26 = .ok (.aload_n 0, 1) := by decide +kernel
theorem dX3_init_27 : decode cX3_init 27 = .ok (.new 7, 3) := by decide +kernel
theorem dX3_init_30 : decode cX3_init 30 = .ok (.dup, 1) := by decide +kernel
theorem dX3_init_31 : decode cX3_init 31 = .ok (.invokespecial 9, 3) := by decide +kernel
theorem dX3_init_34 : decode cX3_init 34 = .ok (.putfield 19, 3) := by decide +kernel
theorem dX3_init_37 : decode cX3_init 37 = .ok (.aload_n 0, 1) := by decide +kernel
theorem dX3_init_38 : decode cX3_init 38 = .ok (.iconst 0, 1) := by decide +kernel
theorem dX3_init_39 : decode cX3_init 39 = .ok (.putfield 22, 3) := by decide +kernel
theorem dX3_init_42 : decode cX3_init 42 = .ok (.aload_n 0, 1) := by decide +kernel
theorem dX3_init_43 : decode cX3_init 43 = .ok (.new 26, 3) := by decide +kernel
theorem dX3_init_46 : decode cX3_init 46 = .ok (.dup, 1) := by decide +kernel
theorem dX3_init_47 : decode cX3_init 47 = .ok (.invokespecial 28, 3) := by decide +kernel
theorem dX3_init_50 : decode cX3_init 50 = .ok (.putfield 29, 3) := by decide +kernel
theorem dX3_init_53 : decode cX3_init 53 = .ok (.aload_n 0, 1) := by decide +kernel
theorem dX3_init_54 : decode cX3_init 54 = .ok (.iconst 4, 1) := by decide +kernel
theorem dX3_init_55 : decode cX3_init 55 = .ok (.anewarray 33, 3) := by decide +kernel
theorem dX3_init_58 : decode cX3_init 58 = .ok (.putfield 35, 3) := by decide +kernel
theorem dX3_init_61 : decode cX3_init 61 = .ok (.aload_n 0, 1) := by decide +kernel
theorem dX3_init_62 : decode cX3_init 62 = .ok (.bipush 7, 2) := by decide +kernel
theorem dX3_init_64 : decode cX3_init 64 = .ok (.newarray .int, 2) := by decide +kernel
theorem dX3_init_66 : decode cX3_init 66 = .ok (.putfield 39, 3) := by decide +kernel
theorem dX3_init_69 : decode cX3_init 69 = .ok (.aload_n 0, 1) := by decide +kernel
theorem dX3_init_70 : decode cX3_init 70 = .ok (.sipush 256, 3) := by decide +kernel
theorem dX3_init_73 : decode cX3_init 73 = .ok (.newarray .int, 2) := by decide +kernel
theorem dX3_init_75 : decode cX3_init 75 = .ok (.putfield 43, 3) := by decide +kernel
theorem dX3_init_78 : decode cX3_init 78 = .ok (.aload_n 0, 1) := by decide +kernel
theorem dX3_init_79 : decode cX3_init 79 = .ok (.sipush 256, 3) := by decide +kernel
theorem dX3_init_82 : decode cX3_init 82 = .ok (.newarray .int, 2) := by decide +kernel
theorem dX3_init_84 : decode cX3_init 84 = .ok (.putfield 46, 3) := by decide +kernel
theorem dX3_init_87 : decode cX3_init 87 = .ok (.iconst 0, 1) := by decide +kernel
theorem dX3_init_88 : decode cX3_init 88 = .ok (.istore_n 1, 1) := by decide +kernel
theorem dX3_init_89 : decode cX3_init 89 = .ok (.iload_n 1, 1) := by decide +kernel
theorem dX3_init_90 : decode cX3_init 90 = .ok (.iconst 4, 1) := by decide +kernel
theorem dX3_init_91 : decode cX3_init 91 = .ok (.if_icmp .ge 22, 3) := by decide +kernel
theorem dX3_init_94 : decode cX3_init 94 = .ok (.aload_n 0, 1) := by decide +kernel
theorem dX3_init_95 : decode cX3_init 95 = .ok (.getfield 35, 3) := by decide +kernel
theorem dX3_init_98 : decode cX3_init 98 = .ok (.iload_n 1, 1) := by decide +kernel
theorem dX3_init_99 : decode cX3_init 99 = .ok (.new 33, 3) := by decide +kernel
theorem dX3_init_102 : decode cX3_init 102 = .ok (.dup, 1) := by decide +kernel
theorem dX3_init_103 : decode cX3_init 103 = .ok (.invokespecial 49, 3) := by decide +kernel
theorem dX3_init_106 : decode cX3_init 106 = .ok (.aastore, 1) := by decide +kernel
theorem dX3_init_107 : decode cX3_init 107 = .ok (.iinc 1 1, 3) := by decide +kernel
theorem dX3_init_110 : decode cX3_init 110 = .ok (.goto (-21), 3) := by decide +kernel
theorem dX3_init_113 : decode cX3_init 113 = .ok (.return_, 1) := by decide +kernel
set_option maxRecDepth 20000 in
theorem ggX3_bar_X3_isBar : GoodIn wsX3_bar wsX3_isBar := goodIn_r _ [7] (by decide +kernel) (by decide +kernel)
set_option maxRecDepth 20000 in
theorem gX3_bar_X3_isBar : GoodIn wsX3_bar (wsV RX3 50 RX3 yX3_isBar wsX3_isBar) := goodIn_app (goodIn_of _ (by decide +kernel)) ggX3_bar_X3_isBar
set_option maxRecDepth 20000 in
theorem ggX3_bar_X3_finding : GoodIn wsX3_bar wsX3_finding := goodIn_r _ [11, 12, 13, 14, 15, 16, 17, 18, 19, 20, 21, 22] (by decide +kernel) (by decide +kernel)
set_option maxRecDepth 20000 in
theorem gX3_bar_X3_finding : GoodIn wsX3_bar (wsV RX3 54 RX3 yX3_finding wsX3_finding) := goodIn_app (goodIn_of _ (by decide +kernel)) ggX3_bar_X3_finding
theorem dX3_bar_0 : decode cX3_bar 0 = .ok (.aload_n 0, 1) := by decide +kernel
theorem dX3_bar_1 : decode cX3_bar 1 = .ok (.iload_n 1, 1) := by decide +kernel
theorem dX3_bar_2 : decode cX3_bar 2 = .ok (.invokevirtual 50, 3) := by decide +kernel
theorem dX3_bar_5 : decode cX3_bar 5 = .ok (.ifCond .eq 13, 3) := by decide +kernel
theorem dX3_bar_8 : decode cX3_bar 8 = .ok (.iload_n 2, 1) := by decide +kernel
theorem dX3_bar_9 : decode cX3_bar 9 = .ok (.ifCond .lt 9, 3) := by decide +kernel
theorem dX3_bar_12 : decode cX3_bar 12 = .ok (.iload_n 2, 1) := by decide +kernel
theorem dX3_bar_13 : decode cX3_bar 13 = .ok (.bipush 64, 2) := by decide +kernel
theorem dX3_bar_15 : decode cX3_bar 15 = .ok (.if_icmp .lt 9, 3) := by decide +kernel
theorem dX3_bar_18 : decode cX3_bar 18 = .ok (.aload_n 0, 1) := by decide +kernel
theorem dX3_bar_19 : decode cX3_bar 19 = .ok (.iconst 0, 1) := by decide +kernel
theorem dX3_bar_20 : decode cX3_bar 20 = .ok (.invokevirtual 54, 3) := by decide +kernel
theorem dX3_bar_23 : decode cX3_bar 23 = .ok (.ireturn, 1) := by decide +kernel
theorem dX3_bar_24 : decode cX3_bar 24 = .ok (.aload_n 0, 1) := by decide +kernel
theorem dX3_bar_25 : decode cX3_bar 25 = .ok (.getfield 10, 3) := by decide +kernel
theorem dX3_bar_28 : decode cX3_bar 28 = .ok (.getfield 58, 3) := by decide +kernel
theorem dX3_bar_31 : decode cX3_bar 31 = .ok (.iload_n 1, 1) := by decide +kernel
theorem dX3_bar_32 : decode cX3_bar 32 = .ok (.iaload, 1) := by decide +kernel
theorem dX3_bar_33 : decode cX3_bar 33 = .ok (.istore_n 3, 1) := by decide +kernel
theorem dX3_bar_34 : decode cX3_bar 34 = .ok (.aload_n 0, 1) := by decide +kernel
theorem dX3_bar_35 : decode cX3_bar 35 = .ok (.getfield 10, 3) := by decide +kernel
theorem dX3_bar_38 : decode cX3_bar 38 = .ok (.getfield 58, 3) := by decide +kernel
theorem dX3_bar_41 : decode cX3_bar 41 = .ok (.iload_n 1, 1) := by decide +kernel
theorem dX3_bar_42 : decode cX3_bar 42 = .ok (.iload_n 2, 1) := by decide +kernel
theorem dX3_bar_43 : decode cX3_bar 43 = .ok (.iastore, 1) := by decide +kernel
theorem dX3_bar_44 : decode cX3_bar 44 = .ok (.iload_n 3, 1) := by decide +kernel
theorem dX3_bar_45 : decode cX3_bar 45 = .ok (.ireturn, 1) := by decide +kernel
set_option maxRecDepth 20000 in
theorem ggX3_barOf_X3_isBar : GoodIn wsX3_barOf wsX3_isBar := goodIn_r _ [7] (by decide +kernel) (by decide +kernel)
set_option maxRecDepth 20000 in
theorem gX3_barOf_X3_isBar : GoodIn wsX3_barOf (wsV RX3 50 RX3 yX3_isBar wsX3_isBar) := goodIn_app (goodIn_of _ (by decide +kernel)) ggX3_barOf_X3_isBar
set_option maxRecDepth 20000 in
theorem ggX3_barOf_X3_finding : GoodIn wsX3_barOf wsX3_finding := goodIn_r _ [11, 12, 13, 74, 75, 76, 77, 78, 79, 80, 81, 82] (by decide +kernel) (by decide +kernel)
set_option maxRecDepth 20000 in
theorem gX3_barOf_X3_finding : GoodIn wsX3_barOf (wsV RX3 54 RX3 yX3_finding wsX3_finding) := goodIn_app (goodIn_of _ (by decide +kernel)) ggX3_barOf_X3_finding
set_option maxRecDepth 20000 in
theorem ggX3_barOf_X0_playersIn : GoodIn wsX3_barOf wsX0_playersIn := goodIn_r _ [18, 19, 20, 21, 22, 17, 23, 24, 25, 26, 27, 28, 29, 30, 31, 32, 33, 34, 35, 36, 37, 38, 39, 40, 41, 42, 43, 44, 45, 46, 47, 48, 49, 50, 51, 83, 84, 85, 86, 87, 88, 89, 90, 91, 92, 93, 94, 95] (by decide +kernel) (by decide +kernel)
set_option maxRecDepth 20000 in
theorem gX3_barOf_X0_playersIn : GoodIn wsX3_barOf (wsV RX3 61 RX0 yX0_playersIn wsX0_playersIn) := goodIn_app (goodIn_of _ (by decide +kernel)) ggX3_barOf_X0_playersIn
set_option maxRecDepth 20000 in
theorem ggX3_barOf_X0_seatsReached : GoodIn wsX3_barOf wsX0_seatsReached := goodIn_r _ [55, 56, 15, 16, 17, 18, 19, 20, 21, 22, 23, 24, 25, 26, 27, 28, 29, 30, 31, 32, 33, 34, 35, 36, 37, 38, 39, 40, 41, 42, 43, 44, 45, 46, 47, 48, 49, 50, 51, 57, 58, 59, 60, 61, 62, 63, 64, 65, 66, 67, 68, 69, 70, 71, 72, 73, 83, 84, 85, 86, 87, 88, 89, 90, 91, 92, 93, 94, 95] (by decide +kernel) (by decide +kernel)
set_option maxRecDepth 20000 in
theorem gX3_barOf_X0_seatsReached : GoodIn wsX3_barOf (wsV RX3 64 RX0 yX0_seatsReached wsX0_seatsReached) := goodIn_app (goodIn_of _ (by decide +kernel)) ggX3_barOf_X0_seatsReached
theorem dX3_barOf_0 : decode cX3_barOf 0 = .ok (.aload_n 0, 1) := by decide +kernel
theorem dX3_barOf_1 : decode cX3_barOf 1 = .ok (.iload_n 1, 1) := by decide +kernel
theorem dX3_barOf_2 : decode cX3_barOf 2 = .ok (.invokevirtual 50, 3) := by decide +kernel
theorem dX3_barOf_5 : decode cX3_barOf 5 = .ok (.ifCond .ne 9, 3) := by decide +kernel
theorem dX3_barOf_8 : decode cX3_barOf 8 = .ok (.aload_n 0, 1) := by decide +kernel
theorem dX3_barOf_9 : decode cX3_barOf 9 = .ok (.iconst 0, 1) := by decide +kernel
theorem dX3_barOf_10 : decode cX3_barOf 10 = .ok (.invokevirtual 54, 3) := by decide +kernel
theorem dX3_barOf_13 : decode cX3_barOf 13 = .ok (.ireturn, 1) := by decide +kernel
theorem dX3_barOf_14 : decode cX3_barOf 14 = .ok (.iload_n 2, 1) := by decide +kernel
theorem dX3_barOf_15 : decode cX3_barOf 15 = .ok (.tableswitch 53 0 2 #[25, 35, 44], 25) := by decide +kernel
theorem dX3_barOf_40 : decode cX3_barOf 40 = .ok (.aload_n 0, 1) := by decide +kernel
theorem dX3_barOf_41 : decode cX3_barOf 41 = .ok (.getfield 10, 3) := by decide +kernel
theorem dX3_barOf_44 : decode cX3_barOf 44 = .ok (.getfield 58, 3) := by decide +kernel
theorem dX3_barOf_47 : decode cX3_barOf 47 = .ok (.iload_n 1, 1) := by decide +kernel
theorem dX3_barOf_48 : decode cX3_barOf 48 = .ok (.iaload, 1) := by decide +kernel
theorem dX3_barOf_49 : decode cX3_barOf 49 = .ok (.ireturn, 1) := by decide +kernel
theorem dX3_barOf_50 : decode cX3_barOf 50 = .ok (.aload_n 0, 1) := by decide +kernel
theorem dX3_barOf_51 : decode cX3_barOf 51 = .ok (.getfield 10, 3) := by decide +kernel
theorem dX3_barOf_54 : decode cX3_barOf 54 = .ok (.iload_n 1, 1) := by decide +kernel
theorem dX3_barOf_55 : decode cX3_barOf 55 = .ok (.invokevirtual 61, 3) := by decide +kernel
theorem dX3_barOf_58 : decode cX3_barOf 58 = .ok (.ireturn, 1) := by decide +kernel
theorem dX3_barOf_59 : decode cX3_barOf 59 = .ok (.aload_n 0, 1) := by decide +kernel
theorem dX3_barOf_60 : decode cX3_barOf 60 = .ok (.getfield 10, 3) := by decide +kernel
theorem dX3_barOf_63 : decode cX3_barOf 63 = .ok (.iload_n 1, 1) := by decide +kernel
theorem dX3_barOf_64 : decode cX3_barOf 64 = .ok (.invokevirtual 64, 3) := by decide +kernel
theorem dX3_barOf_67 : decode cX3_barOf 67 = .ok (.ireturn, 1) := by decide +kernel
theorem dX3_barOf_68 : decode cX3_barOf 68 = .ok (.aload_n 0, 1) := by decide +kernel
theorem dX3_barOf_69 : decode cX3_barOf 69 = .ok (.iconst 0, 1) := by decide +kernel
theorem dX3_barOf_70 : decode cX3_barOf 70 = .ok (.invokevirtual 54, 3) := by decide +kernel
theorem dX3_barOf_73 : decode cX3_barOf 73 = .ok (.ireturn, 1) := by decide +kernel
set_option maxRecDepth 20000 in
theorem ggX3_player_X3_isKind : GoodIn wsX3_player wsX3_isKind := goodIn_r _ [7] (by decide +kernel) (by decide +kernel)
set_option maxRecDepth 20000 in
theorem gX3_player_X3_isKind : GoodIn wsX3_player (wsV RX3 67 RX3 yX3_isKind wsX3_isKind) := goodIn_app (goodIn_of _ (by decide +kernel)) ggX3_player_X3_isKind
set_option maxRecDepth 20000 in
theorem ggX3_player_X3_isSeat : GoodIn wsX3_player wsX3_isSeat := goodIn_r _ [11] (by decide +kernel) (by decide +kernel)
set_option maxRecDepth 20000 in
theorem gX3_player_X3_isSeat : GoodIn wsX3_player (wsV RX3 70 RX3 yX3_isSeat wsX3_isSeat) := goodIn_app (goodIn_of _ (by decide +kernel)) ggX3_player_X3_isSeat
set_option maxRecDepth 20000 in
theorem ggX3_player_X3_finding : GoodIn wsX3_player wsX3_finding := goodIn_r _ [15, 16, 17, 29, 30, 31, 32, 33, 34, 35, 36, 37] (by decide +kernel) (by decide +kernel)
set_option maxRecDepth 20000 in
theorem gX3_player_X3_finding : GoodIn wsX3_player (wsV RX3 54 RX3 yX3_finding wsX3_finding) := goodIn_app (goodIn_of _ (by decide +kernel)) ggX3_player_X3_finding
set_option maxRecDepth 20000 in
theorem ggX3_player_X0_engage : GoodIn wsX3_player wsX0_engage := goodIn_r _ [22, 23, 24, 25, 26, 27, 28, 38, 39, 40, 41, 42, 43, 44, 45, 46, 47, 48, 49, 50] (by decide +kernel) (by decide +kernel)
set_option maxRecDepth 20000 in
theorem gX3_player_X0_engage : GoodIn wsX3_player (wsV RX3 77 RX0 yX0_engage wsX0_engage) := goodIn_app (goodIn_of _ (by decide +kernel)) ggX3_player_X0_engage
theorem dX3_player_0 : decode cX3_player 0 = .ok (.aload_n 0, 1) := by decide +kernel
theorem dX3_player_1 : decode cX3_player 1 = .ok (.iload_n 1, 1) := by decide +kernel
theorem dX3_player_2 : decode cX3_player 2 = .ok (.invokevirtual 67, 3) := by decide +kernel
theorem dX3_player_5 : decode cX3_player 5 = .ok (.ifCond .eq 11, 3) := by decide +kernel
theorem dX3_player_8 : decode cX3_player 8 = .ok (.aload_n 0, 1) := by decide +kernel
theorem dX3_player_9 : decode cX3_player 9 = .ok (.iload_n 2, 1) := by decide +kernel
theorem dX3_player_10 : decode cX3_player 10 = .ok (.invokevirtual 70, 3) := by decide +kernel
theorem dX3_player_13 : decode cX3_player 13 = .ok (.ifCond .ne 9, 3) := by decide +kernel
theorem dX3_player_16 : decode cX3_player 16 = .ok (.aload_n 0, 1) := by decide +kernel
theorem dX3_player_17 : decode cX3_player 17 = .ok (.iconst 0, 1) := by decide +kernel
theorem dX3_player_18 : decode cX3_player 18 = .ok (.invokevirtual 54, 3) := by decide +kernel
theorem dX3_player_21 : decode cX3_player 21 = .ok (.ireturn, 1) := by decide +kernel
theorem dX3_player_22 : decode cX3_player 22 = .ok (.aload_n 0, 1) := by decide +kernel
theorem dX3_player_23 : decode cX3_player 23 = .ok (.getfield 10, 3) := by decide +kernel
theorem dX3_player_26 : decode cX3_player 26 = .ok (.getfield 73, 3) := by decide +kernel
theorem dX3_player_29 : decode cX3_player 29 = .ok (.bipush 8, 2) := by decide +kernel
theorem dX3_player_31 : decode cX3_player 31 = .ok (.if_icmp .lt 9, 3) := by decide +kernel
theorem dX3_player_34 : decode cX3_player 34 = .ok (.aload_n 0, 1) := by decide +kernel
theorem dX3_player_35 : decode cX3_player 35 = .ok (.iconst 1, 1) := by decide +kernel
theorem dX3_player_36 : decode cX3_player 36 = .ok (.invokevirtual 54, 3) := by decide +kernel
theorem dX3_player_39 : decode cX3_player 39 = .ok (.ireturn, 1) := by decide +kernel
theorem dX3_player_40 : decode cX3_player 40 = .ok (.aload_n 0, 1) := by decide +kernel
theorem dX3_player_41 : decode cX3_player 41 = .ok (.getfield 10, 3) := by decide +kernel
theorem dX3_player_44 : decode cX3_player 44 = .ok (.iload_n 1, 1) := by decide +kernel
theorem dX3_player_45 : decode cX3_player 45 = .ok (.iload_n 2, 1) := by decide +kernel
theorem dX3_player_46 : decode cX3_player 46 = .ok (.invokevirtual 77, 3) := by decide +kernel
theorem dX3_player_49 : decode cX3_player 49 = .ok (.ireturn, 1) := by decide +kernel
set_option maxRecDepth 20000 in
theorem ggX3_of_X3_isPlayer : GoodIn wsX3_of wsX3_isPlayer := goodIn_r _ [11, 1, 12, 68, 69, 70, 71, 72, 73, 74, 75, 76, 77, 78, 79, 80, 81, 82, 83, 84, 85, 86, 87, 88, 89] (by decide +kernel) (by decide +kernel)
set_option maxRecDepth 20000 in
theorem gX3_of_X3_isPlayer : GoodIn wsX3_of (wsV RX3 81 RX3 yX3_isPlayer wsX3_isPlayer) := goodIn_app (goodIn_of _ (by decide +kernel)) ggX3_of_X3_isPlayer
set_option maxRecDepth 20000 in
theorem ggX3_of_X3_finding : GoodIn wsX3_of wsX3_finding := goodIn_r _ [16, 17, 18, 68, 69, 70, 71, 72, 73, 74, 75, 76] (by decide +kernel) (by decide +kernel)
set_option maxRecDepth 20000 in
theorem gX3_of_X3_finding : GoodIn wsX3_of (wsV RX3 54 RX3 yX3_finding wsX3_finding) := goodIn_app (goodIn_of _ (by decide +kernel)) ggX3_of_X3_finding
set_option maxRecDepth 20000 in
theorem ggX3_of_X0_barsPlayed : GoodIn wsX3_of wsX0_barsPlayed := goodIn_r _ [23, 24, 25, 26, 22, 27, 28, 29, 30, 31, 32, 33, 34, 35, 36, 37, 38, 39, 40, 41, 42, 43, 44, 45, 46, 47, 48, 77, 78, 79, 80, 81, 82, 83, 84, 85, 86, 87, 88, 89] (by decide +kernel) (by decide +kernel)
set_option maxRecDepth 20000 in
theorem gX3_of_X0_barsPlayed : GoodIn wsX3_of (wsV RX3 99 RX0 yX0_barsPlayed wsX0_barsPlayed) := goodIn_app (goodIn_of _ (by decide +kernel)) ggX3_of_X0_barsPlayed
set_option maxRecDepth 20000 in
theorem ggX3_of_X0_barsAlone : GoodIn wsX3_of wsX0_barsAlone := goodIn_r _ [52, 43, 53, 20, 21, 22, 23, 24, 25, 26, 27, 28, 29, 30, 31, 32, 33, 34, 35, 36, 37, 38, 39, 40, 41, 42, 44, 45, 46, 47, 48, 54, 55, 56, 57, 58, 59, 60, 61, 62, 63, 64, 65, 66, 67, 77, 78, 79, 80, 81, 82, 83, 84, 85, 86, 87, 88, 89] (by decide +kernel) (by decide +kernel)
set_option maxRecDepth 20000 in
theorem gX3_of_X0_barsAlone : GoodIn wsX3_of (wsV RX3 102 RX0 yX0_barsAlone wsX0_barsAlone) := goodIn_app (goodIn_of _ (by decide +kernel)) ggX3_of_X0_barsAlone
theorem dX3_of_0 : decode cX3_of 0 = .ok (.aload_n 0, 1) := by decide +kernel
theorem dX3_of_1 : decode cX3_of 1 = .ok (.iload_n 1, 1) := by decide +kernel
theorem dX3_of_2 : decode cX3_of 2 = .ok (.invokevirtual 81, 3) := by decide +kernel
theorem dX3_of_5 : decode cX3_of 5 = .ok (.ifCond .ne 9, 3) := by decide +kernel
theorem dX3_of_8 : decode cX3_of 8 = .ok (.aload_n 0, 1) := by decide +kernel
theorem dX3_of_9 : decode cX3_of 9 = .ok (.iconst 0, 1) := by decide +kernel
theorem dX3_of_10 : decode cX3_of 10 = .ok (.invokevirtual 54, 3) := by decide +kernel
theorem dX3_of_13 : decode cX3_of 13 = .ok (.ireturn, 1) := by decide +kernel
theorem dX3_of_14 : decode cX3_of 14 = .ok (.iload_n 2, 1) := by decide +kernel
theorem dX3_of_15 : decode cX3_of 15 = .ok (.tableswitch 109 0 6 #[41, 51, 61, 71, 81, 91, 100], 41) := by decide +kernel
theorem dX3_of_56 : decode cX3_of 56 = .ok (.aload_n 0, 1) := by decide +kernel
theorem dX3_of_57 : decode cX3_of 57 = .ok (.getfield 10, 3) := by decide +kernel
theorem dX3_of_60 : decode cX3_of 60 = .ok (.getfield 84, 3) := by decide +kernel
theorem dX3_of_63 : decode cX3_of 63 = .ok (.iload_n 1, 1) := by decide +kernel
theorem dX3_of_64 : decode cX3_of 64 = .ok (.iaload, 1) := by decide +kernel
theorem dX3_of_65 : decode cX3_of 65 = .ok (.ireturn, 1) := by decide +kernel
theorem dX3_of_66 : decode cX3_of 66 = .ok (.aload_n 0, 1) := by decide +kernel
theorem dX3_of_67 : decode cX3_of 67 = .ok (.getfield 10, 3) := by decide +kernel
theorem dX3_of_70 : decode cX3_of 70 = .ok (.getfield 87, 3) := by decide +kernel
theorem dX3_of_73 : decode cX3_of 73 = .ok (.iload_n 1, 1) := by decide +kernel
theorem dX3_of_74 : decode cX3_of 74 = .ok (.iaload, 1) := by decide +kernel
theorem dX3_of_75 : decode cX3_of 75 = .ok (.ireturn, 1) := by decide +kernel
theorem dX3_of_76 : decode cX3_of 76 = .ok (.aload_n 0, 1) := by decide +kernel
theorem dX3_of_77 : decode cX3_of 77 = .ok (.getfield 10, 3) := by decide +kernel
theorem dX3_of_80 : decode cX3_of 80 = .ok (.getfield 90, 3) := by decide +kernel
theorem dX3_of_83 : decode cX3_of 83 = .ok (.iload_n 1, 1) := by decide +kernel
theorem dX3_of_84 : decode cX3_of 84 = .ok (.iaload, 1) := by decide +kernel
theorem dX3_of_85 : decode cX3_of 85 = .ok (.ireturn, 1) := by decide +kernel
theorem dX3_of_86 : decode cX3_of 86 = .ok (.aload_n 0, 1) := by decide +kernel
theorem dX3_of_87 : decode cX3_of 87 = .ok (.getfield 10, 3) := by decide +kernel
theorem dX3_of_90 : decode cX3_of 90 = .ok (.getfield 93, 3) := by decide +kernel
theorem dX3_of_93 : decode cX3_of 93 = .ok (.iload_n 1, 1) := by decide +kernel
theorem dX3_of_94 : decode cX3_of 94 = .ok (.iaload, 1) := by decide +kernel
theorem dX3_of_95 : decode cX3_of 95 = .ok (.ireturn, 1) := by decide +kernel
theorem dX3_of_96 : decode cX3_of 96 = .ok (.aload_n 0, 1) := by decide +kernel
theorem dX3_of_97 : decode cX3_of 97 = .ok (.getfield 10, 3) := by decide +kernel
theorem dX3_of_100 : decode cX3_of 100 = .ok (.getfield 96, 3) := by decide +kernel
theorem dX3_of_103 : decode cX3_of 103 = .ok (.iload_n 1, 1) := by decide +kernel
theorem dX3_of_104 : decode cX3_of 104 = .ok (.iaload, 1) := by decide +kernel
theorem dX3_of_105 : decode cX3_of 105 = .ok (.ireturn, 1) := by decide +kernel
theorem dX3_of_106 : decode cX3_of 106 = .ok (.aload_n 0, 1) := by decide +kernel
theorem dX3_of_107 : decode cX3_of 107 = .ok (.getfield 10, 3) := by decide +kernel
theorem dX3_of_110 : decode cX3_of 110 = .ok (.iload_n 1, 1) := by decide +kernel
theorem dX3_of_111 : decode cX3_of 111 = .ok (.invokevirtual 99, 3) := by decide +kernel
theorem dX3_of_114 : decode cX3_of 114 = .ok (.ireturn, 1) := by decide +kernel
theorem dX3_of_115 : decode cX3_of 115 = .ok (.aload_n 0, 1) := by decide +kernel
theorem dX3_of_116 : decode cX3_of 116 = .ok (.getfield 10, 3) := by decide +kernel
theorem dX3_of_119 : decode cX3_of 119 = .ok (.iload_n 1, 1) := by decide +kernel
theorem dX3_of_120 : decode cX3_of 120 = .ok (.invokevirtual 102, 3) := by decide +kernel
theorem dX3_of_123 : decode cX3_of 123 = .ok (.ireturn, 1) := by decide +kernel
theorem dX3_of_124 : decode cX3_of 124 = .ok (.aload_n 0, 1) := by decide +kernel
theorem dX3_of_125 : decode cX3_of 125 = .ok (.iconst 0, 1) := by decide +kernel
theorem dX3_of_126 : decode cX3_of 126 = .ok (.invokevirtual 54, 3) := by decide +kernel
theorem dX3_of_129 : decode cX3_of 129 = .ok (.ireturn, 1) := by decide +kernel
set_option maxRecDepth 20000 in
theorem ggX3_change_X3_isPlayer : GoodIn wsX3_change wsX3_isPlayer := goodIn_r _ [11, 1, 12, 23, 24, 25, 26, 27, 28, 29, 30, 31, 32, 33, 34, 35, 36, 37, 38, 39, 40, 41, 42, 43, 44] (by decide +kernel) (by decide +kernel)
set_option maxRecDepth 20000 in
theorem gX3_change_X3_isPlayer : GoodIn wsX3_change (wsV RX3 81 RX3 yX3_isPlayer wsX3_isPlayer) := goodIn_app (goodIn_of _ (by decide +kernel)) ggX3_change_X3_isPlayer
set_option maxRecDepth 20000 in
theorem ggX3_change_X3_finding : GoodIn wsX3_change wsX3_finding := goodIn_r _ [16, 17, 18, 23, 24, 25, 26, 27, 28, 29, 30, 31] (by decide +kernel) (by decide +kernel)
set_option maxRecDepth 20000 in
theorem gX3_change_X3_finding : GoodIn wsX3_change (wsV RX3 54 RX3 yX3_finding wsX3_finding) := goodIn_app (goodIn_of _ (by decide +kernel)) ggX3_change_X3_finding
set_option maxRecDepth 20000 in
theorem ggX3_change_X3_put : GoodIn wsX3_change wsX3_put := goodIn_r _ [22, 13, 14, 15, 10, 16, 17, 18, 23, 24, 25, 26, 27, 28, 29, 30, 31] (by decide +kernel) (by decide +kernel)
set_option maxRecDepth 20000 in
theorem gX3_change_X3_put : GoodIn wsX3_change (wsV RX3 105 RX3 yX3_put wsX3_put) := goodIn_app (goodIn_of _ (by decide +kernel)) ggX3_change_X3_put
theorem dX3_change_0 : decode cX3_change 0 = .ok (.aload_n 0, 1) := by decide +kernel
theorem dX3_change_1 : decode cX3_change 1 = .ok (.iload_n 1, 1) := by decide +kernel
theorem dX3_change_2 : decode cX3_change 2 = .ok (.invokevirtual 81, 3) := by decide +kernel
theorem dX3_change_5 : decode cX3_change 5 = .ok (.ifCond .ne 9, 3) := by decide +kernel
theorem dX3_change_8 : decode cX3_change 8 = .ok (.aload_n 0, 1) := by decide +kernel
theorem dX3_change_9 : decode cX3_change 9 = .ok (.iconst 0, 1) := by decide +kernel
theorem dX3_change_10 : decode cX3_change 10 = .ok (.invokevirtual 54, 3) := by decide +kernel
theorem dX3_change_13 : decode cX3_change 13 = .ok (.ireturn, 1) := by decide +kernel
theorem dX3_change_14 : decode cX3_change 14 = .ok (.iload_n 2, 1) := by decide +kernel
theorem dX3_change_15 : decode cX3_change 15 = .ok (.tableswitch 112 0 4 #[33, 49, 65, 80, 96], 33) := by decide +kernel
theorem dX3_change_48 : decode cX3_change 48 = .ok (.aload_n 0, 1) := by decide +kernel
theorem dX3_change_49 : decode cX3_change 49 = .ok (.aload_n 0, 1) := by decide +kernel
theorem dX3_change_50 : decode cX3_change 50 = .ok (.getfield 10, 3) := by decide +kernel
theorem dX3_change_53 : decode cX3_change 53 = .ok (.getfield 84, 3) := by decide +kernel
theorem dX3_change_56 : decode cX3_change 56 = .ok (.iload_n 1, 1) := by decide +kernel
theorem dX3_change_57 : decode cX3_change 57 = .ok (.iload_n 3, 1) := by decide +kernel
theorem dX3_change_58 : decode cX3_change 58 = .ok (.bipush 6, 2) := by decide +kernel
theorem dX3_change_60 : decode cX3_change 60 = .ok (.invokevirtual 105, 3) := by decide +kernel
theorem dX3_change_63 : decode cX3_change 63 = .ok (.ireturn, 1) := by decide +kernel
theorem dX3_change_64 : decode cX3_change 64 = .ok (.aload_n 0, 1) := by decide +kernel
theorem dX3_change_65 : decode cX3_change 65 = .ok (.aload_n 0, 1) := by decide +kernel
theorem dX3_change_66 : decode cX3_change 66 = .ok (.getfield 10, 3) := by decide +kernel
theorem dX3_change_69 : decode cX3_change 69 = .ok (.getfield 87, 3) := by decide +kernel
theorem dX3_change_72 : decode cX3_change 72 = .ok (.iload_n 1, 1) := by decide +kernel
theorem dX3_change_73 : decode cX3_change 73 = .ok (.iload_n 3, 1) := by decide +kernel
theorem dX3_change_74 : decode cX3_change 74 = .ok (.bipush 15, 2) := by decide +kernel
theorem dX3_change_76 : decode cX3_change 76 = .ok (.invokevirtual 105, 3) := by decide +kernel
theorem dX3_change_79 : decode cX3_change 79 = .ok (.ireturn, 1) := by decide +kernel
theorem dX3_change_80 : decode cX3_change 80 = .ok (.aload_n 0, 1) := by decide +kernel
theorem dX3_change_81 : decode cX3_change 81 = .ok (.aload_n 0, 1) := by decide +kernel
theorem dX3_change_82 : decode cX3_change 82 = .ok (.getfield 10, 3) := by decide +kernel
theorem dX3_change_85 : decode cX3_change 85 = .ok (.getfield 90, 3) := by decide +kernel
theorem dX3_change_88 : decode cX3_change 88 = .ok (.iload_n 1, 1) := by decide +kernel
theorem dX3_change_89 : decode cX3_change 89 = .ok (.iload_n 3, 1) := by decide +kernel
theorem dX3_change_90 : decode cX3_change 90 = .ok (.iconst 5, 1) := by decide +kernel
theorem dX3_change_91 : decode cX3_change 91 = .ok (.invokevirtual 105, 3) := by decide +kernel
theorem dX3_change_94 : decode cX3_change 94 = .ok (.ireturn, 1) := by decide +kernel
theorem dX3_change_95 : decode cX3_change 95 = .ok (.aload_n 0, 1) := by decide +kernel
theorem dX3_change_96 : decode cX3_change 96 = .ok (.aload_n 0, 1) := by decide +kernel
theorem dX3_change_97 : decode cX3_change 97 = .ok (.getfield 10, 3) := by decide +kernel
theorem dX3_change_100 : decode cX3_change 100 = .ok (.getfield 93, 3) := by decide +kernel
theorem dX3_change_103 : decode cX3_change 103 = .ok (.iload_n 1, 1) := by decide +kernel
theorem dX3_change_104 : decode cX3_change 104 = .ok (.iload_n 3, 1) := by decide +kernel
theorem dX3_change_105 : decode cX3_change 105 = .ok (.bipush 9, 2) := by decide +kernel
theorem dX3_change_107 : decode cX3_change 107 = .ok (.invokevirtual 105, 3) := by decide +kernel
theorem dX3_change_110 : decode cX3_change 110 = .ok (.ireturn, 1) := by decide +kernel
theorem dX3_change_111 : decode cX3_change 111 = .ok (.aload_n 0, 1) := by decide +kernel
theorem dX3_change_112 : decode cX3_change 112 = .ok (.aload_n 0, 1) := by decide +kernel
theorem dX3_change_113 : decode cX3_change 113 = .ok (.getfield 10, 3) := by decide +kernel
theorem dX3_change_116 : decode cX3_change 116 = .ok (.getfield 96, 3) := by decide +kernel
theorem dX3_change_119 : decode cX3_change 119 = .ok (.iload_n 1, 1) := by decide +kernel
theorem dX3_change_120 : decode cX3_change 120 = .ok (.iload_n 3, 1) := by decide +kernel
theorem dX3_change_121 : decode cX3_change 121 = .ok (.bipush 99, 2) := by decide +kernel
theorem dX3_change_123 : decode cX3_change 123 = .ok (.invokevirtual 105, 3) := by decide +kernel
theorem dX3_change_126 : decode cX3_change 126 = .ok (.ireturn, 1) := by decide +kernel
theorem dX3_change_127 : decode cX3_change 127 = .ok (.aload_n 0, 1) := by decide +kernel
theorem dX3_change_128 : decode cX3_change 128 = .ok (.iconst 0, 1) := by decide +kernel
theorem dX3_change_129 : decode cX3_change 129 = .ok (.invokevirtual 54, 3) := by decide +kernel
theorem dX3_change_132 : decode cX3_change 132 = .ok (.ireturn, 1) := by decide +kernel
set_option maxRecDepth 20000 in
theorem ggX3_swap_X3_isPair : GoodIn wsX3_swap wsX3_isPair := goodIn_r _ [7, 8, 9, 10, 6, 11, 1, 12, 25, 26, 27, 28, 29, 30, 31, 32, 33, 34, 35, 36, 37, 38, 39, 40, 41, 42, 43, 44, 45, 46] (by decide +kernel) (by decide +kernel)
set_option maxRecDepth 20000 in
theorem gX3_swap_X3_isPair : GoodIn wsX3_swap (wsV RX3 109 RX3 yX3_isPair wsX3_isPair) := goodIn_app (goodIn_of _ (by decide +kernel)) ggX3_swap_X3_isPair
set_option maxRecDepth 20000 in
theorem ggX3_swap_X3_finding : GoodIn wsX3_swap wsX3_finding := goodIn_r _ [16, 17, 18, 25, 26, 27, 28, 29, 30, 31, 32, 33] (by decide +kernel) (by decide +kernel)
set_option maxRecDepth 20000 in
theorem gX3_swap_X3_finding : GoodIn wsX3_swap (wsV RX3 54 RX3 yX3_finding wsX3_finding) := goodIn_app (goodIn_of _ (by decide +kernel)) ggX3_swap_X3_finding
set_option maxRecDepth 20000 in
theorem ggX3_swap_X0_exchangeSeats : GoodIn wsX3_swap wsX0_exchangeSeats := goodIn_r _ [23, 24, 34, 35, 36, 37, 38, 39, 40, 41, 42, 43, 44, 45, 46] (by decide +kernel) (by decide +kernel)
set_option maxRecDepth 20000 in
theorem gX3_swap_X0_exchangeSeats : GoodIn wsX3_swap (wsV RX3 113 RX0 yX0_exchangeSeats wsX0_exchangeSeats) := goodIn_app (goodIn_of _ (by decide +kernel)) ggX3_swap_X0_exchangeSeats
theorem dX3_swap_0 : decode cX3_swap 0 = .ok (.aload_n 0, 1) := by decide +kernel
theorem dX3_swap_1 : decode cX3_swap 1 = .ok (.iload_n 1, 1) := by decide +kernel
theorem dX3_swap_2 : decode cX3_swap 2 = .ok (.iload_n 2, 1) := by decide +kernel
theorem dX3_swap_3 : decode cX3_swap 3 = .ok (.invokevirtual 109, 3) := by decide +kernel
theorem dX3_swap_6 : decode cX3_swap 6 = .ok (.ifCond .ne 9, 3) := by decide +kernel
theorem dX3_swap_9 : decode cX3_swap 9 = .ok (.aload_n 0, 1) := by decide +kernel
theorem dX3_swap_10 : decode cX3_swap 10 = .ok (.iconst 0, 1) := by decide +kernel
theorem dX3_swap_11 : decode cX3_swap 11 = .ok (.invokevirtual 54, 3) := by decide +kernel
theorem dX3_swap_14 : decode cX3_swap 14 = .ok (.ireturn, 1) := by decide +kernel
theorem dX3_swap_15 : decode cX3_swap 15 = .ok (.aload_n 0, 1) := by decide +kernel
theorem dX3_swap_16 : decode cX3_swap 16 = .ok (.getfield 10, 3) := by decide +kernel
theorem dX3_swap_19 : decode cX3_swap 19 = .ok (.getfield 87, 3) := by decide +kernel
theorem dX3_swap_22 : decode cX3_swap 22 = .ok (.iload_n 1, 1) := by decide +kernel
theorem dX3_swap_23 : decode cX3_swap 23 = .ok (.iaload, 1) := by decide +kernel
theorem dX3_swap_24 : decode cX3_swap 24 = .ok (.aload_n 0, 1) := by decide +kernel
theorem dX3_swap_25 : decode cX3_swap 25 = .ok (.getfield 10, 3) := by decide +kernel
theorem dX3_swap_28 : decode cX3_swap 28 = .ok (.getfield 87, 3) := by decide +kernel
theorem dX3_swap_31 : decode cX3_swap 31 = .ok (.iload_n 2, 1) := by decide +kernel
theorem dX3_swap_32 : decode cX3_swap 32 = .ok (.iaload, 1) := by decide +kernel
theorem dX3_swap_33 : decode cX3_swap 33 = .ok (.if_icmp .ne 5, 3) := by decide +kernel
theorem dX3_swap_36 : decode cX3_swap 36 = .ok (.iconst 0, 1) := by decide +kernel
theorem dX3_swap_37 : decode cX3_swap 37 = .ok (.ireturn, 1) := by decide +kernel
theorem dX3_swap_38 : decode cX3_swap 38 = .ok (.aload_n 0, 1) := by decide +kernel
theorem dX3_swap_39 : decode cX3_swap 39 = .ok (.getfield 10, 3) := by decide +kernel
theorem dX3_swap_42 : decode cX3_swap 42 = .ok (.iload_n 1, 1) := by decide +kernel
theorem dX3_swap_43 : decode cX3_swap 43 = .ok (.iload_n 2, 1) := by decide +kernel
theorem dX3_swap_44 : decode cX3_swap 44 = .ok (.invokevirtual 113, 3) := by decide +kernel
theorem dX3_swap_47 : decode cX3_swap 47 = .ok (.iconst 1, 1) := by decide +kernel
theorem dX3_swap_48 : decode cX3_swap 48 = .ok (.ireturn, 1) := by decide +kernel
set_option maxRecDepth 20000 in
theorem ggX3_sound_X3_isPlayer : GoodIn wsX3_sound wsX3_isPlayer := goodIn_r _ [6, 1, 7, 69, 70, 71, 72, 73, 74, 75, 76, 77, 78, 79, 80, 81, 82, 83, 84, 85, 86, 87, 88, 89, 90] (by decide +kernel) (by decide +kernel)
set_option maxRecDepth 20000 in
theorem gX3_sound_X3_isPlayer : GoodIn wsX3_sound (wsV RX3 81 RX3 yX3_isPlayer wsX3_isPlayer) := goodIn_app (goodIn_of _ (by decide +kernel)) ggX3_sound_X3_isPlayer
set_option maxRecDepth 20000 in
theorem ggX3_sound_X3_isSeat : GoodIn wsX3_sound wsX3_isSeat := goodIn_r _ [11] (by decide +kernel) (by decide +kernel)
set_option maxRecDepth 20000 in
theorem gX3_sound_X3_isSeat : GoodIn wsX3_sound (wsV RX3 70 RX3 yX3_isSeat wsX3_isSeat) := goodIn_app (goodIn_of _ (by decide +kernel)) ggX3_sound_X3_isSeat
set_option maxRecDepth 20000 in
theorem ggX3_sound_X3_isBar : GoodIn wsX3_sound wsX3_isBar := goodIn_r _ [15] (by decide +kernel) (by decide +kernel)
set_option maxRecDepth 20000 in
theorem gX3_sound_X3_isBar : GoodIn wsX3_sound (wsV RX3 50 RX3 yX3_isBar wsX3_isBar) := goodIn_app (goodIn_of _ (by decide +kernel)) ggX3_sound_X3_isBar
set_option maxRecDepth 20000 in
theorem ggX3_sound_X3_finding : GoodIn wsX3_sound wsX3_finding := goodIn_r _ [19, 20, 21, 69, 70, 71, 72, 73, 74, 75, 76, 77] (by decide +kernel) (by decide +kernel)
set_option maxRecDepth 20000 in
theorem gX3_sound_X3_finding : GoodIn wsX3_sound (wsV RX3 54 RX3 yX3_finding wsX3_finding) := goodIn_app (goodIn_of _ (by decide +kernel)) ggX3_sound_X3_finding
set_option maxRecDepth 20000 in
theorem ggX3_sound_X0_isPlaying : GoodIn wsX3_sound wsX0_isPlaying := goodIn_r _ [26, 27, 28, 29, 25, 30, 31, 32, 33, 34, 35, 36, 37, 38, 39, 40, 41, 42, 43, 44, 45, 46, 47, 48, 49, 50, 51, 52, 53, 54, 55, 78, 79, 80, 81, 82, 83, 84, 85, 86, 87, 88, 89, 90] (by decide +kernel) (by decide +kernel)
set_option maxRecDepth 20000 in
theorem gX3_sound_X0_isPlaying : GoodIn wsX3_sound (wsV RX3 117 RX0 yX0_isPlaying wsX0_isPlaying) := goodIn_app (goodIn_of _ (by decide +kernel)) ggX3_sound_X0_isPlaying
set_option maxRecDepth 20000 in
theorem ggX3_sound_X0_loudness : GoodIn wsX3_sound wsX0_loudness := goodIn_r _ [59, 60, 61, 62, 63, 64, 65, 66, 67, 68, 78, 79, 80, 81, 82, 83, 84, 85, 86, 87, 88, 89, 90] (by decide +kernel) (by decide +kernel)
set_option maxRecDepth 20000 in
theorem gX3_sound_X0_loudness : GoodIn wsX3_sound (wsV RX3 120 RX0 yX0_loudness wsX0_loudness) := goodIn_app (goodIn_of _ (by decide +kernel)) ggX3_sound_X0_loudness
theorem dX3_sound_0 : decode cX3_sound 0 = .ok (.aload_n 0, 1) := by decide +kernel
theorem dX3_sound_1 : decode cX3_sound 1 = .ok (.iload_n 1, 1) := by decide +kernel
theorem dX3_sound_2 : decode cX3_sound 2 = .ok (.invokevirtual 81, 3) := by decide +kernel
theorem dX3_sound_5 : decode cX3_sound 5 = .ok (.ifCond .eq 19, 3) := by decide +kernel
theorem dX3_sound_8 : decode cX3_sound 8 = .ok (.aload_n 0, 1) := by decide +kernel
theorem dX3_sound_9 : decode cX3_sound 9 = .ok (.iload_n 2, 1) := by decide +kernel
theorem dX3_sound_10 : decode cX3_sound 10 = .ok (.invokevirtual 70, 3) := by decide +kernel
theorem dX3_sound_13 : decode cX3_sound 13 = .ok (.ifCond .eq 11, 3) := by decide +kernel
theorem dX3_sound_16 : decode cX3_sound 16 = .ok (.aload_n 0, 1) := by decide +kernel
theorem dX3_sound_17 : decode cX3_sound 17 = .ok (.iload_n 3, 1) := by decide +kernel
theorem dX3_sound_18 : decode cX3_sound 18 = .ok (.invokevirtual 50, 3) := by decide +kernel
theorem dX3_sound_21 : decode cX3_sound 21 = .ok (.ifCond .ne 9, 3) := by decide +kernel
theorem dX3_sound_24 : decode cX3_sound 24 = .ok (.aload_n 0, 1) := by decide +kernel
theorem dX3_sound_25 : decode cX3_sound 25 = .ok (.iconst 0, 1) := by decide +kernel
theorem dX3_sound_26 : decode cX3_sound 26 = .ok (.invokevirtual 54, 3) := by decide +kernel
theorem dX3_sound_29 : decode cX3_sound 29 = .ok (.ireturn, 1) := by decide +kernel
theorem dX3_sound_30 : decode cX3_sound 30 = .ok (.aload_n 0, 1) := by decide +kernel
theorem dX3_sound_31 : decode cX3_sound 31 = .ok (.getfield 10, 3) := by decide +kernel
theorem dX3_sound_34 : decode cX3_sound 34 = .ok (.iload_n 1, 1) := by decide +kernel
theorem dX3_sound_35 : decode cX3_sound 35 = .ok (.iload_n 3, 1) := by decide +kernel
theorem dX3_sound_36 : decode cX3_sound 36 = .ok (.invokevirtual 117, 3) := by decide +kernel
theorem dX3_sound_39 : decode cX3_sound 39 = .ok (.ifCond .eq 15, 3) := by decide +kernel
theorem dX3_sound_42 : decode cX3_sound 42 = .ok (.aload_n 0, 1) := by decide +kernel
theorem dX3_sound_43 : decode cX3_sound 43 = .ok (.getfield 10, 3) := by decide +kernel
theorem dX3_sound_46 : decode cX3_sound 46 = .ok (.iload_n 1, 1) := by decide +kernel
theorem dX3_sound_47 : decode cX3_sound 47 = .ok (.iload_n 2, 1) := by decide +kernel
theorem dX3_sound_48 : decode cX3_sound 48 = .ok (.invokevirtual 120, 3) := by decide +kernel
theorem dX3_sound_51 : decode cX3_sound 51 = .ok (.goto 4, 3) := by decide +kernel
theorem dX3_sound_54 : decode cX3_sound 54 = .ok (.iconst 0, 1) := by decide +kernel
theorem dX3_sound_55 : decode cX3_sound 55 = .ok (.ireturn, 1) := by decide +kernel
set_option maxRecDepth 20000 in
theorem ggX3_heard_X3_isSeat : GoodIn wsX3_heard wsX3_isSeat := goodIn_r _ [6] (by decide +kernel) (by decide +kernel)
set_option maxRecDepth 20000 in
theorem gX3_heard_X3_isSeat : GoodIn wsX3_heard (wsV RX3 70 RX3 yX3_isSeat wsX3_isSeat) := goodIn_app (goodIn_of _ (by decide +kernel)) ggX3_heard_X3_isSeat
set_option maxRecDepth 20000 in
theorem ggX3_heard_X3_isBar : GoodIn wsX3_heard wsX3_isBar := goodIn_r _ [10] (by decide +kernel) (by decide +kernel)
set_option maxRecDepth 20000 in
theorem gX3_heard_X3_isBar : GoodIn wsX3_heard (wsV RX3 50 RX3 yX3_isBar wsX3_isBar) := goodIn_app (goodIn_of _ (by decide +kernel)) ggX3_heard_X3_isBar
set_option maxRecDepth 20000 in
theorem ggX3_heard_X3_finding : GoodIn wsX3_heard wsX3_finding := goodIn_r _ [14, 15, 16, 72, 73, 74, 75, 76, 77, 78, 79, 80] (by decide +kernel) (by decide +kernel)
set_option maxRecDepth 20000 in
theorem gX3_heard_X3_finding : GoodIn wsX3_heard (wsV RX3 54 RX3 yX3_finding wsX3_finding) := goodIn_app (goodIn_of _ (by decide +kernel)) ggX3_heard_X3_finding
set_option maxRecDepth 20000 in
theorem ggX3_heard_X0_playersIn : GoodIn wsX3_heard wsX0_playersIn := goodIn_r _ [21, 22, 23, 24, 25, 20, 26, 27, 28, 29, 30, 31, 32, 33, 34, 35, 36, 37, 38, 39, 40, 41, 42, 43, 44, 45, 46, 47, 48, 49, 50, 51, 52, 53, 54, 81, 82, 83, 84, 85, 86, 87, 88, 89, 90, 91, 92, 93] (by decide +kernel) (by decide +kernel)
set_option maxRecDepth 20000 in
theorem gX3_heard_X0_playersIn : GoodIn wsX3_heard (wsV RX3 61 RX0 yX0_playersIn wsX0_playersIn) := goodIn_app (goodIn_of _ (by decide +kernel)) ggX3_heard_X0_playersIn
set_option maxRecDepth 20000 in
theorem ggX3_heard_X0_greatest : GoodIn wsX3_heard wsX0_greatest := goodIn_r _ [58, 22, 59, 60, 61, 62, 63, 64, 65, 20, 66, 67, 68, 69, 70, 71, 81, 82, 83, 84, 85, 86, 87, 88, 89, 90, 91, 92, 93] (by decide +kernel) (by decide +kernel)
set_option maxRecDepth 20000 in
theorem gX3_heard_X0_greatest : GoodIn wsX3_heard (wsV RX3 123 RX0 yX0_greatest wsX0_greatest) := goodIn_app (goodIn_of _ (by decide +kernel)) ggX3_heard_X0_greatest
theorem dX3_heard_0 : decode cX3_heard 0 = .ok (.aload_n 0, 1) := by decide +kernel
theorem dX3_heard_1 : decode cX3_heard 1 = .ok (.iload_n 1, 1) := by decide +kernel
theorem dX3_heard_2 : decode cX3_heard 2 = .ok (.invokevirtual 70, 3) := by decide +kernel
theorem dX3_heard_5 : decode cX3_heard 5 = .ok (.ifCond .eq 11, 3) := by decide +kernel
theorem dX3_heard_8 : decode cX3_heard 8 = .ok (.aload_n 0, 1) := by decide +kernel
theorem dX3_heard_9 : decode cX3_heard 9 = .ok (.iload_n 2, 1) := by decide +kernel
theorem dX3_heard_10 : decode cX3_heard 10 = .ok (.invokevirtual 50, 3) := by decide +kernel
theorem dX3_heard_13 : decode cX3_heard 13 = .ok (.ifCond .ne 9, 3) := by decide +kernel
theorem dX3_heard_16 : decode cX3_heard 16 = .ok (.aload_n 0, 1) := by decide +kernel
theorem dX3_heard_17 : decode cX3_heard 17 = .ok (.iconst 0, 1) := by decide +kernel
theorem dX3_heard_18 : decode cX3_heard 18 = .ok (.invokevirtual 54, 3) := by decide +kernel
theorem dX3_heard_21 : decode cX3_heard 21 = .ok (.ireturn, 1) := by decide +kernel
theorem dX3_heard_22 : decode cX3_heard 22 = .ok (.aload_n 0, 1) := by decide +kernel
theorem dX3_heard_23 : decode cX3_heard 23 = .ok (.getfield 10, 3) := by decide +kernel
theorem dX3_heard_26 : decode cX3_heard 26 = .ok (.iload_n 1, 1) := by decide +kernel
theorem dX3_heard_27 : decode cX3_heard 27 = .ok (.aload_n 0, 1) := by decide +kernel
theorem dX3_heard_28 : decode cX3_heard 28 = .ok (.getfield 10, 3) := by decide +kernel
theorem dX3_heard_31 : decode cX3_heard 31 = .ok (.iload_n 2, 1) := by decide +kernel
theorem dX3_heard_32 : decode cX3_heard 32 = .ok (.invokevirtual 61, 3) := by decide +kernel
theorem dX3_heard_35 : decode cX3_heard 35 = .ok (.invokevirtual 123, 3) := by decide +kernel
theorem dX3_heard_38 : decode cX3_heard 38 = .ok (.ireturn, 1) := by decide +kernel
set_option maxRecDepth 20000 in
theorem ggX3_hears_X3_isPair : GoodIn wsX3_hears wsX3_isPair := goodIn_r _ [6, 7, 8, 9, 5, 10, 1, 11, 62, 63, 64, 65, 66, 67, 68, 69, 70, 71, 72, 73, 74, 75, 76, 77, 78, 79, 80, 81, 82, 83] (by decide +kernel) (by decide +kernel)
set_option maxRecDepth 20000 in
theorem gX3_hears_X3_isPair : GoodIn wsX3_hears (wsV RX3 109 RX3 yX3_isPair wsX3_isPair) := goodIn_app (goodIn_of _ (by decide +kernel)) ggX3_hears_X3_isPair
set_option maxRecDepth 20000 in
theorem ggX3_hears_X3_finding : GoodIn wsX3_hears wsX3_finding := goodIn_r _ [15, 16, 17, 62, 63, 64, 65, 66, 67, 68, 69, 70] (by decide +kernel) (by decide +kernel)
set_option maxRecDepth 20000 in
theorem gX3_hears_X3_finding : GoodIn wsX3_hears (wsV RX3 54 RX3 yX3_finding wsX3_finding) := goodIn_app (goodIn_of _ (by decide +kernel)) ggX3_hears_X3_finding
set_option maxRecDepth 20000 in
theorem ggX3_hears_X0_barsHearing : GoodIn wsX3_hears wsX0_barsHearing := goodIn_r _ [22, 23, 24, 25, 21, 26, 27, 28, 29, 30, 31, 32, 33, 34, 35, 36, 37, 38, 39, 40, 41, 42, 43, 44, 45, 46, 47, 48, 49, 50, 51, 52, 53, 54, 55, 56, 57, 58, 59, 60, 61, 71, 72, 73, 74, 75, 76, 77, 78, 79, 80, 81, 82, 83] (by decide +kernel) (by decide +kernel)
set_option maxRecDepth 20000 in
theorem gX3_hears_X0_barsHearing : GoodIn wsX3_hears (wsV RX3 126 RX0 yX0_barsHearing wsX0_barsHearing) := goodIn_app (goodIn_of _ (by decide +kernel)) ggX3_hears_X0_barsHearing
theorem dX3_hears_0 : decode cX3_hears 0 = .ok (.aload_n 0, 1) := by decide +kernel
theorem dX3_hears_1 : decode cX3_hears 1 = .ok (.iload_n 1, 1) := by decide +kernel
theorem dX3_hears_2 : decode cX3_hears 2 = .ok (.iload_n 2, 1) := by decide +kernel
theorem dX3_hears_3 : decode cX3_hears 3 = .ok (.invokevirtual 109, 3) := by decide +kernel
theorem dX3_hears_6 : decode cX3_hears 6 = .ok (.ifCond .ne 9, 3) := by decide +kernel
theorem dX3_hears_9 : decode cX3_hears 9 = .ok (.aload_n 0, 1) := by decide +kernel
theorem dX3_hears_10 : decode cX3_hears 10 = .ok (.iconst 0, 1) := by decide +kernel
theorem dX3_hears_11 : decode cX3_hears 11 = .ok (.invokevirtual 54, 3) := by decide +kernel
theorem dX3_hears_14 : decode cX3_hears 14 = .ok (.ireturn, 1) := by decide +kernel
theorem dX3_hears_15 : decode cX3_hears 15 = .ok (.aload_n 0, 1) := by decide +kernel
theorem dX3_hears_16 : decode cX3_hears 16 = .ok (.getfield 10, 3) := by decide +kernel
theorem dX3_hears_19 : decode cX3_hears 19 = .ok (.iload_n 1, 1) := by decide +kernel
theorem dX3_hears_20 : decode cX3_hears 20 = .ok (.iload_n 2, 1) := by decide +kernel
theorem dX3_hears_21 : decode cX3_hears 21 = .ok (.invokevirtual 126, 3) := by decide +kernel
theorem dX3_hears_24 : decode cX3_hears 24 = .ok (.ireturn, 1) := by decide +kernel
set_option maxRecDepth 20000 in
theorem ggX3_hearing_X3_isPlayer : GoodIn wsX3_hearing wsX3_isPlayer := goodIn_r _ [6, 1, 7, 70, 71, 72, 73, 74, 75, 76, 77, 78, 79, 80, 81, 82, 83, 84, 85, 86, 87, 88, 89, 90, 91] (by decide +kernel) (by decide +kernel)
set_option maxRecDepth 20000 in
theorem gX3_hearing_X3_isPlayer : GoodIn wsX3_hearing (wsV RX3 81 RX3 yX3_isPlayer wsX3_isPlayer) := goodIn_app (goodIn_of _ (by decide +kernel)) ggX3_hearing_X3_isPlayer
set_option maxRecDepth 20000 in
theorem ggX3_hearing_X3_isBar : GoodIn wsX3_hearing wsX3_isBar := goodIn_r _ [11] (by decide +kernel) (by decide +kernel)
set_option maxRecDepth 20000 in
theorem gX3_hearing_X3_isBar : GoodIn wsX3_hearing (wsV RX3 50 RX3 yX3_isBar wsX3_isBar) := goodIn_app (goodIn_of _ (by decide +kernel)) ggX3_hearing_X3_isBar
set_option maxRecDepth 20000 in
theorem ggX3_hearing_X3_finding : GoodIn wsX3_hearing wsX3_finding := goodIn_r _ [15, 16, 17, 70, 71, 72, 73, 74, 75, 76, 77, 78] (by decide +kernel) (by decide +kernel)
set_option maxRecDepth 20000 in
theorem gX3_hearing_X3_finding : GoodIn wsX3_hearing (wsV RX3 54 RX3 yX3_finding wsX3_finding) := goodIn_app (goodIn_of _ (by decide +kernel)) ggX3_hearing_X3_finding
set_option maxRecDepth 20000 in
theorem ggX3_hearing_X0_reaching : GoodIn wsX3_hearing wsX0_reaching := goodIn_r _ [22, 23, 24, 25, 26, 21, 27, 28, 29, 30, 31, 32, 33, 34, 79, 80, 81, 82, 83, 84, 85, 86, 87, 88, 89, 90, 91] (by decide +kernel) (by decide +kernel)
set_option maxRecDepth 20000 in
theorem gX3_hearing_X0_reaching : GoodIn wsX3_hearing (wsV RX3 129 RX0 yX0_reaching wsX0_reaching) := goodIn_app (goodIn_of _ (by decide +kernel)) ggX3_hearing_X0_reaching
set_option maxRecDepth 20000 in
theorem ggX3_hearing_X0_playersIn : GoodIn wsX3_hearing wsX0_playersIn := goodIn_r _ [38, 23, 39, 40, 41, 21, 42, 43, 44, 45, 46, 47, 48, 49, 50, 51, 52, 53, 54, 55, 28, 56, 57, 58, 59, 60, 61, 62, 63, 64, 65, 66, 67, 68, 69, 79, 80, 81, 82, 83, 84, 85, 86, 87, 88, 89, 90, 91] (by decide +kernel) (by decide +kernel)
set_option maxRecDepth 20000 in
theorem gX3_hearing_X0_playersIn : GoodIn wsX3_hearing (wsV RX3 61 RX0 yX0_playersIn wsX0_playersIn) := goodIn_app (goodIn_of _ (by decide +kernel)) ggX3_hearing_X0_playersIn
theorem dX3_hearing_0 : decode cX3_hearing 0 = .ok (.aload_n 0, 1) := by decide +kernel
theorem dX3_hearing_1 : decode cX3_hearing 1 = .ok (.iload_n 1, 1) := by decide +kernel
theorem dX3_hearing_2 : decode cX3_hearing 2 = .ok (.invokevirtual 81, 3) := by decide +kernel
theorem dX3_hearing_5 : decode cX3_hearing 5 = .ok (.ifCond .eq 11, 3) := by decide +kernel
theorem dX3_hearing_8 : decode cX3_hearing 8 = .ok (.aload_n 0, 1) := by decide +kernel
theorem dX3_hearing_9 : decode cX3_hearing 9 = .ok (.iload_n 2, 1) := by decide +kernel
theorem dX3_hearing_10 : decode cX3_hearing 10 = .ok (.invokevirtual 50, 3) := by decide +kernel
theorem dX3_hearing_13 : decode cX3_hearing 13 = .ok (.ifCond .ne 9, 3) := by decide +kernel
theorem dX3_hearing_16 : decode cX3_hearing 16 = .ok (.aload_n 0, 1) := by decide +kernel
theorem dX3_hearing_17 : decode cX3_hearing 17 = .ok (.iconst 0, 1) := by decide +kernel
theorem dX3_hearing_18 : decode cX3_hearing 18 = .ok (.invokevirtual 54, 3) := by decide +kernel
theorem dX3_hearing_21 : decode cX3_hearing 21 = .ok (.ireturn, 1) := by decide +kernel
theorem dX3_hearing_22 : decode cX3_hearing 22 = .ok (.aload_n 0, 1) := by decide +kernel
theorem dX3_hearing_23 : decode cX3_hearing 23 = .ok (.getfield 10, 3) := by decide +kernel
theorem dX3_hearing_26 : decode cX3_hearing 26 = .ok (.iload_n 1, 1) := by decide +kernel
theorem dX3_hearing_27 : decode cX3_hearing 27 = .ok (.invokevirtual 129, 3) := by decide +kernel
theorem dX3_hearing_30 : decode cX3_hearing 30 = .ok (.aload_n 0, 1) := by decide +kernel
theorem dX3_hearing_31 : decode cX3_hearing 31 = .ok (.getfield 10, 3) := by decide +kernel
theorem dX3_hearing_34 : decode cX3_hearing 34 = .ok (.iload_n 2, 1) := by decide +kernel
theorem dX3_hearing_35 : decode cX3_hearing 35 = .ok (.invokevirtual 61, 3) := by decide +kernel
theorem dX3_hearing_38 : decode cX3_hearing 38 = .ok (.iand, 1) := by decide +kernel
theorem dX3_hearing_39 : decode cX3_hearing 39 = .ok (.ireturn, 1) := by decide +kernel
set_option maxRecDepth 20000 in
theorem ggX3_go_X3_finding : GoodIn wsX3_go wsX3_finding := goodIn_r _ [8, 9, 10, 82, 83, 84, 85, 86, 87, 88, 89, 90] (by decide +kernel) (by decide +kernel)
set_option maxRecDepth 20000 in
theorem gX3_go_X3_finding : GoodIn wsX3_go (wsV RX3 54 RX3 yX3_finding wsX3_finding) := goodIn_app (goodIn_of _ (by decide +kernel)) ggX3_go_X3_finding
set_option maxRecDepth 20000 in
theorem ggX3_go_X0_passEvenings : GoodIn wsX3_go wsX0_passEvenings := goodIn_r _ [15, 16, 17, 18, 14, 19, 20, 21, 22, 23, 24, 25, 26, 27, 28, 29, 30, 31, 32, 33, 34, 35, 36, 37, 38, 39, 40, 41, 42, 43, 44, 45, 46, 47, 48, 49, 50, 51, 52, 53, 54, 55, 56, 57, 58, 59, 60, 61, 62, 63, 64, 65, 66, 67, 68, 69, 70, 71, 72, 73, 74, 75, 76, 77, 91, 92, 93, 94, 95, 96, 97, 98, 99, 100, 101, 102, 103] (by decide +kernel) (by decide +kernel)
set_option maxRecDepth 20000 in
theorem gX3_go_X0_passEvenings : GoodIn wsX3_go (wsV RX3 136 RX0 yX0_passEvenings wsX0_passEvenings) := goodIn_app (goodIn_of _ (by decide +kernel)) ggX3_go_X0_passEvenings
set_option maxRecDepth 20000 in
theorem ggX3_go_X0_allNerve : GoodIn wsX3_go wsX0_allNerve := goodIn_r _ [81, 26, 20, 91, 92, 93, 94, 95, 96, 97, 98, 99, 100, 101, 102, 103] (by decide +kernel) (by decide +kernel)
set_option maxRecDepth 20000 in
theorem gX3_go_X0_allNerve : GoodIn wsX3_go (wsV RX3 140 RX0 yX0_allNerve wsX0_allNerve) := goodIn_app (goodIn_of _ (by decide +kernel)) ggX3_go_X0_allNerve
theorem dX3_go_0 : decode cX3_go 0 = .ok (.iload_n 1, 1) := by decide +kernel
theorem dX3_go_1 : decode cX3_go 1 = .ok (.iconst 1, 1) := by decide +kernel
theorem dX3_go_2 : decode cX3_go 2 = .ok (.if_icmp .lt 9, 3) := by decide +kernel
theorem dX3_go_5 : decode cX3_go 5 = .ok (.iload_n 1, 1) := by decide +kernel
theorem dX3_go_6 : decode cX3_go 6 = .ok (.bipush 20, 2) := by decide +kernel
theorem dX3_go_8 : decode cX3_go 8 = .ok (.if_icmp .le 9, 3) := by decide +kernel
theorem dX3_go_11 : decode cX3_go 11 = .ok (.aload_n 0, 1) := by decide +kernel
theorem dX3_go_12 : decode cX3_go 12 = .ok (.iconst 0, 1) := by decide +kernel
theorem dX3_go_13 : decode cX3_go 13 = .ok (.invokevirtual 54, 3) := by decide +kernel
theorem dX3_go_16 : decode cX3_go 16 = .ok (.ireturn, 1) := by decide +kernel
theorem dX3_go_17 : decode cX3_go 17 = .ok (.aload_n 0, 1) := by decide +kernel
theorem dX3_go_18 : decode cX3_go 18 = .ok (.getfield 10, 3) := by decide +kernel
theorem dX3_go_21 : decode cX3_go 21 = .ok (.getfield 132, 3) := by decide +kernel
theorem dX3_go_24 : decode cX3_go 24 = .ok (.ldc 135, 2) := by decide +kernel
theorem dX3_go_26 : decode cX3_go 26 = .ok (.iload_n 1, 1) := by decide +kernel
theorem dX3_go_27 : decode cX3_go 27 = .ok (.isub, 1) := by decide +kernel
theorem dX3_go_28 : decode cX3_go 28 = .ok (.if_icmp .le 9, 3) := by decide +kernel
theorem dX3_go_31 : decode cX3_go 31 = .ok (.aload_n 0, 1) := by decide +kernel
theorem dX3_go_32 : decode cX3_go 32 = .ok (.iconst 4, 1) := by decide +kernel
theorem dX3_go_33 : decode cX3_go 33 = .ok (.invokevirtual 54, 3) := by decide +kernel
theorem dX3_go_36 : decode cX3_go 36 = .ok (.ireturn, 1) := by decide +kernel
theorem dX3_go_37 : decode cX3_go 37 = .ok (.aload_n 0, 1) := by decide +kernel
theorem dX3_go_38 : decode cX3_go 38 = .ok (.getfield 10, 3) := by decide +kernel
theorem dX3_go_41 : decode cX3_go 41 = .ok (.iload_n 1, 1) := by decide +kernel
theorem dX3_go_42 : decode cX3_go 42 = .ok (.invokevirtual 136, 3) := by decide +kernel
theorem dX3_go_45 : decode cX3_go 45 = .ok (.aload_n 0, 1) := by decide +kernel
theorem dX3_go_46 : decode cX3_go 46 = .ok (.getfield 10, 3) := by decide +kernel
theorem dX3_go_49 : decode cX3_go 49 = .ok (.invokevirtual 140, 3) := by decide +kernel
theorem dX3_go_52 : decode cX3_go 52 = .ok (.ireturn, 1) := by decide +kernel
set_option maxRecDepth 20000 in
theorem ggX3_now_X0_allNerve : GoodIn wsX3_now wsX0_allNerve := goodIn_r _ [7, 8, 9, 90, 91, 92, 93, 94, 95, 96, 97, 98, 99, 100, 101, 102] (by decide +kernel) (by decide +kernel)
set_option maxRecDepth 20000 in
theorem gX3_now_X0_allNerve : GoodIn wsX3_now (wsV RX3 140 RX0 yX0_allNerve wsX0_allNerve) := goodIn_app (goodIn_of _ (by decide +kernel)) ggX3_now_X0_allNerve
set_option maxRecDepth 20000 in
theorem ggX3_now_X0_unnerved : GoodIn wsX3_now wsX0_unnerved := goodIn_r _ [13, 8, 9, 90, 91, 92, 93, 94, 95, 96, 97, 98, 99, 100, 101, 102] (by decide +kernel) (by decide +kernel)
set_option maxRecDepth 20000 in
theorem gX3_now_X0_unnerved : GoodIn wsX3_now (wsV RX3 144 RX0 yX0_unnerved wsX0_unnerved) := goodIn_app (goodIn_of _ (by decide +kernel)) ggX3_now_X0_unnerved
set_option maxRecDepth 20000 in
theorem ggX3_now_X0_allLoud : GoodIn wsX3_now wsX0_allLoud := goodIn_r _ [17, 8, 18, 90, 91, 92, 93, 94, 95, 96, 97, 98, 99, 100, 101, 102] (by decide +kernel) (by decide +kernel)
set_option maxRecDepth 20000 in
theorem gX3_now_X0_allLoud : GoodIn wsX3_now (wsV RX3 147 RX0 yX0_allLoud wsX0_allLoud) := goodIn_app (goodIn_of _ (by decide +kernel)) ggX3_now_X0_allLoud
set_option maxRecDepth 20000 in
theorem ggX3_now_X0_allHeard : GoodIn wsX3_now wsX0_allHeard := goodIn_r _ [22, 23, 24, 25, 6, 26, 8, 27, 28, 29, 30, 31, 32, 33, 34, 35, 36, 37, 38, 9, 39, 40, 41, 42, 43, 44, 45, 46, 47, 48, 49, 50, 51, 52, 53, 54, 55, 56, 57, 58, 59, 60, 61, 62, 63, 64, 65, 66, 67, 68, 69, 18, 70, 71, 72, 73, 90, 91, 92, 93, 94, 95, 96, 97, 98, 99, 100, 101, 102] (by decide +kernel) (by decide +kernel)
set_option maxRecDepth 20000 in
theorem gX3_now_X0_allHeard : GoodIn wsX3_now (wsV RX3 150 RX0 yX0_allHeard wsX0_allHeard) := goodIn_app (goodIn_of _ (by decide +kernel)) ggX3_now_X0_allHeard
set_option maxRecDepth 20000 in
theorem ggX3_now_X3_finding : GoodIn wsX3_now wsX3_finding := goodIn_r _ [78, 79, 80, 81, 82, 83, 84, 85, 86, 87, 88, 89] (by decide +kernel) (by decide +kernel)
set_option maxRecDepth 20000 in
theorem gX3_now_X3_finding : GoodIn wsX3_now (wsV RX3 54 RX3 yX3_finding wsX3_finding) := goodIn_app (goodIn_of _ (by decide +kernel)) ggX3_now_X3_finding
theorem dX3_now_0 : decode cX3_now 0 = .ok (.iload_n 1, 1) := by decide +kernel
theorem dX3_now_1 : decode cX3_now 1 = .ok (.tableswitch 75 0 4 #[35, 43, 51, 59, 67], 35) := by decide +kernel
theorem dX3_now_36 : decode cX3_now 36 = .ok (.aload_n 0, 1) := by decide +kernel
theorem dX3_now_37 : decode cX3_now 37 = .ok (.getfield 10, 3) := by decide +kernel
theorem dX3_now_40 : decode cX3_now 40 = .ok (.getfield 132, 3) := by decide +kernel
theorem dX3_now_43 : decode cX3_now 43 = .ok (.ireturn, 1) := by decide +kernel
theorem dX3_now_44 : decode cX3_now 44 = .ok (.aload_n 0, 1) := by decide +kernel
theorem dX3_now_45 : decode cX3_now 45 = .ok (.getfield 10, 3) := by decide +kernel
theorem dX3_now_48 : decode cX3_now 48 = .ok (.invokevirtual 140, 3) := by decide +kernel
theorem dX3_now_51 : decode cX3_now 51 = .ok (.ireturn, 1) := by decide +kernel
theorem dX3_now_52 : decode cX3_now 52 = .ok (.aload_n 0, 1) := by decide +kernel
theorem dX3_now_53 : decode cX3_now 53 = .ok (.getfield 10, 3) := by decide +kernel
theorem dX3_now_56 : decode cX3_now 56 = .ok (.invokevirtual 144, 3) := by decide +kernel
theorem dX3_now_59 : decode cX3_now 59 = .ok (.ireturn, 1) := by decide +kernel
theorem dX3_now_60 : decode cX3_now 60 = .ok (.aload_n 0, 1) := by decide +kernel
theorem dX3_now_61 : decode cX3_now 61 = .ok (.getfield 10, 3) := by decide +kernel
theorem dX3_now_64 : decode cX3_now 64 = .ok (.invokevirtual 147, 3) := by decide +kernel
theorem dX3_now_67 : decode cX3_now 67 = .ok (.ireturn, 1) := by decide +kernel
theorem dX3_now_68 : decode cX3_now 68 = .ok (.aload_n 0, 1) := by decide +kernel
theorem dX3_now_69 : decode cX3_now 69 = .ok (.getfield 10, 3) := by decide +kernel
theorem dX3_now_72 : decode cX3_now 72 = .ok (.invokevirtual 150, 3) := by decide +kernel
theorem dX3_now_75 : decode cX3_now 75 = .ok (.ireturn, 1) := by decide +kernel
theorem dX3_now_76 : decode cX3_now 76 = .ok (.aload_n 0, 1) := by decide +kernel
theorem dX3_now_77 : decode cX3_now 77 = .ok (.iconst 0, 1) := by decide +kernel
theorem dX3_now_78 : decode cX3_now 78 = .ok (.invokevirtual 54, 3) := by decide +kernel
theorem dX3_now_81 : decode cX3_now 81 = .ok (.ireturn, 1) := by decide +kernel
set_option maxRecDepth 20000 in
theorem ggX3_ahead_X3_isPlayer : GoodIn wsX3_ahead wsX3_isPlayer := goodIn_r _ [8, 2, 9, 89, 90, 91, 92, 93, 94, 95, 96, 97, 98, 99, 100, 101, 102, 103, 104, 105, 106, 107, 108, 109, 110] (by decide +kernel) (by decide +kernel)
set_option maxRecDepth 20000 in
theorem gX3_ahead_X3_isPlayer : GoodIn wsX3_ahead (wsV RX3 81 RX3 yX3_isPlayer wsX3_isPlayer) := goodIn_app (goodIn_of _ (by decide +kernel)) ggX3_ahead_X3_isPlayer
set_option maxRecDepth 20000 in
theorem ggX3_ahead_X3_finding : GoodIn wsX3_ahead wsX3_finding := goodIn_r _ [13, 14, 15, 89, 90, 91, 92, 93, 94, 95, 96, 97] (by decide +kernel) (by decide +kernel)
set_option maxRecDepth 20000 in
theorem gX3_ahead_X3_finding : GoodIn wsX3_ahead (wsV RX3 54 RX3 yX3_finding wsX3_finding) := goodIn_app (goodIn_of _ (by decide +kernel)) ggX3_ahead_X3_finding
set_option maxRecDepth 20000 in
theorem ggX3_ahead_X0_become : GoodIn wsX3_ahead wsX0_become := goodIn_r _ [20, 21, 22, 23, 24, 25, 26, 27, 28, 29, 30, 31, 32, 33, 34, 98, 99, 100, 101, 102, 103, 104, 105, 106, 107, 108, 109, 110] (by decide +kernel) (by decide +kernel)
set_option maxRecDepth 20000 in
theorem gX3_ahead_X0_become : GoodIn wsX3_ahead (wsV RX3 153 RX0 yX0_become wsX0_become) := goodIn_app (goodIn_of _ (by decide +kernel)) ggX3_ahead_X0_become
set_option maxRecDepth 20000 in
theorem ggX3_ahead_X0_passEvenings : GoodIn wsX3_ahead wsX0_passEvenings := goodIn_r _ [38, 39, 40, 41, 19, 42, 30, 43, 22, 23, 24, 25, 32, 44, 45, 29, 46, 33, 47, 48, 49, 50, 51, 52, 53, 54, 28, 55, 56, 57, 58, 26, 59, 60, 61, 62, 63, 64, 65, 66, 21, 67, 68, 69, 70, 71, 72, 73, 74, 27, 75, 76, 77, 78, 79, 80, 81, 82, 83, 84, 85, 86, 87, 88, 98, 99, 100, 101, 102, 103, 104, 105, 106, 107, 108, 109, 110] (by decide +kernel) (by decide +kernel)
set_option maxRecDepth 20000 in
theorem gX3_ahead_X0_passEvenings : GoodIn wsX3_ahead (wsV RX3 136 RX0 yX0_passEvenings wsX0_passEvenings) := goodIn_app (goodIn_of _ (by decide +kernel)) ggX3_ahead_X0_passEvenings
theorem dX3_ahead_0 : decode cX3_ahead 0 = .ok (.aload_n 0, 1) := by decide +kernel
theorem dX3_ahead_1 : decode cX3_ahead 1 = .ok (.iload_n 1, 1) := by decide +kernel
theorem dX3_ahead_2 : decode cX3_ahead 2 = .ok (.invokevirtual 81, 3) := by decide +kernel
theorem dX3_ahead_5 : decode cX3_ahead 5 = .ok (.ifCond .eq 13, 3) := by decide +kernel
theorem dX3_ahead_8 : decode cX3_ahead 8 = .ok (.iload_n 2, 1) := by decide +kernel
theorem dX3_ahead_9 : decode cX3_ahead 9 = .ok (.ifCond .lt 9, 3) := by decide +kernel
theorem dX3_ahead_12 : decode cX3_ahead 12 = .ok (.iload_n 2, 1) := by decide +kernel
theorem dX3_ahead_13 : decode cX3_ahead 13 = .ok (.bipush 40, 2) := by decide +kernel
theorem dX3_ahead_15 : decode cX3_ahead 15 = .ok (.if_icmp .le 9, 3) := by decide +kernel
theorem dX3_ahead_18 : decode cX3_ahead 18 = .ok (.aload_n 0, 1) := by decide +kernel
theorem dX3_ahead_19 : decode cX3_ahead 19 = .ok (.iconst 0, 1) := by decide +kernel
theorem dX3_ahead_20 : decode cX3_ahead 20 = .ok (.invokevirtual 54, 3) := by decide +kernel
theorem dX3_ahead_23 : decode cX3_ahead 23 = .ok (.ireturn, 1) := by decide +kernel
theorem dX3_ahead_24 : decode cX3_ahead 24 = .ok (.aload_n 0, 1) := by decide +kernel
theorem dX3_ahead_25 : decode cX3_ahead 25 = .ok (.getfield 16, 3) := by decide +kernel
theorem dX3_ahead_28 : decode cX3_ahead 28 = .ok (.aload_n 0, 1) := by decide +kernel
theorem dX3_ahead_29 : decode cX3_ahead 29 = .ok (.getfield 10, 3) := by decide +kernel
theorem dX3_ahead_32 : decode cX3_ahead 32 = .ok (.invokevirtual 153, 3) := by decide +kernel
theorem dX3_ahead_35 : decode cX3_ahead 35 = .ok (.aload_n 0, 1) := by decide +kernel
theorem dX3_ahead_36 : decode cX3_ahead 36 = .ok (.getfield 16, 3) := by decide +kernel
theorem dX3_ahead_39 : decode cX3_ahead 39 = .ok (.iload_n 2, 1) := by decide +kernel
theorem dX3_ahead_40 : decode cX3_ahead 40 = .ok (.invokevirtual 136, 3) := by decide +kernel
theorem dX3_ahead_43 : decode cX3_ahead 43 = .ok (.aload_n 0, 1) := by decide +kernel
theorem dX3_ahead_44 : decode cX3_ahead 44 = .ok (.getfield 16, 3) := by decide +kernel
theorem dX3_ahead_47 : decode cX3_ahead 47 = .ok (.getfield 96, 3) := by decide +kernel
theorem dX3_ahead_50 : decode cX3_ahead 50 = .ok (.iload_n 1, 1) := by decide +kernel
theorem dX3_ahead_51 : decode cX3_ahead 51 = .ok (.iaload, 1) := by decide +kernel
theorem dX3_ahead_52 : decode cX3_ahead 52 = .ok (.ireturn, 1) := by decide +kernel
set_option maxRecDepth 20000 in
theorem ggX3_broken_X3_isPlayer : GoodIn wsX3_broken wsX3_isPlayer := goodIn_r _ [8, 2, 9, 85, 86, 87, 88, 89, 90, 91, 92, 93, 94, 95, 96, 97, 98, 99, 100, 101, 102, 103, 104, 105, 106] (by decide +kernel) (by decide +kernel)
set_option maxRecDepth 20000 in
theorem gX3_broken_X3_isPlayer : GoodIn wsX3_broken (wsV RX3 81 RX3 yX3_isPlayer wsX3_isPlayer) := goodIn_app (goodIn_of _ (by decide +kernel)) ggX3_broken_X3_isPlayer
set_option maxRecDepth 20000 in
theorem ggX3_broken_X3_finding : GoodIn wsX3_broken wsX3_finding := goodIn_r _ [13, 14, 15, 85, 86, 87, 88, 89, 90, 91, 92, 93] (by decide +kernel) (by decide +kernel)
set_option maxRecDepth 20000 in
theorem gX3_broken_X3_finding : GoodIn wsX3_broken (wsV RX3 54 RX3 yX3_finding wsX3_finding) := goodIn_app (goodIn_of _ (by decide +kernel)) ggX3_broken_X3_finding
set_option maxRecDepth 20000 in
theorem ggX3_broken_X0_become : GoodIn wsX3_broken wsX0_become := goodIn_r _ [20, 21, 22, 23, 24, 25, 26, 27, 28, 29, 30, 31, 32, 33, 34, 94, 95, 96, 97, 98, 99, 100, 101, 102, 103, 104, 105, 106] (by decide +kernel) (by decide +kernel)
set_option maxRecDepth 20000 in
theorem gX3_broken_X0_become : GoodIn wsX3_broken (wsV RX3 153 RX0 yX0_become wsX0_become) := goodIn_app (goodIn_of _ (by decide +kernel)) ggX3_broken_X0_become
set_option maxRecDepth 20000 in
theorem ggX3_broken_X0_passEvening : GoodIn wsX3_broken wsX0_passEvening := goodIn_r _ [38, 30, 39, 22, 23, 24, 25, 32, 40, 41, 29, 42, 33, 43, 44, 45, 46, 47, 48, 49, 19, 50, 28, 51, 52, 53, 54, 26, 55, 56, 57, 58, 59, 60, 61, 62, 21, 63, 64, 65, 66, 67, 68, 69, 70, 27, 71, 72, 73, 74, 75, 76, 77, 78, 79, 80, 81, 82, 83, 84, 94, 95, 96, 97, 98, 99, 100, 101, 102, 103, 104, 105, 106] (by decide +kernel) (by decide +kernel)
set_option maxRecDepth 20000 in
theorem gX3_broken_X0_passEvening : GoodIn wsX3_broken (wsV RX3 157 RX0 yX0_passEvening wsX0_passEvening) := goodIn_app (goodIn_of _ (by decide +kernel)) ggX3_broken_X0_passEvening
theorem dX3_broken_0 : decode cX3_broken 0 = .ok (.aload_n 0, 1) := by decide +kernel
theorem dX3_broken_1 : decode cX3_broken 1 = .ok (.iload_n 1, 1) := by decide +kernel
theorem dX3_broken_2 : decode cX3_broken 2 = .ok (.invokevirtual 81, 3) := by decide +kernel
theorem dX3_broken_5 : decode cX3_broken 5 = .ok (.ifCond .ne 9, 3) := by decide +kernel
theorem dX3_broken_8 : decode cX3_broken 8 = .ok (.aload_n 0, 1) := by decide +kernel
theorem dX3_broken_9 : decode cX3_broken 9 = .ok (.iconst 0, 1) := by decide +kernel
theorem dX3_broken_10 : decode cX3_broken 10 = .ok (.invokevirtual 54, 3) := by decide +kernel
theorem dX3_broken_13 : decode cX3_broken 13 = .ok (.ireturn, 1) := by decide +kernel
theorem dX3_broken_14 : decode cX3_broken 14 = .ok (.aload_n 0, 1) := by decide +kernel
theorem dX3_broken_15 : decode cX3_broken 15 = .ok (.getfield 16, 3) := by decide +kernel
theorem dX3_broken_18 : decode cX3_broken 18 = .ok (.aload_n 0, 1) := by decide +kernel
theorem dX3_broken_19 : decode cX3_broken 19 = .ok (.getfield 10, 3) := by decide +kernel
theorem dX3_broken_22 : decode cX3_broken 22 = .ok (.invokevirtual 153, 3) := by decide +kernel
theorem dX3_broken_25 : decode cX3_broken 25 = .ok (.iconst 0, 1) := by decide +kernel
theorem dX3_broken_26 : decode cX3_broken 26 = .ok (.istore_n 2, 1) := by decide +kernel
theorem dX3_broken_27 : decode cX3_broken 27 = .ok (.iload_n 2, 1) := by decide +kernel
theorem dX3_broken_28 : decode cX3_broken 28 = .ok (.bipush 40, 2) := by decide +kernel
theorem dX3_broken_30 : decode cX3_broken 30 = .ok (.if_icmp .gt 31, 3) := by decide +kernel
theorem dX3_broken_33 : decode cX3_broken 33 = .ok (.aload_n 0, 1) := by decide +kernel
theorem dX3_broken_34 : decode cX3_broken 34 = .ok (.getfield 16, 3) := by decide +kernel
theorem dX3_broken_37 : decode cX3_broken 37 = .ok (.getfield 96, 3) := by decide +kernel
theorem dX3_broken_40 : decode cX3_broken 40 = .ok (.iload_n 1, 1) := by decide +kernel
theorem dX3_broken_41 : decode cX3_broken 41 = .ok (.iaload, 1) := by decide +kernel
theorem dX3_broken_42 : decode cX3_broken 42 = .ok (.ifCond .ne 5, 3) := by decide +kernel
theorem dX3_broken_45 : decode cX3_broken 45 = .ok (.iload_n 2, 1) := by decide +kernel
theorem dX3_broken_46 : decode cX3_broken 46 = .ok (.ireturn, 1) := by decide +kernel
theorem dX3_broken_47 : decode cX3_broken 47 = .ok (.aload_n 0, 1) := by decide +kernel
theorem dX3_broken_48 : decode cX3_broken 48 = .ok (.getfield 16, 3) := by decide +kernel
theorem dX3_broken_51 : decode cX3_broken 51 = .ok (.invokevirtual 157, 3) := by decide +kernel
theorem dX3_broken_54 : decode cX3_broken 54 = .ok (.pop, 1) := by decide +kernel
theorem dX3_broken_55 : decode cX3_broken 55 = .ok (.iinc 2 1, 3) := by decide +kernel
theorem dX3_broken_58 : decode cX3_broken 58 = .ok (.goto (-31), 3) := by decide +kernel
theorem dX3_broken_61 : decode cX3_broken 61 = .ok (.aload_n 0, 1) := by decide +kernel
theorem dX3_broken_62 : decode cX3_broken 62 = .ok (.iconst 3, 1) := by decide +kernel
theorem dX3_broken_63 : decode cX3_broken 63 = .ok (.invokevirtual 54, 3) := by decide +kernel
theorem dX3_broken_66 : decode cX3_broken 66 = .ok (.ireturn, 1) := by decide +kernel
set_option maxRecDepth 20000 in
theorem ggX3_settles_X0_become : GoodIn wsX3_settles wsX0_become := goodIn_r _ [7, 8, 9, 10, 11, 12, 13, 14, 15, 16, 17, 18, 19, 20, 21, 88, 89, 90, 91, 92, 93, 94, 95, 96, 97, 98, 99, 100] (by decide +kernel) (by decide +kernel)
set_option maxRecDepth 20000 in
theorem gX3_settles_X0_become : GoodIn wsX3_settles (wsV RX3 153 RX0 yX0_become wsX0_become) := goodIn_app (goodIn_of _ (by decide +kernel)) ggX3_settles_X0_become
set_option maxRecDepth 20000 in
theorem ggX3_settles_X0_passEvening : GoodIn wsX3_settles wsX0_passEvening := goodIn_r _ [25, 17, 26, 9, 10, 11, 12, 19, 27, 28, 16, 29, 20, 30, 31, 32, 33, 34, 35, 36, 6, 37, 15, 38, 39, 40, 41, 13, 42, 43, 44, 45, 46, 47, 48, 49, 8, 50, 51, 52, 53, 54, 55, 56, 57, 14, 58, 59, 60, 61, 62, 63, 64, 65, 66, 67, 68, 69, 70, 71, 88, 89, 90, 91, 92, 93, 94, 95, 96, 97, 98, 99, 100] (by decide +kernel) (by decide +kernel)
set_option maxRecDepth 20000 in
theorem gX3_settles_X0_passEvening : GoodIn wsX3_settles (wsV RX3 157 RX0 yX0_passEvening wsX0_passEvening) := goodIn_app (goodIn_of _ (by decide +kernel)) ggX3_settles_X0_passEvening
set_option maxRecDepth 20000 in
theorem ggX3_settles_X3_finding : GoodIn wsX3_settles wsX3_finding := goodIn_r _ [76, 77, 78, 79, 80, 81, 82, 83, 84, 85, 86, 87] (by decide +kernel) (by decide +kernel)
set_option maxRecDepth 20000 in
theorem gX3_settles_X3_finding : GoodIn wsX3_settles (wsV RX3 54 RX3 yX3_finding wsX3_finding) := goodIn_app (goodIn_of _ (by decide +kernel)) ggX3_settles_X3_finding
theorem dX3_settles_0 : decode cX3_settles 0 = .ok (.aload_n 0, 1) := by decide +kernel
theorem dX3_settles_1 : decode cX3_settles 1 = .ok (.getfield 16, 3) := by decide +kernel
theorem dX3_settles_4 : decode cX3_settles 4 = .ok (.aload_n 0, 1) := by decide +kernel
theorem dX3_settles_5 : decode cX3_settles 5 = .ok (.getfield 10, 3) := by decide +kernel
theorem dX3_settles_8 : decode cX3_settles 8 = .ok (.invokevirtual 153, 3) := by decide +kernel
theorem dX3_settles_11 : decode cX3_settles 11 = .ok (.iconst 0, 1) := by decide +kernel
theorem dX3_settles_12 : decode cX3_settles 12 = .ok (.istore_n 1, 1) := by decide +kernel
theorem dX3_settles_13 : decode cX3_settles 13 = .ok (.iload_n 1, 1) := by decide +kernel
theorem dX3_settles_14 : decode cX3_settles 14 = .ok (.bipush 40, 2) := by decide +kernel
theorem dX3_settles_16 : decode cX3_settles 16 = .ok (.if_icmp .gt 21, 3) := by decide +kernel
theorem dX3_settles_19 : decode cX3_settles 19 = .ok (.aload_n 0, 1) := by decide +kernel
theorem dX3_settles_20 : decode cX3_settles 20 = .ok (.getfield 16, 3) := by decide +kernel
theorem dX3_settles_23 : decode cX3_settles 23 = .ok (.invokevirtual 157, 3) := by decide +kernel
theorem dX3_settles_26 : decode cX3_settles 26 = .ok (.ifCond .ne 5, 3) := by decide +kernel
theorem dX3_settles_29 : decode cX3_settles 29 = .ok (.iload_n 1, 1) := by decide +kernel
theorem dX3_settles_30 : decode cX3_settles 30 = .ok (.ireturn, 1) := by decide +kernel
theorem dX3_settles_31 : decode cX3_settles 31 = .ok (.iinc 1 1, 3) := by decide +kernel
theorem dX3_settles_34 : decode cX3_settles 34 = .ok (.goto (-21), 3) := by decide +kernel
theorem dX3_settles_37 : decode cX3_settles 37 = .ok (.aload_n 0, 1) := by decide +kernel
theorem dX3_settles_38 : decode cX3_settles 38 = .ok (.iconst 3, 1) := by decide +kernel
theorem dX3_settles_39 : decode cX3_settles 39 = .ok (.invokevirtual 54, 3) := by decide +kernel
theorem dX3_settles_42 : decode cX3_settles 42 = .ok (.ireturn, 1) := by decide +kernel
set_option maxRecDepth 20000 in
theorem ggX3_kindFor_X3_isPlayer : GoodIn wsX3_kindFor wsX3_isPlayer := goodIn_r _ [7, 8, 9, 94, 95, 96, 97, 98, 99, 100, 101, 102, 103, 104, 105, 106, 107, 108, 109, 110, 111, 112, 113, 114, 115] (by decide +kernel) (by decide +kernel)
set_option maxRecDepth 20000 in
theorem gX3_kindFor_X3_isPlayer : GoodIn wsX3_kindFor (wsV RX3 81 RX3 yX3_isPlayer wsX3_isPlayer) := goodIn_app (goodIn_of _ (by decide +kernel)) ggX3_kindFor_X3_isPlayer
set_option maxRecDepth 20000 in
theorem ggX3_kindFor_X3_finding : GoodIn wsX3_kindFor wsX3_finding := goodIn_r _ [13, 14, 15, 94, 95, 96, 97, 98, 99, 100, 101, 102] (by decide +kernel) (by decide +kernel)
set_option maxRecDepth 20000 in
theorem gX3_kindFor_X3_finding : GoodIn wsX3_kindFor (wsV RX3 54 RX3 yX3_finding wsX3_finding) := goodIn_app (goodIn_of _ (by decide +kernel)) ggX3_kindFor_X3_finding
set_option maxRecDepth 20000 in
theorem ggX3_kindFor_X3_bravestAs : GoodIn wsX3_kindFor wsX3_bravestAs := goodIn_r _ [19, 1, 8, 20, 21, 22, 23, 24, 25, 26, 27, 28, 29, 30, 31, 32, 33, 34, 35, 36, 37, 38, 39, 40, 41, 42, 43, 44, 45, 46, 47, 48, 49, 50, 51, 52, 53, 54, 55, 56, 57, 58, 59, 60, 61, 62, 63, 64, 65, 66, 67, 68, 69, 70, 71, 72, 73, 74, 75, 76, 77, 78, 79, 80, 81, 82, 83, 84, 85, 86, 87, 88, 89, 90, 91, 92, 93, 94, 95, 96, 97, 98, 99, 100, 101, 102, 103, 104, 105, 106, 107, 108, 109, 110, 111, 112, 113, 114, 115] (by decide +kernel) (by decide +kernel)
set_option maxRecDepth 20000 in
theorem gX3_kindFor_X3_bravestAs : GoodIn wsX3_kindFor (wsV RX3 161 RX3 yX3_bravestAs wsX3_bravestAs) := goodIn_app (goodIn_of _ (by decide +kernel)) ggX3_kindFor_X3_bravestAs
theorem dX3_kindFor_0 : decode cX3_kindFor 0 = .ok (.aload_n 0, 1) := by decide +kernel
theorem dX3_kindFor_1 : decode cX3_kindFor 1 = .ok (.iload_n 1, 1) := by decide +kernel
theorem dX3_kindFor_2 : decode cX3_kindFor 2 = .ok (.invokevirtual 81, 3) := by decide +kernel
theorem dX3_kindFor_5 : decode cX3_kindFor 5 = .ok (.ifCond .eq 13, 3) := by decide +kernel
theorem dX3_kindFor_8 : decode cX3_kindFor 8 = .ok (.iload_n 2, 1) := by decide +kernel
theorem dX3_kindFor_9 : decode cX3_kindFor 9 = .ok (.ifCond .lt 9, 3) := by decide +kernel
theorem dX3_kindFor_12 : decode cX3_kindFor 12 = .ok (.iload_n 2, 1) := by decide +kernel
theorem dX3_kindFor_13 : decode cX3_kindFor 13 = .ok (.bipush 20, 2) := by decide +kernel
theorem dX3_kindFor_15 : decode cX3_kindFor 15 = .ok (.if_icmp .le 9, 3) := by decide +kernel
theorem dX3_kindFor_18 : decode cX3_kindFor 18 = .ok (.aload_n 0, 1) := by decide +kernel
theorem dX3_kindFor_19 : decode cX3_kindFor 19 = .ok (.iconst 0, 1) := by decide +kernel
theorem dX3_kindFor_20 : decode cX3_kindFor 20 = .ok (.invokevirtual 54, 3) := by decide +kernel
theorem dX3_kindFor_23 : decode cX3_kindFor 23 = .ok (.ireturn, 1) := by decide +kernel
theorem dX3_kindFor_24 : decode cX3_kindFor 24 = .ok (.aload_n 0, 1) := by decide +kernel
theorem dX3_kindFor_25 : decode cX3_kindFor 25 = .ok (.aload_n 0, 1) := by decide +kernel
theorem dX3_kindFor_26 : decode cX3_kindFor 26 = .ok (.getfield 16, 3) := by decide +kernel
theorem dX3_kindFor_29 : decode cX3_kindFor 29 = .ok (.getfield 84, 3) := by decide +kernel
theorem dX3_kindFor_32 : decode cX3_kindFor 32 = .ok (.iload_n 1, 1) := by decide +kernel
theorem dX3_kindFor_33 : decode cX3_kindFor 33 = .ok (.bipush 7, 2) := by decide +kernel
theorem dX3_kindFor_35 : decode cX3_kindFor 35 = .ok (.iload_n 2, 1) := by decide +kernel
theorem dX3_kindFor_36 : decode cX3_kindFor 36 = .ok (.invokevirtual 161, 3) := by decide +kernel
theorem dX3_kindFor_39 : decode cX3_kindFor 39 = .ok (.ireturn, 1) := by decide +kernel
set_option maxRecDepth 20000 in
theorem ggX3_seatFor_X3_isPlayer : GoodIn wsX3_seatFor wsX3_isPlayer := goodIn_r _ [7, 8, 9, 94, 95, 96, 97, 98, 99, 100, 101, 102, 103, 104, 105, 106, 107, 108, 109, 110, 111, 112, 113, 114, 115] (by decide +kernel) (by decide +kernel)
set_option maxRecDepth 20000 in
theorem gX3_seatFor_X3_isPlayer : GoodIn wsX3_seatFor (wsV RX3 81 RX3 yX3_isPlayer wsX3_isPlayer) := goodIn_app (goodIn_of _ (by decide +kernel)) ggX3_seatFor_X3_isPlayer
set_option maxRecDepth 20000 in
theorem ggX3_seatFor_X3_finding : GoodIn wsX3_seatFor wsX3_finding := goodIn_r _ [13, 14, 15, 94, 95, 96, 97, 98, 99, 100, 101, 102] (by decide +kernel) (by decide +kernel)
set_option maxRecDepth 20000 in
theorem gX3_seatFor_X3_finding : GoodIn wsX3_seatFor (wsV RX3 54 RX3 yX3_finding wsX3_finding) := goodIn_app (goodIn_of _ (by decide +kernel)) ggX3_seatFor_X3_finding
set_option maxRecDepth 20000 in
theorem ggX3_seatFor_X3_bravestAs : GoodIn wsX3_seatFor wsX3_bravestAs := goodIn_r _ [19, 1, 8, 20, 21, 22, 23, 24, 25, 26, 27, 28, 29, 30, 31, 32, 33, 34, 35, 36, 37, 38, 39, 40, 41, 42, 43, 44, 45, 46, 47, 48, 49, 50, 51, 52, 53, 54, 55, 56, 57, 58, 59, 60, 61, 62, 63, 64, 65, 66, 67, 68, 69, 70, 71, 72, 73, 74, 75, 76, 77, 78, 79, 80, 81, 82, 83, 84, 85, 86, 87, 88, 89, 90, 91, 92, 93, 94, 95, 96, 97, 98, 99, 100, 101, 102, 103, 104, 105, 106, 107, 108, 109, 110, 111, 112, 113, 114, 115] (by decide +kernel) (by decide +kernel)
set_option maxRecDepth 20000 in
theorem gX3_seatFor_X3_bravestAs : GoodIn wsX3_seatFor (wsV RX3 161 RX3 yX3_bravestAs wsX3_bravestAs) := goodIn_app (goodIn_of _ (by decide +kernel)) ggX3_seatFor_X3_bravestAs
theorem dX3_seatFor_0 : decode cX3_seatFor 0 = .ok (.aload_n 0, 1) := by decide +kernel
theorem dX3_seatFor_1 : decode cX3_seatFor 1 = .ok (.iload_n 1, 1) := by decide +kernel
theorem dX3_seatFor_2 : decode cX3_seatFor 2 = .ok (.invokevirtual 81, 3) := by decide +kernel
theorem dX3_seatFor_5 : decode cX3_seatFor 5 = .ok (.ifCond .eq 13, 3) := by decide +kernel
theorem dX3_seatFor_8 : decode cX3_seatFor 8 = .ok (.iload_n 2, 1) := by decide +kernel
theorem dX3_seatFor_9 : decode cX3_seatFor 9 = .ok (.ifCond .lt 9, 3) := by decide +kernel
theorem dX3_seatFor_12 : decode cX3_seatFor 12 = .ok (.iload_n 2, 1) := by decide +kernel
theorem dX3_seatFor_13 : decode cX3_seatFor 13 = .ok (.bipush 20, 2) := by decide +kernel
theorem dX3_seatFor_15 : decode cX3_seatFor 15 = .ok (.if_icmp .le 9, 3) := by decide +kernel
theorem dX3_seatFor_18 : decode cX3_seatFor 18 = .ok (.aload_n 0, 1) := by decide +kernel
theorem dX3_seatFor_19 : decode cX3_seatFor 19 = .ok (.iconst 0, 1) := by decide +kernel
theorem dX3_seatFor_20 : decode cX3_seatFor 20 = .ok (.invokevirtual 54, 3) := by decide +kernel
theorem dX3_seatFor_23 : decode cX3_seatFor 23 = .ok (.ireturn, 1) := by decide +kernel
theorem dX3_seatFor_24 : decode cX3_seatFor 24 = .ok (.aload_n 0, 1) := by decide +kernel
theorem dX3_seatFor_25 : decode cX3_seatFor 25 = .ok (.aload_n 0, 1) := by decide +kernel
theorem dX3_seatFor_26 : decode cX3_seatFor 26 = .ok (.getfield 16, 3) := by decide +kernel
theorem dX3_seatFor_29 : decode cX3_seatFor 29 = .ok (.getfield 87, 3) := by decide +kernel
theorem dX3_seatFor_32 : decode cX3_seatFor 32 = .ok (.iload_n 1, 1) := by decide +kernel
theorem dX3_seatFor_33 : decode cX3_seatFor 33 = .ok (.bipush 16, 2) := by decide +kernel
theorem dX3_seatFor_35 : decode cX3_seatFor 35 = .ok (.iload_n 2, 1) := by decide +kernel
theorem dX3_seatFor_36 : decode cX3_seatFor 36 = .ok (.invokevirtual 161, 3) := by decide +kernel
theorem dX3_seatFor_39 : decode cX3_seatFor 39 = .ok (.ireturn, 1) := by decide +kernel
set_option maxRecDepth 20000 in
theorem ggX3_spare_X3_countLoudest : GoodIn wsX3_spare wsX3_countLoudest := goodIn_r _ [8, 3, 1, 9, 10, 11, 12, 13, 14, 15, 16, 17, 18, 19, 20, 21, 22, 23, 24, 25, 26, 27, 28, 29, 30, 31, 32, 33, 34, 35, 36, 37, 38, 39, 40, 41, 42, 43, 44, 45, 46, 47, 48, 49, 50, 51, 52, 53, 54, 55, 56, 57, 58, 59, 60, 61, 62, 63, 64, 65, 66, 67, 68, 69, 70, 71, 72, 73, 74, 75, 76, 77, 78, 79, 80, 81, 82, 83, 84, 85, 86, 87, 88, 89] (by decide +kernel) (by decide +kernel)
set_option maxRecDepth 20000 in
theorem gX3_spare_X3_countLoudest : GoodIn wsX3_spare (wsV RX3 164 RX3 yX3_countLoudest wsX3_countLoudest) := goodIn_app (goodIn_of _ (by decide +kernel)) ggX3_spare_X3_countLoudest
theorem dX3_spare_0 : decode cX3_spare 0 = .ok (.aload_n 0, 1) := by decide +kernel
theorem dX3_spare_1 : decode cX3_spare 1 = .ok (.invokevirtual 164, 3) := by decide +kernel
theorem dX3_spare_4 : decode cX3_spare 4 = .ok (.iconst 0, 1) := by decide +kernel
theorem dX3_spare_5 : decode cX3_spare 5 = .ok (.istore_n 1, 1) := by decide +kernel
theorem dX3_spare_6 : decode cX3_spare 6 = .ok (.iconst 0, 1) := by decide +kernel
theorem dX3_spare_7 : decode cX3_spare 7 = .ok (.istore_n 2, 1) := by decide +kernel
theorem dX3_spare_8 : decode cX3_spare 8 = .ok (.iload_n 2, 1) := by decide +kernel
theorem dX3_spare_9 : decode cX3_spare 9 = .ok (.aload_n 0, 1) := by decide +kernel
theorem dX3_spare_10 : decode cX3_spare 10 = .ok (.getfield 10, 3) := by decide +kernel
theorem dX3_spare_13 : decode cX3_spare 13 = .ok (.getfield 73, 3) := by decide +kernel
theorem dX3_spare_16 : decode cX3_spare 16 = .ok (.if_icmp .ge 26, 3) := by decide +kernel
theorem dX3_spare_19 : decode cX3_spare 19 = .ok (.aload_n 0, 1) := by decide +kernel
theorem dX3_spare_20 : decode cX3_spare 20 = .ok (.getfield 43, 3) := by decide +kernel
theorem dX3_spare_23 : decode cX3_spare 23 = .ok (.iconst 1, 1) := by decide +kernel
theorem dX3_spare_24 : decode cX3_spare 24 = .ok (.iload_n 2, 1) := by decide +kernel
theorem dX3_spare_25 : decode cX3_spare 25 = .ok (.ishl, 1) := by decide +kernel
theorem dX3_spare_26 : decode cX3_spare 26 = .ok (.iaload, 1) := by decide +kernel
theorem dX3_spare_27 : decode cX3_spare 27 = .ok (.ifCond .ne 9, 3) := by decide +kernel
theorem dX3_spare_30 : decode cX3_spare 30 = .ok (.iload_n 1, 1) := by decide +kernel
theorem dX3_spare_31 : decode cX3_spare 31 = .ok (.iconst 1, 1) := by decide +kernel
theorem dX3_spare_32 : decode cX3_spare 32 = .ok (.iload_n 2, 1) := by decide +kernel
theorem dX3_spare_33 : decode cX3_spare 33 = .ok (.ishl, 1) := by decide +kernel
theorem dX3_spare_34 : decode cX3_spare 34 = .ok (.ior, 1) := by decide +kernel
theorem dX3_spare_35 : decode cX3_spare 35 = .ok (.istore_n 1, 1) := by decide +kernel
theorem dX3_spare_36 : decode cX3_spare 36 = .ok (.iinc 2 1, 3) := by decide +kernel
theorem dX3_spare_39 : decode cX3_spare 39 = .ok (.goto (-31), 3) := by decide +kernel
theorem dX3_spare_42 : decode cX3_spare 42 = .ok (.iload_n 1, 1) := by decide +kernel
theorem dX3_spare_43 : decode cX3_spare 43 = .ok (.ireturn, 1) := by decide +kernel
set_option maxRecDepth 20000 in
theorem ggX3_fewest_X3_countLoudest : GoodIn wsX3_fewest wsX3_countLoudest := goodIn_r _ [9, 1, 3, 10, 11, 12, 13, 14, 15, 16, 17, 18, 19, 20, 21, 22, 23, 24, 25, 26, 27, 28, 29, 30, 31, 32, 33, 34, 35, 36, 37, 38, 39, 40, 41, 42, 43, 44, 45, 46, 47, 48, 49, 50, 51, 52, 53, 54, 55, 56, 57, 58, 59, 60, 61, 62, 63, 64, 65, 66, 67, 68, 84, 85, 86, 87, 88, 89, 90, 91, 92, 93, 94, 95, 96, 97, 98, 99, 100, 101, 102, 103, 104, 105] (by decide +kernel) (by decide +kernel)
set_option maxRecDepth 20000 in
theorem gX3_fewest_X3_countLoudest : GoodIn wsX3_fewest (wsV RX3 164 RX3 yX3_countLoudest wsX3_countLoudest) := goodIn_app (goodIn_of _ (by decide +kernel)) ggX3_fewest_X3_countLoudest
set_option maxRecDepth 20000 in
theorem ggX3_fewest_X3_leastTouching : GoodIn wsX3_fewest wsX3_leastTouching := goodIn_r _ [72, 73, 74, 75, 76, 77, 78, 79, 80, 81, 82, 8, 83, 2, 84, 85, 86, 87, 88, 89, 90, 91, 92] (by decide +kernel) (by decide +kernel)
set_option maxRecDepth 20000 in
theorem gX3_fewest_X3_leastTouching : GoodIn wsX3_fewest (wsV RX3 167 RX3 yX3_leastTouching wsX3_leastTouching) := goodIn_app (goodIn_of _ (by decide +kernel)) ggX3_fewest_X3_leastTouching
theorem dX3_fewest_0 : decode cX3_fewest 0 = .ok (.aload_n 0, 1) := by decide +kernel
theorem dX3_fewest_1 : decode cX3_fewest 1 = .ok (.invokevirtual 164, 3) := by decide +kernel
theorem dX3_fewest_4 : decode cX3_fewest 4 = .ok (.iconst 0, 1) := by decide +kernel
theorem dX3_fewest_5 : decode cX3_fewest 5 = .ok (.istore_n 1, 1) := by decide +kernel
theorem dX3_fewest_6 : decode cX3_fewest 6 = .ok (.iconst 1, 1) := by decide +kernel
theorem dX3_fewest_7 : decode cX3_fewest 7 = .ok (.istore_n 2, 1) := by decide +kernel
theorem dX3_fewest_8 : decode cX3_fewest 8 = .ok (.iload_n 2, 1) := by decide +kernel
theorem dX3_fewest_9 : decode cX3_fewest 9 = .ok (.sipush 256, 3) := by decide +kernel
theorem dX3_fewest_12 : decode cX3_fewest 12 = .ok (.if_icmp .ge 28, 3) := by decide +kernel
theorem dX3_fewest_15 : decode cX3_fewest 15 = .ok (.aload_n 0, 1) := by decide +kernel
theorem dX3_fewest_16 : decode cX3_fewest 16 = .ok (.getfield 43, 3) := by decide +kernel
theorem dX3_fewest_19 : decode cX3_fewest 19 = .ok (.iload_n 2, 1) := by decide +kernel
theorem dX3_fewest_20 : decode cX3_fewest 20 = .ok (.iaload, 1) := by decide +kernel
theorem dX3_fewest_21 : decode cX3_fewest 21 = .ok (.ifCond .le 13, 3) := by decide +kernel
theorem dX3_fewest_24 : decode cX3_fewest 24 = .ok (.aload_n 0, 1) := by decide +kernel
theorem dX3_fewest_25 : decode cX3_fewest 25 = .ok (.getfield 46, 3) := by decide +kernel
theorem dX3_fewest_28 : decode cX3_fewest 28 = .ok (.iload_n 1, 1) := by decide +kernel
theorem dX3_fewest_29 : decode cX3_fewest 29 = .ok (.iload_n 2, 1) := by decide +kernel
theorem dX3_fewest_30 : decode cX3_fewest 30 = .ok (.iastore, 1) := by decide +kernel
theorem dX3_fewest_31 : decode cX3_fewest 31 = .ok (.iinc 1 1, 3) := by decide +kernel
theorem dX3_fewest_34 : decode cX3_fewest 34 = .ok (.iinc 2 1, 3) := by decide +kernel
theorem dX3_fewest_37 : decode cX3_fewest 37 = .ok (.goto (-29), 3) := by decide +kernel
theorem dX3_fewest_40 : decode cX3_fewest 40 = .ok (.aload_n 0, 1) := by decide +kernel
theorem dX3_fewest_41 : decode cX3_fewest 41 = .ok (.iload_n 1, 1) := by decide +kernel
theorem dX3_fewest_42 : decode cX3_fewest 42 = .ok (.iconst 1, 1) := by decide +kernel
theorem dX3_fewest_43 : decode cX3_fewest 43 = .ok (.aload_n 0, 1) := by decide +kernel
theorem dX3_fewest_44 : decode cX3_fewest 44 = .ok (.getfield 10, 3) := by decide +kernel
theorem dX3_fewest_47 : decode cX3_fewest 47 = .ok (.getfield 73, 3) := by decide +kernel
theorem dX3_fewest_50 : decode cX3_fewest 50 = .ok (.ishl, 1) := by decide +kernel
theorem dX3_fewest_51 : decode cX3_fewest 51 = .ok (.invokevirtual 167, 3) := by decide +kernel
theorem dX3_fewest_54 : decode cX3_fewest 54 = .ok (.ireturn, 1) := by decide +kernel
set_option maxRecDepth 20000 in
theorem ggX3_lost_X3_finding : GoodIn wsX3_lost wsX3_finding := goodIn_r _ [8, 9, 10, 74, 75, 76, 77, 78, 79, 80, 81, 82] (by decide +kernel) (by decide +kernel)
set_option maxRecDepth 20000 in
theorem gX3_lost_X3_finding : GoodIn wsX3_lost (wsV RX3 54 RX3 yX3_finding wsX3_finding) := goodIn_app (goodIn_of _ (by decide +kernel)) ggX3_lost_X3_finding
set_option maxRecDepth 20000 in
theorem ggX3_lost_X3_countLoudest : GoodIn wsX3_lost wsX3_countLoudest := goodIn_r _ [14, 3, 1, 15, 16, 17, 18, 19, 20, 21, 22, 23, 24, 25, 26, 27, 28, 29, 30, 31, 32, 33, 34, 35, 36, 37, 38, 39, 40, 41, 42, 43, 44, 45, 46, 47, 48, 49, 50, 51, 52, 53, 54, 55, 56, 57, 58, 59, 60, 61, 62, 63, 64, 65, 66, 67, 68, 69, 70, 71, 72, 73, 74, 75, 76, 77, 78, 79, 80, 81, 82, 83, 84, 85, 86, 87, 88, 89, 90, 91, 92, 93, 94, 95] (by decide +kernel) (by decide +kernel)
set_option maxRecDepth 20000 in
theorem gX3_lost_X3_countLoudest : GoodIn wsX3_lost (wsV RX3 164 RX3 yX3_countLoudest wsX3_countLoudest) := goodIn_app (goodIn_of _ (by decide +kernel)) ggX3_lost_X3_countLoudest
theorem dX3_lost_0 : decode cX3_lost 0 = .ok (.iload_n 1, 1) := by decide +kernel
theorem dX3_lost_1 : decode cX3_lost 1 = .ok (.ifCond .lt 16, 3) := by decide +kernel
theorem dX3_lost_4 : decode cX3_lost 4 = .ok (.iload_n 1, 1) := by decide +kernel
theorem dX3_lost_5 : decode cX3_lost 5 = .ok (.iconst 1, 1) := by decide +kernel
theorem dX3_lost_6 : decode cX3_lost 6 = .ok (.aload_n 0, 1) := by decide +kernel
theorem dX3_lost_7 : decode cX3_lost 7 = .ok (.getfield 10, 3) := by decide +kernel
theorem dX3_lost_10 : decode cX3_lost 10 = .ok (.getfield 73, 3) := by decide +kernel
theorem dX3_lost_13 : decode cX3_lost 13 = .ok (.ishl, 1) := by decide +kernel
theorem dX3_lost_14 : decode cX3_lost 14 = .ok (.if_icmp .lt 9, 3) := by decide +kernel
theorem dX3_lost_17 : decode cX3_lost 17 = .ok (.aload_n 0, 1) := by decide +kernel
theorem dX3_lost_18 : decode cX3_lost 18 = .ok (.iconst 0, 1) := by decide +kernel
theorem dX3_lost_19 : decode cX3_lost 19 = .ok (.invokevirtual 54, 3) := by decide +kernel
theorem dX3_lost_22 : decode cX3_lost 22 = .ok (.ireturn, 1) := by decide +kernel
theorem dX3_lost_23 : decode cX3_lost 23 = .ok (.aload_n 0, 1) := by decide +kernel
theorem dX3_lost_24 : decode cX3_lost 24 = .ok (.invokevirtual 164, 3) := by decide +kernel
theorem dX3_lost_27 : decode cX3_lost 27 = .ok (.iconst 0, 1) := by decide +kernel
theorem dX3_lost_28 : decode cX3_lost 28 = .ok (.istore_n 2, 1) := by decide +kernel
theorem dX3_lost_29 : decode cX3_lost 29 = .ok (.iconst 1, 1) := by decide +kernel
theorem dX3_lost_30 : decode cX3_lost 30 = .ok (.istore_n 3, 1) := by decide +kernel
theorem dX3_lost_31 : decode cX3_lost 31 = .ok (.iload_n 3, 1) := by decide +kernel
theorem dX3_lost_32 : decode cX3_lost 32 = .ok (.sipush 256, 3) := by decide +kernel
theorem dX3_lost_35 : decode cX3_lost 35 = .ok (.if_icmp .ge 26, 3) := by decide +kernel
theorem dX3_lost_38 : decode cX3_lost 38 = .ok (.iload_n 3, 1) := by decide +kernel
theorem dX3_lost_39 : decode cX3_lost 39 = .ok (.iload_n 1, 1) := by decide +kernel
theorem dX3_lost_40 : decode cX3_lost 40 = .ok (.iconst (-1), 1) := by decide +kernel
theorem dX3_lost_41 : decode cX3_lost 41 = .ok (.ixor, 1) := by decide +kernel
theorem dX3_lost_42 : decode cX3_lost 42 = .ok (.iand, 1) := by decide +kernel
theorem dX3_lost_43 : decode cX3_lost 43 = .ok (.ifCond .ne 12, 3) := by decide +kernel
theorem dX3_lost_46 : decode cX3_lost 46 = .ok (.iload_n 2, 1) := by decide +kernel
theorem dX3_lost_47 : decode cX3_lost 47 = .ok (.aload_n 0, 1) := by decide +kernel
theorem dX3_lost_48 : decode cX3_lost 48 = .ok (.getfield 43, 3) := by decide +kernel
theorem dX3_lost_51 : decode cX3_lost 51 = .ok (.iload_n 3, 1) := by decide +kernel
theorem dX3_lost_52 : decode cX3_lost 52 = .ok (.iaload, 1) := by decide +kernel
theorem dX3_lost_53 : decode cX3_lost 53 = .ok (.iadd, 1) := by decide +kernel
theorem dX3_lost_54 : decode cX3_lost 54 = .ok (.istore_n 2, 1) := by decide +kernel
theorem dX3_lost_55 : decode cX3_lost 55 = .ok (.iinc 3 1, 3) := by decide +kernel
theorem dX3_lost_58 : decode cX3_lost 58 = .ok (.goto (-27), 3) := by decide +kernel
theorem dX3_lost_61 : decode cX3_lost 61 = .ok (.iload_n 2, 1) := by decide +kernel
theorem dX3_lost_62 : decode cX3_lost 62 = .ok (.ireturn, 1) := by decide +kernel
set_option maxRecDepth 20000 in
theorem ggX3_dearest_X3_finding : GoodIn wsX3_dearest wsX3_finding := goodIn_r _ [8, 9, 10, 74, 75, 76, 77, 78, 79, 80, 81, 82] (by decide +kernel) (by decide +kernel)
set_option maxRecDepth 20000 in
theorem gX3_dearest_X3_finding : GoodIn wsX3_dearest (wsV RX3 54 RX3 yX3_finding wsX3_finding) := goodIn_app (goodIn_of _ (by decide +kernel)) ggX3_dearest_X3_finding
set_option maxRecDepth 20000 in
theorem ggX3_dearest_X3_countLoudest : GoodIn wsX3_dearest wsX3_countLoudest := goodIn_r _ [14, 3, 1, 15, 16, 17, 18, 19, 20, 21, 22, 23, 24, 25, 26, 27, 28, 29, 30, 31, 32, 33, 34, 35, 36, 37, 38, 39, 40, 41, 42, 43, 44, 45, 46, 47, 48, 49, 50, 51, 52, 53, 54, 55, 56, 57, 58, 59, 60, 61, 62, 63, 64, 65, 66, 67, 68, 69, 70, 71, 72, 73, 74, 75, 76, 77, 78, 79, 80, 81, 82, 83, 84, 85, 86, 87, 88, 89, 90, 91, 92, 93, 94, 95] (by decide +kernel) (by decide +kernel)
set_option maxRecDepth 20000 in
theorem gX3_dearest_X3_countLoudest : GoodIn wsX3_dearest (wsV RX3 164 RX3 yX3_countLoudest wsX3_countLoudest) := goodIn_app (goodIn_of _ (by decide +kernel)) ggX3_dearest_X3_countLoudest
theorem dX3_dearest_0 : decode cX3_dearest 0 = .ok (.aload_n 0, 1) := by decide +kernel
theorem dX3_dearest_1 : decode cX3_dearest 1 = .ok (.getfield 10, 3) := by decide +kernel
theorem dX3_dearest_4 : decode cX3_dearest 4 = .ok (.getfield 73, 3) := by decide +kernel
theorem dX3_dearest_7 : decode cX3_dearest 7 = .ok (.ifCond .ne 9, 3) := by decide +kernel
theorem dX3_dearest_10 : decode cX3_dearest 10 = .ok (.aload_n 0, 1) := by decide +kernel
theorem dX3_dearest_11 : decode cX3_dearest 11 = .ok (.iconst 3, 1) := by decide +kernel
theorem dX3_dearest_12 : decode cX3_dearest 12 = .ok (.invokevirtual 54, 3) := by decide +kernel
theorem dX3_dearest_15 : decode cX3_dearest 15 = .ok (.ireturn, 1) := by decide +kernel
theorem dX3_dearest_16 : decode cX3_dearest 16 = .ok (.aload_n 0, 1) := by decide +kernel
theorem dX3_dearest_17 : decode cX3_dearest 17 = .ok (.invokevirtual 164, 3) := by decide +kernel
theorem dX3_dearest_20 : decode cX3_dearest 20 = .ok (.iconst 0, 1) := by decide +kernel
theorem dX3_dearest_21 : decode cX3_dearest 21 = .ok (.istore_n 1, 1) := by decide +kernel
theorem dX3_dearest_22 : decode cX3_dearest 22 = .ok (.iconst 1, 1) := by decide +kernel
theorem dX3_dearest_23 : decode cX3_dearest 23 = .ok (.istore_n 2, 1) := by decide +kernel
theorem dX3_dearest_24 : decode cX3_dearest 24 = .ok (.iload_n 2, 1) := by decide +kernel
theorem dX3_dearest_25 : decode cX3_dearest 25 = .ok (.aload_n 0, 1) := by decide +kernel
theorem dX3_dearest_26 : decode cX3_dearest 26 = .ok (.getfield 10, 3) := by decide +kernel
theorem dX3_dearest_29 : decode cX3_dearest 29 = .ok (.getfield 73, 3) := by decide +kernel
theorem dX3_dearest_32 : decode cX3_dearest 32 = .ok (.if_icmp .ge 30, 3) := by decide +kernel
theorem dX3_dearest_35 : decode cX3_dearest 35 = .ok (.aload_n 0, 1) := by decide +kernel
theorem dX3_dearest_36 : decode cX3_dearest 36 = .ok (.getfield 43, 3) := by decide +kernel
theorem dX3_dearest_39 : decode cX3_dearest 39 = .ok (.iconst 1, 1) := by decide +kernel
theorem dX3_dearest_40 : decode cX3_dearest 40 = .ok (.iload_n 2, 1) := by decide +kernel
theorem dX3_dearest_41 : decode cX3_dearest 41 = .ok (.ishl, 1) := by decide +kernel
theorem dX3_dearest_42 : decode cX3_dearest 42 = .ok (.iaload, 1) := by decide +kernel
theorem dX3_dearest_43 : decode cX3_dearest 43 = .ok (.aload_n 0, 1) := by decide +kernel
theorem dX3_dearest_44 : decode cX3_dearest 44 = .ok (.getfield 43, 3) := by decide +kernel
theorem dX3_dearest_47 : decode cX3_dearest 47 = .ok (.iconst 1, 1) := by decide +kernel
theorem dX3_dearest_48 : decode cX3_dearest 48 = .ok (.iload_n 1, 1) := by decide +kernel
theorem dX3_dearest_49 : decode cX3_dearest 49 = .ok (.ishl, 1) := by decide +kernel
theorem dX3_dearest_50 : decode cX3_dearest 50 = .ok (.iaload, 1) := by decide +kernel
theorem dX3_dearest_51 : decode cX3_dearest 51 = .ok (.if_icmp .le 5, 3) := by decide +kernel
theorem dX3_dearest_54 : decode cX3_dearest 54 = .ok (.iload_n 2, 1) := by decide +kernel
theorem dX3_dearest_55 : decode cX3_dearest 55 = .ok (.istore_n 1, 1) := by decide +kernel
theorem dX3_dearest_56 : decode cX3_dearest 56 = .ok (.iinc 2 1, 3) := by decide +kernel
theorem dX3_dearest_59 : decode cX3_dearest 59 = .ok (.goto (-35), 3) := by decide +kernel
theorem dX3_dearest_62 : decode cX3_dearest 62 = .ok (.iload_n 1, 1) := by decide +kernel
theorem dX3_dearest_63 : decode cX3_dearest 63 = .ok (.ireturn, 1) := by decide +kernel
set_option maxRecDepth 20000 in
theorem ggX3_parts_X3_isPair : GoodIn wsX3_parts wsX3_isPair := goodIn_r _ [6, 7, 8, 9, 5, 10, 1, 11, 48, 49, 50, 51, 52, 53, 54, 55, 56, 57, 58, 59, 60, 61, 62, 63, 64, 65, 66, 67, 68, 69] (by decide +kernel) (by decide +kernel)
set_option maxRecDepth 20000 in
theorem gX3_parts_X3_isPair : GoodIn wsX3_parts (wsV RX3 109 RX3 yX3_isPair wsX3_isPair) := goodIn_app (goodIn_of _ (by decide +kernel)) ggX3_parts_X3_isPair
set_option maxRecDepth 20000 in
theorem ggX3_parts_X3_finding : GoodIn wsX3_parts wsX3_finding := goodIn_r _ [15, 16, 17, 48, 49, 50, 51, 52, 53, 54, 55, 56] (by decide +kernel) (by decide +kernel)
set_option maxRecDepth 20000 in
theorem gX3_parts_X3_finding : GoodIn wsX3_parts (wsV RX3 54 RX3 yX3_finding wsX3_finding) := goodIn_app (goodIn_of _ (by decide +kernel)) ggX3_parts_X3_finding
set_option maxRecDepth 20000 in
theorem ggX3_parts_X0_barsPlayed : GoodIn wsX3_parts wsX0_barsPlayed := goodIn_r _ [22, 23, 24, 25, 21, 26, 27, 28, 29, 30, 31, 32, 33, 34, 35, 36, 37, 38, 39, 40, 41, 42, 43, 44, 45, 46, 47, 57, 58, 59, 60, 61, 62, 63, 64, 65, 66, 67, 68, 69] (by decide +kernel) (by decide +kernel)
set_option maxRecDepth 20000 in
theorem gX3_parts_X0_barsPlayed : GoodIn wsX3_parts (wsV RX3 99 RX0 yX0_barsPlayed wsX0_barsPlayed) := goodIn_app (goodIn_of _ (by decide +kernel)) ggX3_parts_X0_barsPlayed
theorem dX3_parts_0 : decode cX3_parts 0 = .ok (.aload_n 0, 1) := by decide +kernel
theorem dX3_parts_1 : decode cX3_parts 1 = .ok (.iload_n 1, 1) := by decide +kernel
theorem dX3_parts_2 : decode cX3_parts 2 = .ok (.iload_n 2, 1) := by decide +kernel
theorem dX3_parts_3 : decode cX3_parts 3 = .ok (.invokevirtual 109, 3) := by decide +kernel
theorem dX3_parts_6 : decode cX3_parts 6 = .ok (.ifCond .ne 9, 3) := by decide +kernel
theorem dX3_parts_9 : decode cX3_parts 9 = .ok (.aload_n 0, 1) := by decide +kernel
theorem dX3_parts_10 : decode cX3_parts 10 = .ok (.iconst 0, 1) := by decide +kernel
theorem dX3_parts_11 : decode cX3_parts 11 = .ok (.invokevirtual 54, 3) := by decide +kernel
theorem dX3_parts_14 : decode cX3_parts 14 = .ok (.ireturn, 1) := by decide +kernel
theorem dX3_parts_15 : decode cX3_parts 15 = .ok (.aload_n 0, 1) := by decide +kernel
theorem dX3_parts_16 : decode cX3_parts 16 = .ok (.getfield 10, 3) := by decide +kernel
theorem dX3_parts_19 : decode cX3_parts 19 = .ok (.iload_n 1, 1) := by decide +kernel
theorem dX3_parts_20 : decode cX3_parts 20 = .ok (.invokevirtual 99, 3) := by decide +kernel
theorem dX3_parts_23 : decode cX3_parts 23 = .ok (.aload_n 0, 1) := by decide +kernel
theorem dX3_parts_24 : decode cX3_parts 24 = .ok (.getfield 10, 3) := by decide +kernel
theorem dX3_parts_27 : decode cX3_parts 27 = .ok (.iload_n 2, 1) := by decide +kernel
theorem dX3_parts_28 : decode cX3_parts 28 = .ok (.invokevirtual 99, 3) := by decide +kernel
theorem dX3_parts_31 : decode cX3_parts 31 = .ok (.ixor, 1) := by decide +kernel
theorem dX3_parts_32 : decode cX3_parts 32 = .ok (.ireturn, 1) := by decide +kernel
set_option maxRecDepth 20000 in
theorem ggX3_tells_X0_barsPlayed : GoodIn wsX3_tells wsX0_barsPlayed := goodIn_r _ [8, 9, 10, 11, 7, 12, 13, 14, 15, 16, 17, 18, 19, 20, 21, 22, 23, 24, 25, 26, 27, 28, 29, 30, 31, 32, 33, 65, 66, 67, 68, 69, 70, 71, 72, 73, 74, 75, 76, 77] (by decide +kernel) (by decide +kernel)
set_option maxRecDepth 20000 in
theorem gX3_tells_X0_barsPlayed : GoodIn wsX3_tells (wsV RX3 99 RX0 yX0_barsPlayed wsX0_barsPlayed) := goodIn_app (goodIn_of _ (by decide +kernel)) ggX3_tells_X0_barsPlayed
set_option maxRecDepth 20000 in
theorem ggX3_tells_X3_finding : GoodIn wsX3_tells wsX3_finding := goodIn_r _ [38, 39, 40, 56, 57, 58, 59, 60, 61, 62, 63, 64] (by decide +kernel) (by decide +kernel)
set_option maxRecDepth 20000 in
theorem gX3_tells_X3_finding : GoodIn wsX3_tells (wsV RX3 54 RX3 yX3_finding wsX3_finding) := goodIn_app (goodIn_of _ (by decide +kernel)) ggX3_tells_X3_finding
set_option maxRecDepth 20000 in
theorem ggX3_tells_X3_leastTouching : GoodIn wsX3_tells wsX3_leastTouching := goodIn_r _ [44, 45, 46, 47, 48, 49, 50, 51, 52, 53, 54, 37, 55, 3, 56, 57, 58, 59, 60, 61, 62, 63, 64] (by decide +kernel) (by decide +kernel)
set_option maxRecDepth 20000 in
theorem gX3_tells_X3_leastTouching : GoodIn wsX3_tells (wsV RX3 167 RX3 yX3_leastTouching wsX3_leastTouching) := goodIn_app (goodIn_of _ (by decide +kernel)) ggX3_tells_X3_leastTouching
theorem dX3_tells_0 : decode cX3_tells 0 = .ok (.iconst 0, 1) := by decide +kernel
theorem dX3_tells_1 : decode cX3_tells 1 = .ok (.istore_n 1, 1) := by decide +kernel
theorem dX3_tells_2 : decode cX3_tells 2 = .ok (.iconst 0, 1) := by decide +kernel
theorem dX3_tells_3 : decode cX3_tells 3 = .ok (.istore_n 2, 1) := by decide +kernel
theorem dX3_tells_4 : decode cX3_tells 4 = .ok (.iload_n 2, 1) := by decide +kernel
theorem dX3_tells_5 : decode cX3_tells 5 = .ok (.aload_n 0, 1) := by decide +kernel
theorem dX3_tells_6 : decode cX3_tells 6 = .ok (.getfield 10, 3) := by decide +kernel
theorem dX3_tells_9 : decode cX3_tells 9 = .ok (.getfield 73, 3) := by decide +kernel
theorem dX3_tells_12 : decode cX3_tells 12 = .ok (.if_icmp .ge 77, 3) := by decide +kernel
theorem dX3_tells_15 : decode cX3_tells 15 = .ok (.iload_n 2, 1) := by decide +kernel
theorem dX3_tells_16 : decode cX3_tells 16 = .ok (.iconst 1, 1) := by decide +kernel
theorem dX3_tells_17 : decode cX3_tells 17 = .ok (.iadd, 1) := by decide +kernel
theorem dX3_tells_18 : decode cX3_tells 18 = .ok (.istore_n 3, 1) := by decide +kernel
theorem dX3_tells_19 : decode cX3_tells 19 = .ok (.iload_n 3, 1) := by decide +kernel
theorem dX3_tells_20 : decode cX3_tells 20 = .ok (.aload_n 0, 1) := by decide +kernel
theorem dX3_tells_21 : decode cX3_tells 21 = .ok (.getfield 10, 3) := by decide +kernel
theorem dX3_tells_24 : decode cX3_tells 24 = .ok (.getfield 73, 3) := by decide +kernel
theorem dX3_tells_27 : decode cX3_tells 27 = .ok (.if_icmp .ge 56, 3) := by decide +kernel
theorem dX3_tells_30 : decode cX3_tells 30 = .ok (.iload_n 1, 1) := by decide +kernel
theorem dX3_tells_31 : decode cX3_tells 31 = .ok (.bipush 28, 2) := by decide +kernel
theorem dX3_tells_33 : decode cX3_tells 33 = .ok (.if_icmp .ge 50, 3) := by decide +kernel
theorem dX3_tells_36 : decode cX3_tells 36 = .ok (.aload_n 0, 1) := by decide +kernel
theorem dX3_tells_37 : decode cX3_tells 37 = .ok (.getfield 46, 3) := by decide +kernel
theorem dX3_tells_40 : decode cX3_tells 40 = .ok (.iload_n 1, 1) := by decide +kernel
theorem dX3_tells_41 : decode cX3_tells 41 = .ok (.aload_n 0, 1) := by decide +kernel
theorem dX3_tells_42 : decode cX3_tells 42 = .ok (.getfield 10, 3) := by decide +kernel
theorem dX3_tells_45 : decode cX3_tells 45 = .ok (.iload_n 2, 1) := by decide +kernel
theorem dX3_tells_46 : decode cX3_tells 46 = .ok (.invokevirtual 99, 3) := by decide +kernel
theorem dX3_tells_49 : decode cX3_tells 49 = .ok (.aload_n 0, 1) := by decide +kernel
theorem dX3_tells_50 : decode cX3_tells 50 = .ok (.getfield 10, 3) := by decide +kernel
theorem dX3_tells_53 : decode cX3_tells 53 = .ok (.iload_n 3, 1) := by decide +kernel
theorem dX3_tells_54 : decode cX3_tells 54 = .ok (.invokevirtual 99, 3) := by decide +kernel
theorem dX3_tells_57 : decode cX3_tells 57 = .ok (.ixor, 1) := by decide +kernel
theorem dX3_tells_58 : decode cX3_tells 58 = .ok (.iastore, 1) := by decide +kernel
theorem dX3_tells_59 : decode cX3_tells 59 = .ok (.aload_n 0, 1) := by decide +kernel
theorem dX3_tells_60 : decode cX3_tells 60 = .ok (.getfield 46, 3) := by decide +kernel
theorem dX3_tells_63 : decode cX3_tells 63 = .ok (.iload_n 1, 1) := by decide +kernel
theorem dX3_tells_64 : decode cX3_tells 64 = .ok (.iaload, 1) := by decide +kernel
theorem dX3_tells_65 : decode cX3_tells 65 = .ok (.ifCond .ne 9, 3) := by decide +kernel
theorem dX3_tells_68 : decode cX3_tells 68 = .ok (.aload_n 0, 1) := by decide +kernel
theorem dX3_tells_69 : decode cX3_tells 69 = .ok (.iconst 3, 1) := by decide +kernel
theorem dX3_tells_70 : decode cX3_tells 70 = .ok (.invokevirtual 54, 3) := by decide +kernel
theorem dX3_tells_73 : decode cX3_tells 73 = .ok (.ireturn, 1) := by decide +kernel
theorem dX3_tells_74 : decode cX3_tells 74 = .ok (.iinc 1 1, 3) := by decide +kernel
theorem dX3_tells_77 : decode cX3_tells 77 = .ok (.iinc 3 1, 3) := by decide +kernel
theorem dX3_tells_80 : decode cX3_tells 80 = .ok (.goto (-61), 3) := by decide +kernel
theorem dX3_tells_83 : decode cX3_tells 83 = .ok (.iinc 2 1, 3) := by decide +kernel
theorem dX3_tells_86 : decode cX3_tells 86 = .ok (.goto (-82), 3) := by decide +kernel
theorem dX3_tells_89 : decode cX3_tells 89 = .ok (.aload_n 0, 1) := by decide +kernel
theorem dX3_tells_90 : decode cX3_tells 90 = .ok (.iload_n 1, 1) := by decide +kernel
theorem dX3_tells_91 : decode cX3_tells 91 = .ok (.sipush 4096, 3) := by decide +kernel
theorem dX3_tells_94 : decode cX3_tells 94 = .ok (.invokevirtual 167, 3) := by decide +kernel
theorem dX3_tells_97 : decode cX3_tells 97 = .ok (.ireturn, 1) := by decide +kernel
set_option maxRecDepth 20000 in
theorem ggX3_halves_X0_playersIn : GoodIn wsX3_halves wsX0_playersIn := goodIn_r _ [11, 12, 13, 14, 15, 10, 16, 17, 18, 19, 20, 21, 22, 23, 24, 25, 26, 27, 28, 29, 30, 31, 32, 33, 34, 35, 36, 37, 38, 39, 40, 41, 42, 43, 44, 61, 62, 63, 64, 65, 66, 67, 68, 69, 70, 71, 72, 73] (by decide +kernel) (by decide +kernel)
set_option maxRecDepth 20000 in
theorem gX3_halves_X0_playersIn : GoodIn wsX3_halves (wsV RX3 61 RX0 yX0_playersIn wsX0_playersIn) := goodIn_app (goodIn_of _ (by decide +kernel)) ggX3_halves_X0_playersIn
set_option maxRecDepth 20000 in
theorem ggX3_halves_J6_bitCount_0f7a4 : GoodIn wsX3_halves wsJ6_bitCount_0f7a4 := goodIn_r _ [48, 49, 50, 51] (by decide +kernel) (by decide +kernel)
set_option maxRecDepth 20000 in
theorem gX3_halves_J6_bitCount_0f7a4 : GoodIn wsX3_halves (va_wsS RX3 170 yJ6_bitCount_0f7a4 wsJ6_bitCount_0f7a4) := goodIn_app (goodIn_of _ (by decide +kernel)) ggX3_halves_J6_bitCount_0f7a4
theorem dX3_halves_0 : decode cX3_halves 0 = .ok (.iconst 0, 1) := by decide +kernel
theorem dX3_halves_1 : decode cX3_halves 1 = .ok (.istore_n 1, 1) := by decide +kernel
theorem dX3_halves_2 : decode cX3_halves 2 = .ok (.iconst (-1), 1) := by decide +kernel
theorem dX3_halves_3 : decode cX3_halves 3 = .ok (.istore_n 2, 1) := by decide +kernel
theorem dX3_halves_4 : decode cX3_halves 4 = .ok (.iconst 0, 1) := by decide +kernel
theorem dX3_halves_5 : decode cX3_halves 5 = .ok (.istore_n 3, 1) := by decide +kernel
theorem dX3_halves_6 : decode cX3_halves 6 = .ok (.iload_n 3, 1) := by decide +kernel
theorem dX3_halves_7 : decode cX3_halves 7 = .ok (.bipush 12, 2) := by decide +kernel
theorem dX3_halves_9 : decode cX3_halves 9 = .ok (.if_icmp .ge 50, 3) := by decide +kernel
theorem dX3_halves_12 : decode cX3_halves 12 = .ok (.aload_n 0, 1) := by decide +kernel
theorem dX3_halves_13 : decode cX3_halves 13 = .ok (.getfield 10, 3) := by decide +kernel
theorem dX3_halves_16 : decode cX3_halves 16 = .ok (.iload_n 3, 1) := by decide +kernel
theorem dX3_halves_17 : decode cX3_halves 17 = .ok (.invokevirtual 61, 3) := by decide +kernel
theorem dX3_halves_20 : decode cX3_halves 20 = .ok (.invokestatic 170, 3) := by decide +kernel
theorem dX3_halves_23 : decode cX3_halves 23 = .ok (.istore 4, 2) := by decide +kernel
theorem dX3_halves_25 : decode cX3_halves 25 = .ok (.iload 4, 2) := by decide +kernel
theorem dX3_halves_27 : decode cX3_halves 27 = .ok (.aload_n 0, 1) := by decide +kernel
theorem dX3_halves_28 : decode cX3_halves 28 = .ok (.getfield 10, 3) := by decide +kernel
theorem dX3_halves_31 : decode cX3_halves 31 = .ok (.getfield 73, 3) := by decide +kernel
theorem dX3_halves_34 : decode cX3_halves 34 = .ok (.iload 4, 2) := by decide +kernel
theorem dX3_halves_36 : decode cX3_halves 36 = .ok (.isub, 1) := by decide +kernel
theorem dX3_halves_37 : decode cX3_halves 37 = .ok (.invokestatic 175, 3) := by decide +kernel
theorem dX3_halves_40 : decode cX3_halves 40 = .ok (.istore 5, 2) := by decide +kernel
theorem dX3_halves_42 : decode cX3_halves 42 = .ok (.iload 5, 2) := by decide +kernel
theorem dX3_halves_44 : decode cX3_halves 44 = .ok (.iload_n 2, 1) := by decide +kernel
theorem dX3_halves_45 : decode cX3_halves 45 = .ok (.if_icmp .le 8, 3) := by decide +kernel
theorem dX3_halves_48 : decode cX3_halves 48 = .ok (.iload 5, 2) := by decide +kernel
theorem dX3_halves_50 : decode cX3_halves 50 = .ok (.istore_n 2, 1) := by decide +kernel
theorem dX3_halves_51 : decode cX3_halves 51 = .ok (.iload_n 3, 1) := by decide +kernel
theorem dX3_halves_52 : decode cX3_halves 52 = .ok (.istore_n 1, 1) := by decide +kernel
theorem dX3_halves_53 : decode cX3_halves 53 = .ok (.iinc 3 1, 3) := by decide +kernel
theorem dX3_halves_56 : decode cX3_halves 56 = .ok (.goto (-50), 3) := by decide +kernel
theorem dX3_halves_59 : decode cX3_halves 59 = .ok (.iload_n 1, 1) := by decide +kernel
theorem dX3_halves_60 : decode cX3_halves 60 = .ok (.ireturn, 1) := by decide +kernel
set_option maxRecDepth 20000 in
theorem ggX3_who_X3_finding : GoodIn wsX3_who wsX3_finding := goodIn_r _ [7, 8, 9, 40, 41, 42, 43, 44, 45, 46, 47, 48] (by decide +kernel) (by decide +kernel)
set_option maxRecDepth 20000 in
theorem gX3_who_X3_finding : GoodIn wsX3_who (wsV RX3 54 RX3 yX3_finding wsX3_finding) := goodIn_app (goodIn_of _ (by decide +kernel)) ggX3_who_X3_finding
set_option maxRecDepth 20000 in
theorem ggX3_who_X0_barsPlayed : GoodIn wsX3_who wsX0_barsPlayed := goodIn_r _ [14, 15, 16, 17, 13, 18, 19, 20, 21, 22, 23, 24, 25, 26, 27, 28, 29, 30, 31, 32, 33, 34, 35, 36, 37, 38, 39, 49, 50, 51, 52, 53, 54, 55, 56, 57, 58, 59, 60, 61] (by decide +kernel) (by decide +kernel)
set_option maxRecDepth 20000 in
theorem gX3_who_X0_barsPlayed : GoodIn wsX3_who (wsV RX3 99 RX0 yX0_barsPlayed wsX0_barsPlayed) := goodIn_app (goodIn_of _ (by decide +kernel)) ggX3_who_X0_barsPlayed
theorem dX3_who_0 : decode cX3_who 0 = .ok (.iload_n 1, 1) := by decide +kernel
theorem dX3_who_1 : decode cX3_who 1 = .ok (.ifCond .lt 10, 3) := by decide +kernel
theorem dX3_who_4 : decode cX3_who 4 = .ok (.iload_n 1, 1) := by decide +kernel
theorem dX3_who_5 : decode cX3_who 5 = .ok (.sipush 4095, 3) := by decide +kernel
theorem dX3_who_8 : decode cX3_who 8 = .ok (.if_icmp .le 9, 3) := by decide +kernel
theorem dX3_who_11 : decode cX3_who 11 = .ok (.aload_n 0, 1) := by decide +kernel
theorem dX3_who_12 : decode cX3_who 12 = .ok (.iconst 0, 1) := by decide +kernel
theorem dX3_who_13 : decode cX3_who 13 = .ok (.invokevirtual 54, 3) := by decide +kernel
theorem dX3_who_16 : decode cX3_who 16 = .ok (.ireturn, 1) := by decide +kernel
theorem dX3_who_17 : decode cX3_who 17 = .ok (.iconst 0, 1) := by decide +kernel
theorem dX3_who_18 : decode cX3_who 18 = .ok (.istore_n 2, 1) := by decide +kernel
theorem dX3_who_19 : decode cX3_who 19 = .ok (.iconst 0, 1) := by decide +kernel
theorem dX3_who_20 : decode cX3_who 20 = .ok (.istore_n 3, 1) := by decide +kernel
theorem dX3_who_21 : decode cX3_who 21 = .ok (.iload_n 3, 1) := by decide +kernel
theorem dX3_who_22 : decode cX3_who 22 = .ok (.aload_n 0, 1) := by decide +kernel
theorem dX3_who_23 : decode cX3_who 23 = .ok (.getfield 10, 3) := by decide +kernel
theorem dX3_who_26 : decode cX3_who 26 = .ok (.getfield 73, 3) := by decide +kernel
theorem dX3_who_29 : decode cX3_who 29 = .ok (.if_icmp .ge 27, 3) := by decide +kernel
theorem dX3_who_32 : decode cX3_who 32 = .ok (.aload_n 0, 1) := by decide +kernel
theorem dX3_who_33 : decode cX3_who 33 = .ok (.getfield 10, 3) := by decide +kernel
theorem dX3_who_36 : decode cX3_who 36 = .ok (.iload_n 3, 1) := by decide +kernel
theorem dX3_who_37 : decode cX3_who 37 = .ok (.invokevirtual 99, 3) := by decide +kernel
theorem dX3_who_40 : decode cX3_who 40 = .ok (.iload_n 1, 1) := by decide +kernel
theorem dX3_who_41 : decode cX3_who 41 = .ok (.if_icmp .ne 9, 3) := by decide +kernel
theorem dX3_who_44 : decode cX3_who 44 = .ok (.iload_n 2, 1) := by decide +kernel
theorem dX3_who_45 : decode cX3_who 45 = .ok (.iconst 1, 1) := by decide +kernel
theorem dX3_who_46 : decode cX3_who 46 = .ok (.iload_n 3, 1) := by decide +kernel
theorem dX3_who_47 : decode cX3_who 47 = .ok (.ishl, 1) := by decide +kernel
theorem dX3_who_48 : decode cX3_who 48 = .ok (.ior, 1) := by decide +kernel
theorem dX3_who_49 : decode cX3_who 49 = .ok (.istore_n 2, 1) := by decide +kernel
theorem dX3_who_50 : decode cX3_who 50 = .ok (.iinc 3 1, 3) := by decide +kernel
theorem dX3_who_53 : decode cX3_who 53 = .ok (.goto (-32), 3) := by decide +kernel
theorem dX3_who_56 : decode cX3_who 56 = .ok (.iload_n 2, 1) := by decide +kernel
theorem dX3_who_57 : decode cX3_who 57 = .ok (.ireturn, 1) := by decide +kernel
set_option maxRecDepth 20000 in
theorem ggX3_nearest_X3_isPair : GoodIn wsX3_nearest wsX3_isPair := goodIn_r _ [8, 9, 10, 11, 7, 12, 2, 13, 82, 83, 84, 85, 86, 87, 88, 89, 90, 91, 92, 93, 94, 95, 96, 97, 98, 99, 100, 101, 102, 103] (by decide +kernel) (by decide +kernel)
set_option maxRecDepth 20000 in
theorem gX3_nearest_X3_isPair : GoodIn wsX3_nearest (wsV RX3 109 RX3 yX3_isPair wsX3_isPair) := goodIn_app (goodIn_of _ (by decide +kernel)) ggX3_nearest_X3_isPair
set_option maxRecDepth 20000 in
theorem ggX3_nearest_X3_finding : GoodIn wsX3_nearest wsX3_finding := goodIn_r _ [17, 18, 19, 82, 83, 84, 85, 86, 87, 88, 89, 90] (by decide +kernel) (by decide +kernel)
set_option maxRecDepth 20000 in
theorem gX3_nearest_X3_finding : GoodIn wsX3_nearest (wsV RX3 54 RX3 yX3_finding wsX3_finding) := goodIn_app (goodIn_of _ (by decide +kernel)) ggX3_nearest_X3_finding
set_option maxRecDepth 20000 in
theorem ggX3_nearest_X0_become : GoodIn wsX3_nearest wsX0_become := goodIn_r _ [24, 25, 26, 27, 28, 29, 30, 31, 32, 33, 34, 35, 36, 37, 38, 91, 92, 93, 94, 95, 96, 97, 98, 99, 100, 101, 102, 103] (by decide +kernel) (by decide +kernel)
set_option maxRecDepth 20000 in
theorem gX3_nearest_X0_become : GoodIn wsX3_nearest (wsV RX3 153 RX0 yX0_become wsX0_become) := goodIn_app (goodIn_of _ (by decide +kernel)) ggX3_nearest_X0_become
set_option maxRecDepth 20000 in
theorem ggX3_nearest_X0_barsHearing : GoodIn wsX3_nearest wsX0_barsHearing := goodIn_r _ [42, 43, 44, 45, 23, 46, 30, 31, 33, 47, 48, 49, 50, 51, 52, 53, 54, 55, 56, 57, 58, 34, 59, 60, 61, 62, 63, 64, 65, 66, 32, 67, 68, 69, 70, 36, 71, 72, 73, 74, 25, 91, 92, 93, 94, 95, 96, 97, 98, 99, 100, 101, 102, 103] (by decide +kernel) (by decide +kernel)
set_option maxRecDepth 20000 in
theorem gX3_nearest_X0_barsHearing : GoodIn wsX3_nearest (wsV RX3 126 RX0 yX0_barsHearing wsX0_barsHearing) := goodIn_app (goodIn_of _ (by decide +kernel)) ggX3_nearest_X0_barsHearing
set_option maxRecDepth 20000 in
theorem ggX3_nearest_J6_bitCount_0f7a4 : GoodIn wsX3_nearest wsJ6_bitCount_0f7a4 := goodIn_r _ [78, 79, 80, 81] (by decide +kernel) (by decide +kernel)
set_option maxRecDepth 20000 in
theorem gX3_nearest_J6_bitCount_0f7a4 : GoodIn wsX3_nearest (va_wsS RX3 170 yJ6_bitCount_0f7a4 wsJ6_bitCount_0f7a4) := goodIn_app (goodIn_of _ (by decide +kernel)) ggX3_nearest_J6_bitCount_0f7a4
theorem dX3_nearest_0 : decode cX3_nearest 0 = .ok (.aload_n 0, 1) := by decide +kernel
theorem dX3_nearest_1 : decode cX3_nearest 1 = .ok (.iload_n 1, 1) := by decide +kernel
theorem dX3_nearest_2 : decode cX3_nearest 2 = .ok (.iload_n 2, 1) := by decide +kernel
theorem dX3_nearest_3 : decode cX3_nearest 3 = .ok (.invokevirtual 109, 3) := by decide +kernel
theorem dX3_nearest_6 : decode cX3_nearest 6 = .ok (.ifCond .ne 9, 3) := by decide +kernel
theorem dX3_nearest_9 : decode cX3_nearest 9 = .ok (.aload_n 0, 1) := by decide +kernel
theorem dX3_nearest_10 : decode cX3_nearest 10 = .ok (.iconst 0, 1) := by decide +kernel
theorem dX3_nearest_11 : decode cX3_nearest 11 = .ok (.invokevirtual 54, 3) := by decide +kernel
theorem dX3_nearest_14 : decode cX3_nearest 14 = .ok (.ireturn, 1) := by decide +kernel
theorem dX3_nearest_15 : decode cX3_nearest 15 = .ok (.aload_n 0, 1) := by decide +kernel
theorem dX3_nearest_16 : decode cX3_nearest 16 = .ok (.getfield 16, 3) := by decide +kernel
theorem dX3_nearest_19 : decode cX3_nearest 19 = .ok (.aload_n 0, 1) := by decide +kernel
theorem dX3_nearest_20 : decode cX3_nearest 20 = .ok (.getfield 10, 3) := by decide +kernel
theorem dX3_nearest_23 : decode cX3_nearest 23 = .ok (.invokevirtual 153, 3) := by decide +kernel
theorem dX3_nearest_26 : decode cX3_nearest 26 = .ok (.iconst 0, 1) := by decide +kernel
theorem dX3_nearest_27 : decode cX3_nearest 27 = .ok (.istore_n 3, 1) := by decide +kernel
theorem dX3_nearest_28 : decode cX3_nearest 28 = .ok (.iconst (-1), 1) := by decide +kernel
theorem dX3_nearest_29 : decode cX3_nearest 29 = .ok (.istore 4, 2) := by decide +kernel
theorem dX3_nearest_31 : decode cX3_nearest 31 = .ok (.iconst 0, 1) := by decide +kernel
theorem dX3_nearest_32 : decode cX3_nearest 32 = .ok (.istore 5, 2) := by decide +kernel
theorem dX3_nearest_34 : decode cX3_nearest 34 = .ok (.iload 5, 2) := by decide +kernel
theorem dX3_nearest_36 : decode cX3_nearest 36 = .ok (.bipush 16, 2) := by decide +kernel
theorem dX3_nearest_38 : decode cX3_nearest 38 = .ok (.if_icmp .ge 48, 3) := by decide +kernel
theorem dX3_nearest_41 : decode cX3_nearest 41 = .ok (.aload_n 0, 1) := by decide +kernel
theorem dX3_nearest_42 : decode cX3_nearest 42 = .ok (.getfield 16, 3) := by decide +kernel
theorem dX3_nearest_45 : decode cX3_nearest 45 = .ok (.getfield 87, 3) := by decide +kernel
theorem dX3_nearest_48 : decode cX3_nearest 48 = .ok (.iload_n 1, 1) := by decide +kernel
theorem dX3_nearest_49 : decode cX3_nearest 49 = .ok (.iload 5, 2) := by decide +kernel
theorem dX3_nearest_51 : decode cX3_nearest 51 = .ok (.iastore, 1) := by decide +kernel
theorem dX3_nearest_52 : decode cX3_nearest 52 = .ok (.aload_n 0, 1) := by decide +kernel
theorem dX3_nearest_53 : decode cX3_nearest 53 = .ok (.getfield 16, 3) := by decide +kernel
theorem dX3_nearest_56 : decode cX3_nearest 56 = .ok (.iload_n 1, 1) := by decide +kernel
theorem dX3_nearest_57 : decode cX3_nearest 57 = .ok (.iload_n 2, 1) := by decide +kernel
theorem dX3_nearest_58 : decode cX3_nearest 58 = .ok (.invokevirtual 126, 3) := by decide +kernel
theorem dX3_nearest_61 : decode cX3_nearest 61 = .ok (.invokestatic 170, 3) := by decide +kernel
theorem dX3_nearest_64 : decode cX3_nearest 64 = .ok (.istore 6, 2) := by decide +kernel
theorem dX3_nearest_66 : decode cX3_nearest 66 = .ok (.iload 6, 2) := by decide +kernel
theorem dX3_nearest_68 : decode cX3_nearest 68 = .ok (.iload 4, 2) := by decide +kernel
theorem dX3_nearest_70 : decode cX3_nearest 70 = .ok (.if_icmp .le 10, 3) := by decide +kernel
theorem dX3_nearest_73 : decode cX3_nearest 73 = .ok (.iload 6, 2) := by decide +kernel
theorem dX3_nearest_75 : decode cX3_nearest 75 = .ok (.istore 4, 2) := by decide +kernel
theorem dX3_nearest_77 : decode cX3_nearest 77 = .ok (.iload 5, 2) := by decide +kernel
theorem dX3_nearest_79 : decode cX3_nearest 79 = .ok (.istore_n 3, 1) := by decide +kernel
theorem dX3_nearest_80 : decode cX3_nearest 80 = .ok (.iinc 5 1, 3) := by decide +kernel
theorem dX3_nearest_83 : decode cX3_nearest 83 = .ok (.goto (-49), 3) := by decide +kernel
theorem dX3_nearest_86 : decode cX3_nearest 86 = .ok (.iload_n 3, 1) := by decide +kernel
theorem dX3_nearest_87 : decode cX3_nearest 87 = .ok (.ireturn, 1) := by decide +kernel
set_option maxRecDepth 20000 in
theorem ggX3_links_X0_pairsHearing : GoodIn wsX3_links wsX0_pairsHearing := goodIn_r _ [6, 7, 8, 9, 10, 5, 11, 12, 13, 14, 15, 16, 17, 18, 19, 20, 21, 22, 23, 24, 25, 26, 27, 28, 29, 30, 31, 32, 33, 34, 35, 36, 37, 38, 39, 40, 41, 42, 43, 44, 45, 55, 56, 57, 58, 59, 60, 61, 62, 63, 64, 65, 66, 67] (by decide +kernel) (by decide +kernel)
set_option maxRecDepth 20000 in
theorem gX3_links_X0_pairsHearing : GoodIn wsX3_links (wsV RX3 180 RX0 yX0_pairsHearing wsX0_pairsHearing) := goodIn_app (goodIn_of _ (by decide +kernel)) ggX3_links_X0_pairsHearing
theorem dX3_links_0 : decode cX3_links 0 = .ok (.aload_n 0, 1) := by decide +kernel
theorem dX3_links_1 : decode cX3_links 1 = .ok (.getfield 10, 3) := by decide +kernel
theorem dX3_links_4 : decode cX3_links 4 = .ok (.invokevirtual 180, 3) := by decide +kernel
theorem dX3_links_7 : decode cX3_links 7 = .ok (.ireturn, 1) := by decide +kernel
set_option maxRecDepth 20000 in
theorem ggX3_bestSwap_X0_become : GoodIn wsX3_bestSwap wsX0_become := goodIn_r _ [8, 9, 10, 11, 12, 13, 14, 15, 16, 17, 18, 19, 20, 21, 22, 79, 80, 81, 82, 83, 84, 85, 86, 87, 88, 89, 90, 91] (by decide +kernel) (by decide +kernel)
set_option maxRecDepth 20000 in
theorem gX3_bestSwap_X0_become : GoodIn wsX3_bestSwap (wsV RX3 153 RX0 yX0_become wsX0_become) := goodIn_app (goodIn_of _ (by decide +kernel)) ggX3_bestSwap_X0_become
set_option maxRecDepth 20000 in
theorem ggX3_bestSwap_X0_exchangeSeats : GoodIn wsX3_bestSwap wsX0_exchangeSeats := goodIn_r _ [26, 15, 79, 80, 81, 82, 83, 84, 85, 86, 87, 88, 89, 90, 91] (by decide +kernel) (by decide +kernel)
set_option maxRecDepth 20000 in
theorem gX3_bestSwap_X0_exchangeSeats : GoodIn wsX3_bestSwap (wsV RX3 113 RX0 yX0_exchangeSeats wsX0_exchangeSeats) := goodIn_app (goodIn_of _ (by decide +kernel)) ggX3_bestSwap_X0_exchangeSeats
set_option maxRecDepth 20000 in
theorem ggX3_bestSwap_X0_pairsHearing : GoodIn wsX3_bestSwap wsX0_pairsHearing := goodIn_r _ [30, 20, 31, 32, 33, 7, 34, 35, 36, 37, 38, 18, 39, 40, 41, 42, 14, 43, 44, 45, 46, 16, 47, 48, 49, 50, 51, 52, 53, 54, 9, 55, 56, 57, 58, 15, 17, 59, 60, 61, 62, 79, 80, 81, 82, 83, 84, 85, 86, 87, 88, 89, 90, 91] (by decide +kernel) (by decide +kernel)
set_option maxRecDepth 20000 in
theorem gX3_bestSwap_X0_pairsHearing : GoodIn wsX3_bestSwap (wsV RX3 180 RX0 yX0_pairsHearing wsX0_pairsHearing) := goodIn_app (goodIn_of _ (by decide +kernel)) ggX3_bestSwap_X0_pairsHearing
set_option maxRecDepth 20000 in
theorem ggX3_bestSwap_X3_finding : GoodIn wsX3_bestSwap wsX3_finding := goodIn_r _ [67, 68, 69, 70, 71, 72, 73, 74, 75, 76, 77, 78] (by decide +kernel) (by decide +kernel)
set_option maxRecDepth 20000 in
theorem gX3_bestSwap_X3_finding : GoodIn wsX3_bestSwap (wsV RX3 54 RX3 yX3_finding wsX3_finding) := goodIn_app (goodIn_of _ (by decide +kernel)) ggX3_bestSwap_X3_finding
theorem dX3_bestSwap_0 : decode cX3_bestSwap 0 = .ok (.iconst (-1), 1) := by decide +kernel
theorem dX3_bestSwap_1 : decode cX3_bestSwap 1 = .ok (.istore_n 1, 1) := by decide +kernel
theorem dX3_bestSwap_2 : decode cX3_bestSwap 2 = .ok (.iconst (-1), 1) := by decide +kernel
theorem dX3_bestSwap_3 : decode cX3_bestSwap 3 = .ok (.istore_n 2, 1) := by decide +kernel
theorem dX3_bestSwap_4 : decode cX3_bestSwap 4 = .ok (.aload_n 0, 1) := by decide +kernel
theorem dX3_bestSwap_5 : decode cX3_bestSwap 5 = .ok (.getfield 16, 3) := by decide +kernel
theorem dX3_bestSwap_8 : decode cX3_bestSwap 8 = .ok (.aload_n 0, 1) := by decide +kernel
theorem dX3_bestSwap_9 : decode cX3_bestSwap 9 = .ok (.getfield 10, 3) := by decide +kernel
theorem dX3_bestSwap_12 : decode cX3_bestSwap 12 = .ok (.invokevirtual 153, 3) := by decide +kernel
theorem dX3_bestSwap_15 : decode cX3_bestSwap 15 = .ok (.iconst 0, 1) := by decide +kernel
theorem dX3_bestSwap_16 : decode cX3_bestSwap 16 = .ok (.istore_n 3, 1) := by decide +kernel
theorem dX3_bestSwap_17 : decode cX3_bestSwap 17 = .ok (.iload_n 3, 1) := by decide +kernel
theorem dX3_bestSwap_18 : decode cX3_bestSwap 18 = .ok (.aload_n 0, 1) := by decide +kernel
theorem dX3_bestSwap_19 : decode cX3_bestSwap 19 = .ok (.getfield 10, 3) := by decide +kernel
theorem dX3_bestSwap_22 : decode cX3_bestSwap 22 = .ok (.getfield 73, 3) := by decide +kernel
theorem dX3_bestSwap_25 : decode cX3_bestSwap 25 = .ok (.if_icmp .ge 78, 3) := by decide +kernel
theorem dX3_bestSwap_28 : decode cX3_bestSwap 28 = .ok (.iload_n 3, 1) := by decide +kernel
theorem dX3_bestSwap_29 : decode cX3_bestSwap 29 = .ok (.iconst 1, 1) := by decide +kernel
theorem dX3_bestSwap_30 : decode cX3_bestSwap 30 = .ok (.iadd, 1) := by decide +kernel
theorem dX3_bestSwap_31 : decode cX3_bestSwap 31 = .ok (.istore 4, 2) := by decide +kernel
theorem dX3_bestSwap_33 : decode cX3_bestSwap 33 = .ok (.iload 4, 2) := by decide +kernel
theorem dX3_bestSwap_35 : decode cX3_bestSwap 35 = .ok (.aload_n 0, 1) := by decide +kernel
theorem dX3_bestSwap_36 : decode cX3_bestSwap 36 = .ok (.getfield 10, 3) := by decide +kernel
theorem dX3_bestSwap_39 : decode cX3_bestSwap 39 = .ok (.getfield 73, 3) := by decide +kernel
theorem dX3_bestSwap_42 : decode cX3_bestSwap 42 = .ok (.if_icmp .ge 55, 3) := by decide +kernel
theorem dX3_bestSwap_45 : decode cX3_bestSwap 45 = .ok (.aload_n 0, 1) := by decide +kernel
theorem dX3_bestSwap_46 : decode cX3_bestSwap 46 = .ok (.getfield 16, 3) := by decide +kernel
theorem dX3_bestSwap_49 : decode cX3_bestSwap 49 = .ok (.iload_n 3, 1) := by decide +kernel
theorem dX3_bestSwap_50 : decode cX3_bestSwap 50 = .ok (.iload 4, 2) := by decide +kernel
theorem dX3_bestSwap_52 : decode cX3_bestSwap 52 = .ok (.invokevirtual 113, 3) := by decide +kernel
theorem dX3_bestSwap_55 : decode cX3_bestSwap 55 = .ok (.aload_n 0, 1) := by decide +kernel
theorem dX3_bestSwap_56 : decode cX3_bestSwap 56 = .ok (.getfield 16, 3) := by decide +kernel
theorem dX3_bestSwap_59 : decode cX3_bestSwap 59 = .ok (.invokevirtual 180, 3) := by decide +kernel
theorem dX3_bestSwap_62 : decode cX3_bestSwap 62 = .ok (.istore 5, 2) := by decide +kernel
theorem dX3_bestSwap_64 : decode cX3_bestSwap 64 = .ok (.aload_n 0, 1) := by decide +kernel
theorem dX3_bestSwap_65 : decode cX3_bestSwap 65 = .ok (.getfield 16, 3) := by decide +kernel
theorem dX3_bestSwap_68 : decode cX3_bestSwap 68 = .ok (.iload_n 3, 1) := by decide +kernel
theorem dX3_bestSwap_69 : decode cX3_bestSwap 69 = .ok (.iload 4, 2) := by decide +kernel
theorem dX3_bestSwap_71 : decode cX3_bestSwap 71 = .ok (.invokevirtual 113, 3) := by decide +kernel
theorem dX3_bestSwap_74 : decode cX3_bestSwap 74 = .ok (.iload 5, 2) := by decide +kernel
theorem dX3_bestSwap_76 : decode cX3_bestSwap 76 = .ok (.iload_n 2, 1) := by decide +kernel
theorem dX3_bestSwap_77 : decode cX3_bestSwap 77 = .ok (.if_icmp .le 14, 3) := by decide +kernel
theorem dX3_bestSwap_80 : decode cX3_bestSwap 80 = .ok (.iload 5, 2) := by decide +kernel
theorem dX3_bestSwap_82 : decode cX3_bestSwap 82 = .ok (.istore_n 2, 1) := by decide +kernel
theorem dX3_bestSwap_83 : decode cX3_bestSwap 83 = .ok (.bipush 8, 2) := by decide +kernel
theorem dX3_bestSwap_85 : decode cX3_bestSwap 85 = .ok (.iload_n 3, 1) := by decide +kernel
theorem dX3_bestSwap_86 : decode cX3_bestSwap 86 = .ok (.imul, 1) := by decide +kernel
theorem dX3_bestSwap_87 : decode cX3_bestSwap 87 = .ok (.iload 4, 2) := by decide +kernel
theorem dX3_bestSwap_89 : decode cX3_bestSwap 89 = .ok (.iadd, 1) := by decide +kernel
theorem dX3_bestSwap_90 : decode cX3_bestSwap 90 = .ok (.istore_n 1, 1) := by decide +kernel
theorem dX3_bestSwap_91 : decode cX3_bestSwap 91 = .ok (.iinc 4 1, 3) := by decide +kernel
theorem dX3_bestSwap_94 : decode cX3_bestSwap 94 = .ok (.goto (-61), 3) := by decide +kernel
theorem dX3_bestSwap_97 : decode cX3_bestSwap 97 = .ok (.iinc 3 1, 3) := by decide +kernel
theorem dX3_bestSwap_100 : decode cX3_bestSwap 100 = .ok (.goto (-83), 3) := by decide +kernel
theorem dX3_bestSwap_103 : decode cX3_bestSwap 103 = .ok (.iload_n 1, 1) := by decide +kernel
theorem dX3_bestSwap_104 : decode cX3_bestSwap 104 = .ok (.ifCond .ge 11, 3) := by decide +kernel
theorem dX3_bestSwap_107 : decode cX3_bestSwap 107 = .ok (.aload_n 0, 1) := by decide +kernel
theorem dX3_bestSwap_108 : decode cX3_bestSwap 108 = .ok (.iconst 3, 1) := by decide +kernel
theorem dX3_bestSwap_109 : decode cX3_bestSwap 109 = .ok (.invokevirtual 54, 3) := by decide +kernel
theorem dX3_bestSwap_112 : decode cX3_bestSwap 112 = .ok (.goto 4, 3) := by decide +kernel
theorem dX3_bestSwap_115 : decode cX3_bestSwap 115 = .ok (.iload_n 1, 1) := by decide +kernel
theorem dX3_bestSwap_116 : decode cX3_bestSwap 116 = .ok (.ireturn, 1) := by decide +kernel
set_option maxRecDepth 20000 in
theorem ggX3_loudFor_X3_isPlayer : GoodIn wsX3_loudFor wsX3_isPlayer := goodIn_r _ [11, 1, 12, 61, 62, 63, 64, 65, 66, 67, 68, 69, 70, 71, 72, 73, 74, 75, 76, 77, 78, 79, 80, 81, 82] (by decide +kernel) (by decide +kernel)
