theorem dX0_init_0 : decode cX0_init 0 = .ok (.aload_n 0, 1) := by decide +kernel
theorem dX0_init_1 : decode cX0_init 1 = .ok (.invokespecial 3, 3) := by decide +kernel
theorem dX0_init_4 : decode cX0_init 4 = .ok (.aload_n 0, 1) := by decide +kernel
theorem dX0_init_5 : decode cX0_init 5 = .ok (.bipush 12, 2) := by decide +kernel
theorem dX0_init_7 : decode cX0_init 7 = .ok (.newarray .int, 2) := by decide +kernel
theorem dX0_init_9 : decode cX0_init 9 = .ok (.putfield 9, 3) := by decide +kernel
theorem dX0_init_12 : decode cX0_init 12 = .ok (.aload_n 0, 1) := by decide +kernel
theorem dX0_init_13 : decode cX0_init 13 = .ok (.bipush 8, 2) := by decide +kernel
theorem dX0_init_15 : decode cX0_init 15 = .ok (.newarray .int, 2) := by decide +kernel
theorem dX0_init_17 : decode cX0_init 17 = .ok (.putfield 15, 3) := by decide +kernel
theorem dX0_init_20 : decode cX0_init 20 = .ok (.aload_n 0, 1) := by decide +kernel
theorem dX0_init_21 : decode cX0_init 21 = .ok (.bipush 8, 2) := by decide +kernel
theorem dX0_init_23 : decode cX0_init 23 = .ok (.newarray .int, 2) := by decide +kernel
theorem dX0_init_25 : decode cX0_init 25 = .ok (.putfield 18, 3) := by decide +kernel
theorem dX0_init_28 : decode cX0_init 28 = .ok (.aload_n 0, 1) := by decide +kernel
theorem dX0_init_29 : decode cX0_init 29 = .ok (.bipush 8, 2) := by decide +kernel
theorem dX0_init_31 : decode cX0_init 31 = .ok (.newarray .int, 2) := by decide +kernel
theorem dX0_init_33 : decode cX0_init 33 = .ok (.putfield 21, 3) := by decide +kernel
theorem dX0_init_36 : decode cX0_init 36 = .ok (.aload_n 0, 1) := by decide +kernel
theorem dX0_init_37 : decode cX0_init 37 = .ok (.bipush 8, 2) := by decide +kernel
theorem dX0_init_39 : decode cX0_init 39 = .ok (.newarray .int, 2) := by decide +kernel
theorem dX0_init_41 : decode cX0_init 41 = .ok (.putfield 24, 3) := by decide +kernel
theorem dX0_init_44 : decode cX0_init 44 = .ok (.aload_n 0, 1) := by decide +kernel
theorem dX0_init_45 : decode cX0_init 45 = .ok (.bipush 8, 2) := by decide +kernel
theorem dX0_init_47 : decode cX0_init 47 = .ok (.newarray .int, 2) := by decide +kernel
theorem dX0_init_49 : decode cX0_init 49 = .ok (.putfield 27, 3) := by decide +kernel
theorem dX0_init_52 : decode cX0_init 52 = .ok (.aload_n 0, 1) := by decide +kernel
theorem dX0_init_53 : decode cX0_init 53 = .ok (.bipush 10, 2) := by decide +kernel
theorem dX0_init_55 : decode cX0_init 55 = .ok (.newarray .int, 2) := by decide +kernel
theorem dX0_init_57 : decode cX0_init 57 = .ok (.putfield 30, 3) := by decide +kernel
theorem dX0_init_60 : decode cX0_init 60 = .ok (.aload_n 0, 1) := by decide +kernel
theorem dX0_init_61 : decode cX0_init 61 = .ok (.iconst 0, 1) := by decide +kernel
theorem dX0_init_62 : decode cX0_init 62 = .ok (.putfield 33, 3) := by decide +kernel
theorem dX0_init_65 : decode cX0_init 65 = .ok (.aload_n 0, 1) := by decide +kernel
theorem dX0_init_66 : decode cX0_init 66 = .ok (.iconst 0, 1) := by decide +kernel
theorem dX0_init_67 : decode cX0_init 67 = .ok (.putfield 37, 3) := by decide +kernel
theorem dX0_init_70 : decode cX0_init 70 = .ok (.aload_n 0, 1) := by decide +kernel
theorem dX0_init_71 : decode cX0_init 71 = .ok (.iconst 1, 1) := by decide +kernel
theorem dX0_init_72 : decode cX0_init 72 = .ok (.putfield 40, 3) := by decide +kernel
theorem dX0_init_75 : decode cX0_init 75 = .ok (.aload_n 0, 1) := by decide +kernel
theorem dX0_init_76 : decode cX0_init 76 = .ok (.bipush 8, 2) := by decide +kernel
theorem dX0_init_78 : decode cX0_init 78 = .ok (.newarray .int, 2) := by decide +kernel
theorem dX0_init_80 : decode cX0_init 80 = .ok (.putfield 43, 3) := by decide +kernel
theorem dX0_init_83 : decode cX0_init 83 = .ok (.aload_n 0, 1) := by decide +kernel
theorem dX0_init_84 : decode cX0_init 84 = .ok (.bipush 8, 2) := by decide +kernel
theorem dX0_init_86 : decode cX0_init 86 = .ok (.newarray .int, 2) := by decide +kernel
theorem dX0_init_88 : decode cX0_init 88 = .ok (.putfield 46, 3) := by decide +kernel
theorem dX0_init_91 : decode cX0_init 91 = .ok (.aload_n 0, 1) := by decide +kernel
theorem dX0_init_92 : decode cX0_init 92 = .ok (.bipush 8, 2) := by decide +kernel
theorem dX0_init_94 : decode cX0_init 94 = .ok (.newarray .int, 2) := by decide +kernel
theorem dX0_init_96 : decode cX0_init 96 = .ok (.putfield 49, 3) := by decide +kernel
theorem dX0_init_99 : decode cX0_init 99 = .ok (.iconst 0, 1) := by decide +kernel
theorem dX0_init_100 : decode cX0_init 100 = .ok (.istore_n 1, 1) := by decide +kernel
theorem dX0_init_101 : decode cX0_init 101 = .ok (.iload_n 1, 1) := by decide +kernel
theorem dX0_init_102 : decode cX0_init 102 = .ok (.bipush 12, 2) := by decide +kernel
theorem dX0_init_104 : decode cX0_init 104 = .ok (.if_icmp .ge 17, 3) := by decide +kernel
theorem dX0_init_107 : decode cX0_init 107 = .ok (.aload_n 0, 1) := by decide +kernel
theorem dX0_init_108 : decode cX0_init 108 = .ok (.getfield 9, 3) := by decide +kernel
theorem dX0_init_111 : decode cX0_init 111 = .ok (.iload_n 1, 1) := by decide +kernel
theorem dX0_init_112 : decode cX0_init 112 = .ok (.bipush 63, 2) := by decide +kernel
theorem dX0_init_114 : decode cX0_init 114 = .ok (.iastore, 1) := by decide +kernel
theorem dX0_init_115 : decode cX0_init 115 = .ok (.iinc 1 1, 3) := by decide +kernel
theorem dX0_init_118 : decode cX0_init 118 = .ok (.goto (-17), 3) := by decide +kernel
theorem dX0_init_121 : decode cX0_init 121 = .ok (.iconst 0, 1) := by decide +kernel
theorem dX0_init_122 : decode cX0_init 122 = .ok (.istore_n 1, 1) := by decide +kernel
theorem dX0_init_123 : decode cX0_init 123 = .ok (.iload_n 1, 1) := by decide +kernel
theorem dX0_init_124 : decode cX0_init 124 = .ok (.bipush 10, 2) := by decide +kernel
theorem dX0_init_126 : decode cX0_init 126 = .ok (.if_icmp .ge 16, 3) := by decide +kernel
theorem dX0_init_129 : decode cX0_init 129 = .ok (.aload_n 0, 1) := by decide +kernel
theorem dX0_init_130 : decode cX0_init 130 = .ok (.getfield 30, 3) := by decide +kernel
theorem dX0_init_133 : decode cX0_init 133 = .ok (.iload_n 1, 1) := by decide +kernel
theorem dX0_init_134 : decode cX0_init 134 = .ok (.iconst (-1), 1) := by decide +kernel
theorem dX0_init_135 : decode cX0_init 135 = .ok (.iastore, 1) := by decide +kernel
theorem dX0_init_136 : decode cX0_init 136 = .ok (.iinc 1 1, 3) := by decide +kernel
theorem dX0_init_139 : decode cX0_init 139 = .ok (.goto (-16), 3) := by decide +kernel
theorem dX0_init_142 : decode cX0_init 142 = .ok (.return_, 1) := by decide +kernel
theorem dX0_become_0 : decode cX0_become 0 = .ok (.aload_n 1, 1) := by decide +kernel
theorem dX0_become_1 : decode cX0_become 1 = .ok (.getfield 9, 3) := by decide +kernel
theorem dX0_become_4 : decode cX0_become 4 = .ok (.iconst 0, 1) := by decide +kernel
theorem dX0_become_5 : decode cX0_become 5 = .ok (.aload_n 0, 1) := by decide +kernel
theorem dX0_become_6 : decode cX0_become 6 = .ok (.getfield 9, 3) := by decide +kernel
theorem dX0_become_9 : decode cX0_become 9 = .ok (.iconst 0, 1) := by decide +kernel
theorem dX0_become_10 : decode cX0_become 10 = .ok (.bipush 12, 2) := by decide +kernel
theorem dX0_become_12 : decode cX0_become 12 = .ok (.invokestatic 52, 3) := by decide +kernel
theorem dX0_become_15 : decode cX0_become 15 = .ok (.aload_n 1, 1) := by decide +kernel
theorem dX0_become_16 : decode cX0_become 16 = .ok (.getfield 15, 3) := by decide +kernel
theorem dX0_become_19 : decode cX0_become 19 = .ok (.iconst 0, 1) := by decide +kernel
theorem dX0_become_20 : decode cX0_become 20 = .ok (.aload_n 0, 1) := by decide +kernel
theorem dX0_become_21 : decode cX0_become 21 = .ok (.getfield 15, 3) := by decide +kernel
theorem dX0_become_24 : decode cX0_become 24 = .ok (.iconst 0, 1) := by decide +kernel
theorem dX0_become_25 : decode cX0_become 25 = .ok (.bipush 8, 2) := by decide +kernel
theorem dX0_become_27 : decode cX0_become 27 = .ok (.invokestatic 52, 3) := by decide +kernel
theorem dX0_become_30 : decode cX0_become 30 = .ok (.aload_n 1, 1) := by decide +kernel
theorem dX0_become_31 : decode cX0_become 31 = .ok (.getfield 18, 3) := by decide +kernel
theorem dX0_become_34 : decode cX0_become 34 = .ok (.iconst 0, 1) := by decide +kernel
theorem dX0_become_35 : decode cX0_become 35 = .ok (.aload_n 0, 1) := by decide +kernel
theorem dX0_become_36 : decode cX0_become 36 = .ok (.getfield 18, 3) := by decide +kernel
theorem dX0_become_39 : decode cX0_become 39 = .ok (.iconst 0, 1) := by decide +kernel
theorem dX0_become_40 : decode cX0_become 40 = .ok (.bipush 8, 2) := by decide +kernel
theorem dX0_become_42 : decode cX0_become 42 = .ok (.invokestatic 52, 3) := by decide +kernel
theorem dX0_become_45 : decode cX0_become 45 = .ok (.aload_n 1, 1) := by decide +kernel
theorem dX0_become_46 : decode cX0_become 46 = .ok (.getfield 21, 3) := by decide +kernel
theorem dX0_become_49 : decode cX0_become 49 = .ok (.iconst 0, 1) := by decide +kernel
theorem dX0_become_50 : decode cX0_become 50 = .ok (.aload_n 0, 1) := by decide +kernel
theorem dX0_become_51 : decode cX0_become 51 = .ok (.getfield 21, 3) := by decide +kernel
theorem dX0_become_54 : decode cX0_become 54 = .ok (.iconst 0, 1) := by decide +kernel
theorem dX0_become_55 : decode cX0_become 55 = .ok (.bipush 8, 2) := by decide +kernel
theorem dX0_become_57 : decode cX0_become 57 = .ok (.invokestatic 52, 3) := by decide +kernel
theorem dX0_become_60 : decode cX0_become 60 = .ok (.aload_n 1, 1) := by decide +kernel
theorem dX0_become_61 : decode cX0_become 61 = .ok (.getfield 24, 3) := by decide +kernel
theorem dX0_become_64 : decode cX0_become 64 = .ok (.iconst 0, 1) := by decide +kernel
theorem dX0_become_65 : decode cX0_become 65 = .ok (.aload_n 0, 1) := by decide +kernel
theorem dX0_become_66 : decode cX0_become 66 = .ok (.getfield 24, 3) := by decide +kernel
theorem dX0_become_69 : decode cX0_become 69 = .ok (.iconst 0, 1) := by decide +kernel
theorem dX0_become_70 : decode cX0_become 70 = .ok (.bipush 8, 2) := by decide +kernel
theorem dX0_become_72 : decode cX0_become 72 = .ok (.invokestatic 52, 3) := by decide +kernel
theorem dX0_become_75 : decode cX0_become 75 = .ok (.aload_n 1, 1) := by decide +kernel
theorem dX0_become_76 : decode cX0_become 76 = .ok (.getfield 27, 3) := by decide +kernel
theorem dX0_become_79 : decode cX0_become 79 = .ok (.iconst 0, 1) := by decide +kernel
theorem dX0_become_80 : decode cX0_become 80 = .ok (.aload_n 0, 1) := by decide +kernel
theorem dX0_become_81 : decode cX0_become 81 = .ok (.getfield 27, 3) := by decide +kernel
theorem dX0_become_84 : decode cX0_become 84 = .ok (.iconst 0, 1) := by decide +kernel
theorem dX0_become_85 : decode cX0_become 85 = .ok (.bipush 8, 2) := by decide +kernel
theorem dX0_become_87 : decode cX0_become 87 = .ok (.invokestatic 52, 3) := by decide +kernel
theorem dX0_become_90 : decode cX0_become 90 = .ok (.aload_n 1, 1) := by decide +kernel
theorem dX0_become_91 : decode cX0_become 91 = .ok (.getfield 30, 3) := by decide +kernel
theorem dX0_become_94 : decode cX0_become 94 = .ok (.iconst 0, 1) := by decide +kernel
theorem dX0_become_95 : decode cX0_become 95 = .ok (.aload_n 0, 1) := by decide +kernel
theorem dX0_become_96 : decode cX0_become 96 = .ok (.getfield 30, 3) := by decide +kernel
theorem dX0_become_99 : decode cX0_become 99 = .ok (.iconst 0, 1) := by decide +kernel
theorem dX0_become_100 : decode cX0_become 100 = .ok (.bipush 10, 2) := by decide +kernel
theorem dX0_become_102 : decode cX0_become 102 = .ok (.invokestatic 52, 3) := by decide +kernel
theorem dX0_become_105 : decode cX0_become 105 = .ok (.aload_n 0, 1) := by decide +kernel
theorem dX0_become_106 : decode cX0_become 106 = .ok (.aload_n 1, 1) := by decide +kernel
theorem dX0_become_107 : decode cX0_become 107 = .ok (.getfield 33, 3) := by decide +kernel
theorem dX0_become_110 : decode cX0_become 110 = .ok (.putfield 33, 3) := by decide +kernel
theorem dX0_become_113 : decode cX0_become 113 = .ok (.aload_n 0, 1) := by decide +kernel
theorem dX0_become_114 : decode cX0_become 114 = .ok (.aload_n 1, 1) := by decide +kernel
theorem dX0_become_115 : decode cX0_become 115 = .ok (.getfield 37, 3) := by decide +kernel
theorem dX0_become_118 : decode cX0_become 118 = .ok (.putfield 37, 3) := by decide +kernel
theorem dX0_become_121 : decode cX0_become 121 = .ok (.aload_n 0, 1) := by decide +kernel
theorem dX0_become_122 : decode cX0_become 122 = .ok (.aload_n 1, 1) := by decide +kernel
theorem dX0_become_123 : decode cX0_become 123 = .ok (.getfield 40, 3) := by decide +kernel
theorem dX0_become_126 : decode cX0_become 126 = .ok (.putfield 40, 3) := by decide +kernel
theorem dX0_become_129 : decode cX0_become 129 = .ok (.return_, 1) := by decide +kernel
theorem dX0_engage_0 : decode cX0_engage 0 = .ok (.aload_n 0, 1) := by decide +kernel
theorem dX0_engage_1 : decode cX0_engage 1 = .ok (.getfield 33, 3) := by decide +kernel
theorem dX0_engage_4 : decode cX0_engage 4 = .ok (.bipush 8, 2) := by decide +kernel
theorem dX0_engage_6 : decode cX0_engage 6 = .ok (.if_icmp .lt 5, 3) := by decide +kernel
theorem dX0_engage_9 : decode cX0_engage 9 = .ok (.iconst (-1), 1) := by decide +kernel
theorem dX0_engage_10 : decode cX0_engage 10 = .ok (.ireturn, 1) := by decide +kernel
theorem dX0_engage_11 : decode cX0_engage 11 = .ok (.aload_n 0, 1) := by decide +kernel
theorem dX0_engage_12 : decode cX0_engage 12 = .ok (.getfield 33, 3) := by decide +kernel
theorem dX0_engage_15 : decode cX0_engage 15 = .ok (.istore_n 3, 1) := by decide +kernel
theorem dX0_engage_16 : decode cX0_engage 16 = .ok (.aload_n 0, 1) := by decide +kernel
theorem dX0_engage_17 : decode cX0_engage 17 = .ok (.getfield 15, 3) := by decide +kernel
theorem dX0_engage_20 : decode cX0_engage 20 = .ok (.iload_n 3, 1) := by decide +kernel
theorem dX0_engage_21 : decode cX0_engage 21 = .ok (.iload_n 1, 1) := by decide +kernel
theorem dX0_engage_22 : decode cX0_engage 22 = .ok (.iastore, 1) := by decide +kernel
theorem dX0_engage_23 : decode cX0_engage 23 = .ok (.aload_n 0, 1) := by decide +kernel
theorem dX0_engage_24 : decode cX0_engage 24 = .ok (.getfield 18, 3) := by decide +kernel
theorem dX0_engage_27 : decode cX0_engage 27 = .ok (.iload_n 3, 1) := by decide +kernel
theorem dX0_engage_28 : decode cX0_engage 28 = .ok (.iload_n 2, 1) := by decide +kernel
theorem dX0_engage_29 : decode cX0_engage 29 = .ok (.iastore, 1) := by decide +kernel
theorem dX0_engage_30 : decode cX0_engage 30 = .ok (.aload_n 0, 1) := by decide +kernel
theorem dX0_engage_31 : decode cX0_engage 31 = .ok (.getfield 21, 3) := by decide +kernel
theorem dX0_engage_34 : decode cX0_engage 34 = .ok (.iload_n 3, 1) := by decide +kernel
theorem dX0_engage_35 : decode cX0_engage 35 = .ok (.iconst 0, 1) := by decide +kernel
theorem dX0_engage_36 : decode cX0_engage 36 = .ok (.iastore, 1) := by decide +kernel
theorem dX0_engage_37 : decode cX0_engage 37 = .ok (.aload_n 0, 1) := by decide +kernel
theorem dX0_engage_38 : decode cX0_engage 38 = .ok (.getfield 24, 3) := by decide +kernel
theorem dX0_engage_41 : decode cX0_engage 41 = .ok (.iload_n 3, 1) := by decide +kernel
theorem dX0_engage_42 : decode cX0_engage 42 = .ok (.iconst 5, 1) := by decide +kernel
theorem dX0_engage_43 : decode cX0_engage 43 = .ok (.iastore, 1) := by decide +kernel
theorem dX0_engage_44 : decode cX0_engage 44 = .ok (.aload_n 0, 1) := by decide +kernel
theorem dX0_engage_45 : decode cX0_engage 45 = .ok (.getfield 27, 3) := by decide +kernel
theorem dX0_engage_48 : decode cX0_engage 48 = .ok (.iload_n 3, 1) := by decide +kernel
theorem dX0_engage_49 : decode cX0_engage 49 = .ok (.bipush 50, 2) := by decide +kernel
theorem dX0_engage_51 : decode cX0_engage 51 = .ok (.iastore, 1) := by decide +kernel
theorem dX0_engage_52 : decode cX0_engage 52 = .ok (.aload_n 0, 1) := by decide +kernel
theorem dX0_engage_53 : decode cX0_engage 53 = .ok (.dup, 1) := by decide +kernel
theorem dX0_engage_54 : decode cX0_engage 54 = .ok (.getfield 33, 3) := by decide +kernel
theorem dX0_engage_57 : decode cX0_engage 57 = .ok (.iconst 1, 1) := by decide +kernel
theorem dX0_engage_58 : decode cX0_engage 58 = .ok (.iadd, 1) := by decide +kernel
theorem dX0_engage_59 : decode cX0_engage 59 = .ok (.putfield 33, 3) := by decide +kernel
theorem dX0_engage_62 : decode cX0_engage 62 = .ok (.iload_n 3, 1) := by decide +kernel
theorem dX0_engage_63 : decode cX0_engage 63 = .ok (.ireturn, 1) := by decide +kernel
theorem dX0_exchangeSeats_0 : decode cX0_exchangeSeats 0 = .ok (.aload_n 0, 1) := by decide +kernel
theorem dX0_exchangeSeats_1 : decode cX0_exchangeSeats 1 = .ok (.getfield 18, 3) := by decide +kernel
theorem dX0_exchangeSeats_4 : decode cX0_exchangeSeats 4 = .ok (.iload_n 1, 1) := by decide +kernel
theorem dX0_exchangeSeats_5 : decode cX0_exchangeSeats 5 = .ok (.iaload, 1) := by decide +kernel
theorem dX0_exchangeSeats_6 : decode cX0_exchangeSeats 6 = .ok (.istore_n 3, 1) := by decide +kernel
theorem dX0_exchangeSeats_7 : decode cX0_exchangeSeats 7 = .ok (.aload_n 0, 1) := by decide +kernel
theorem dX0_exchangeSeats_8 : decode cX0_exchangeSeats 8 = .ok (.getfield 18, 3) := by decide +kernel
theorem dX0_exchangeSeats_11 : decode cX0_exchangeSeats 11 = .ok (.iload_n 1, 1) := by decide +kernel
theorem dX0_exchangeSeats_12 : decode cX0_exchangeSeats 12 = .ok (.aload_n 0, 1) := by decide +kernel
theorem dX0_exchangeSeats_13 : decode cX0_exchangeSeats 13 = .ok (.getfield 18, 3) := by decide +kernel
theorem dX0_exchangeSeats_16 : decode cX0_exchangeSeats 16 = .ok (.iload_n 2, 1) := by decide +kernel
theorem dX0_exchangeSeats_17 : decode cX0_exchangeSeats 17 = .ok (.iaload, 1) := by decide +kernel
theorem dX0_exchangeSeats_18 : decode cX0_exchangeSeats 18 = .ok (.iastore, 1) := by decide +kernel
theorem dX0_exchangeSeats_19 : decode cX0_exchangeSeats 19 = .ok (.aload_n 0, 1) := by decide +kernel
theorem dX0_exchangeSeats_20 : decode cX0_exchangeSeats 20 = .ok (.getfield 18, 3) := by decide +kernel
theorem dX0_exchangeSeats_23 : decode cX0_exchangeSeats 23 = .ok (.iload_n 2, 1) := by decide +kernel
theorem dX0_exchangeSeats_24 : decode cX0_exchangeSeats 24 = .ok (.iload_n 3, 1) := by decide +kernel
theorem dX0_exchangeSeats_25 : decode cX0_exchangeSeats 25 = .ok (.iastore, 1) := by decide +kernel
theorem dX0_exchangeSeats_26 : decode cX0_exchangeSeats 26 = .ok (.return_, 1) := by decide +kernel
theorem dX0_isOne_0 : decode cX0_isOne 0 = .ok (.aload_n 0, 1) := by decide +kernel
theorem dX0_isOne_1 : decode cX0_isOne 1 = .ok (.getfield 15, 3) := by decide +kernel
theorem dX0_isOne_4 : decode cX0_isOne 4 = .ok (.iload_n 1, 1) := by decide +kernel
theorem dX0_isOne_5 : decode cX0_isOne 5 = .ok (.iaload, 1) := by decide +kernel
theorem dX0_isOne_6 : decode cX0_isOne 6 = .ok (.istore_n 3, 1) := by decide +kernel
theorem dX0_isOne_7 : decode cX0_isOne 7 = .ok (.iconst 0, 1) := by decide +kernel
theorem dX0_isOne_8 : decode cX0_isOne 8 = .ok (.istore 4, 2) := by decide +kernel
theorem dX0_isOne_10 : decode cX0_isOne 10 = .ok (.iload 4, 2) := by decide +kernel
theorem dX0_isOne_12 : decode cX0_isOne 12 = .ok (.bipush 7, 2) := by decide +kernel
theorem dX0_isOne_14 : decode cX0_isOne 14 = .ok (.if_icmp .ge 32, 3) := by decide +kernel
theorem dX0_isOne_17 : decode cX0_isOne 17 = .ok (.iload_n 3, 1) := by decide +kernel
theorem dX0_isOne_18 : decode cX0_isOne 18 = .ok (.ifCond .lt 28, 3) := by decide +kernel
theorem dX0_isOne_21 : decode cX0_isOne 21 = .ok (.iload_n 3, 1) := by decide +kernel
theorem dX0_isOne_22 : decode cX0_isOne 22 = .ok (.bipush 7, 2) := by decide +kernel
theorem dX0_isOne_24 : decode cX0_isOne 24 = .ok (.if_icmp .ge 22, 3) := by decide +kernel
theorem dX0_isOne_27 : decode cX0_isOne 27 = .ok (.iload_n 3, 1) := by decide +kernel
theorem dX0_isOne_28 : decode cX0_isOne 28 = .ok (.iload_n 2, 1) := by decide +kernel
theorem dX0_isOne_29 : decode cX0_isOne 29 = .ok (.if_icmp .ne 5, 3) := by decide +kernel
theorem dX0_isOne_32 : decode cX0_isOne 32 = .ok (.iconst 1, 1) := by decide +kernel
theorem dX0_isOne_33 : decode cX0_isOne 33 = .ok (.ireturn, 1) := by decide +kernel
theorem dX0_isOne_34 : decode cX0_isOne 34 = .ok (.getstatic 58, 3) := by decide +kernel
theorem dX0_isOne_37 : decode cX0_isOne 37 = .ok (.iload_n 3, 1) := by decide +kernel
theorem dX0_isOne_38 : decode cX0_isOne 38 = .ok (.iaload, 1) := by decide +kernel
theorem dX0_isOne_39 : decode cX0_isOne 39 = .ok (.istore_n 3, 1) := by decide +kernel
theorem dX0_isOne_40 : decode cX0_isOne 40 = .ok (.iinc 4 1, 3) := by decide +kernel
theorem dX0_isOne_43 : decode cX0_isOne 43 = .ok (.goto (-33), 3) := by decide +kernel
theorem dX0_isOne_46 : decode cX0_isOne 46 = .ok (.iconst 0, 1) := by decide +kernel
theorem dX0_isOne_47 : decode cX0_isOne 47 = .ok (.ireturn, 1) := by decide +kernel
set_option maxRecDepth 20000 in
theorem ggX0_barsPlayed_X0_isBold : GoodIn wsX0_barsPlayed wsX0_isBold := goodIn_r _ [5, 6, 7, 8, 9, 4, 10, 11, 27, 28, 29, 30, 31, 32, 33, 34, 35, 36, 37, 38, 39] (by decide +kernel) (by decide +kernel)
set_option maxRecDepth 20000 in
theorem gX0_barsPlayed_X0_isBold : GoodIn wsX0_barsPlayed (wsV RX0 61 RX0 yX0_isBold wsX0_isBold) := goodIn_app (goodIn_of _ (by decide +kernel)) ggX0_barsPlayed_X0_isBold
set_option maxRecDepth 20000 in
theorem ggX0_barsPlayed_X0_barsWritten : GoodIn wsX0_barsPlayed wsX0_barsWritten := goodIn_r _ [15, 16, 7, 8, 9, 4, 10, 11, 17, 18, 19, 20, 21, 22, 23, 24, 25, 26, 27, 28, 29, 30, 31, 32, 33, 34, 35, 36, 37, 38, 39] (by decide +kernel) (by decide +kernel)
set_option maxRecDepth 20000 in
theorem gX0_barsPlayed_X0_barsWritten : GoodIn wsX0_barsPlayed (wsV RX0 65 RX0 yX0_barsWritten wsX0_barsWritten) := goodIn_app (goodIn_of _ (by decide +kernel)) ggX0_barsPlayed_X0_barsWritten
theorem dX0_barsPlayed_0 : decode cX0_barsPlayed 0 = .ok (.aload_n 0, 1) := by decide +kernel
theorem dX0_barsPlayed_1 : decode cX0_barsPlayed 1 = .ok (.iload_n 1, 1) := by decide +kernel
theorem dX0_barsPlayed_2 : decode cX0_barsPlayed 2 = .ok (.invokevirtual 61, 3) := by decide +kernel
theorem dX0_barsPlayed_5 : decode cX0_barsPlayed 5 = .ok (.ifCond .eq 9, 3) := by decide +kernel
theorem dX0_barsPlayed_8 : decode cX0_barsPlayed 8 = .ok (.sipush 4095, 3) := by decide +kernel
theorem dX0_barsPlayed_11 : decode cX0_barsPlayed 11 = .ok (.goto 8, 3) := by decide +kernel
theorem dX0_barsPlayed_14 : decode cX0_barsPlayed 14 = .ok (.aload_n 0, 1) := by decide +kernel
theorem dX0_barsPlayed_15 : decode cX0_barsPlayed 15 = .ok (.iload_n 1, 1) := by decide +kernel
theorem dX0_barsPlayed_16 : decode cX0_barsPlayed 16 = .ok (.invokevirtual 65, 3) := by decide +kernel
theorem dX0_barsPlayed_19 : decode cX0_barsPlayed 19 = .ok (.ireturn, 1) := by decide +kernel
set_option maxRecDepth 20000 in
theorem ggX0_isPlaying_X0_barsPlayed : GoodIn wsX0_isPlaying wsX0_barsPlayed := goodIn_r _ [5, 6, 7, 8, 4, 9, 10, 11, 12, 13, 14, 15, 16, 17, 18, 19, 20, 21, 22, 23, 24, 25, 26, 27, 28, 29, 30, 31, 32, 33, 34, 35, 36, 37, 38, 39, 40, 41, 42, 43] (by decide +kernel) (by decide +kernel)
set_option maxRecDepth 20000 in
theorem gX0_isPlaying_X0_barsPlayed : GoodIn wsX0_isPlaying (wsV RX0 69 RX0 yX0_barsPlayed wsX0_barsPlayed) := goodIn_app (goodIn_of _ (by decide +kernel)) ggX0_isPlaying_X0_barsPlayed
theorem dX0_isPlaying_0 : decode cX0_isPlaying 0 = .ok (.aload_n 0, 1) := by decide +kernel
theorem dX0_isPlaying_1 : decode cX0_isPlaying 1 = .ok (.iload_n 1, 1) := by decide +kernel
theorem dX0_isPlaying_2 : decode cX0_isPlaying 2 = .ok (.invokevirtual 69, 3) := by decide +kernel
theorem dX0_isPlaying_5 : decode cX0_isPlaying 5 = .ok (.iload_n 2, 1) := by decide +kernel
theorem dX0_isPlaying_6 : decode cX0_isPlaying 6 = .ok (.ishr, 1) := by decide +kernel
theorem dX0_isPlaying_7 : decode cX0_isPlaying 7 = .ok (.iconst 1, 1) := by decide +kernel
theorem dX0_isPlaying_8 : decode cX0_isPlaying 8 = .ok (.iand, 1) := by decide +kernel
theorem dX0_isPlaying_9 : decode cX0_isPlaying 9 = .ok (.ifCond .eq 7, 3) := by decide +kernel
theorem dX0_isPlaying_12 : decode cX0_isPlaying 12 = .ok (.iconst 1, 1) := by decide +kernel
theorem dX0_isPlaying_13 : decode cX0_isPlaying 13 = .ok (.goto 4, 3) := by decide +kernel
theorem dX0_isPlaying_16 : decode cX0_isPlaying 16 = .ok (.iconst 0, 1) := by decide +kernel
theorem dX0_isPlaying_17 : decode cX0_isPlaying 17 = .ok (.ireturn, 1) := by decide +kernel
set_option maxRecDepth 20000 in
theorem ggX0_playersIn_X0_isPlaying : GoodIn wsX0_playersIn wsX0_isPlaying := goodIn_r _ [6, 7, 8, 9, 5, 10, 11, 12, 13, 14, 15, 16, 17, 18, 19, 20, 21, 22, 23, 24, 25, 26, 27, 28, 29, 1, 30, 31, 32, 33, 34, 35, 36, 37, 38, 39, 40, 41, 42, 43, 44, 45, 46, 47] (by decide +kernel) (by decide +kernel)
set_option maxRecDepth 20000 in
theorem gX0_playersIn_X0_isPlaying : GoodIn wsX0_playersIn (wsV RX0 72 RX0 yX0_isPlaying wsX0_isPlaying) := goodIn_app (goodIn_of _ (by decide +kernel)) ggX0_playersIn_X0_isPlaying
theorem dX0_playersIn_0 : decode cX0_playersIn 0 = .ok (.iconst 0, 1) := by decide +kernel
theorem dX0_playersIn_1 : decode cX0_playersIn 1 = .ok (.istore_n 2, 1) := by decide +kernel
theorem dX0_playersIn_2 : decode cX0_playersIn 2 = .ok (.iconst 0, 1) := by decide +kernel
theorem dX0_playersIn_3 : decode cX0_playersIn 3 = .ok (.istore_n 3, 1) := by decide +kernel
theorem dX0_playersIn_4 : decode cX0_playersIn 4 = .ok (.iload_n 3, 1) := by decide +kernel
theorem dX0_playersIn_5 : decode cX0_playersIn 5 = .ok (.aload_n 0, 1) := by decide +kernel
theorem dX0_playersIn_6 : decode cX0_playersIn 6 = .ok (.getfield 33, 3) := by decide +kernel
theorem dX0_playersIn_9 : decode cX0_playersIn 9 = .ok (.if_icmp .ge 24, 3) := by decide +kernel
theorem dX0_playersIn_12 : decode cX0_playersIn 12 = .ok (.aload_n 0, 1) := by decide +kernel
theorem dX0_playersIn_13 : decode cX0_playersIn 13 = .ok (.iload_n 3, 1) := by decide +kernel
theorem dX0_playersIn_14 : decode cX0_playersIn 14 = .ok (.iload_n 1, 1) := by decide +kernel
theorem dX0_playersIn_15 : decode cX0_playersIn 15 = .ok (.invokevirtual 72, 3) := by decide +kernel
theorem dX0_playersIn_18 : decode cX0_playersIn 18 = .ok (.ifCond .eq 9, 3) := by decide +kernel
theorem dX0_playersIn_21 : decode cX0_playersIn 21 = .ok (.iload_n 2, 1) := by decide +kernel
theorem dX0_playersIn_22 : decode cX0_playersIn 22 = .ok (.iconst 1, 1) := by decide +kernel
theorem dX0_playersIn_23 : decode cX0_playersIn 23 = .ok (.iload_n 3, 1) := by decide +kernel
theorem dX0_playersIn_24 : decode cX0_playersIn 24 = .ok (.ishl, 1) := by decide +kernel
theorem dX0_playersIn_25 : decode cX0_playersIn 25 = .ok (.ior, 1) := by decide +kernel
theorem dX0_playersIn_26 : decode cX0_playersIn 26 = .ok (.istore_n 2, 1) := by decide +kernel
theorem dX0_playersIn_27 : decode cX0_playersIn 27 = .ok (.iinc 3 1, 3) := by decide +kernel
theorem dX0_playersIn_30 : decode cX0_playersIn 30 = .ok (.goto (-26), 3) := by decide +kernel
theorem dX0_playersIn_33 : decode cX0_playersIn 33 = .ok (.iload_n 2, 1) := by decide +kernel
theorem dX0_playersIn_34 : decode cX0_playersIn 34 = .ok (.ireturn, 1) := by decide +kernel
set_option maxRecDepth 20000 in
theorem ggX0_isBold_X0_isOne : GoodIn wsX0_isBold wsX0_isOne := goodIn_r _ [6, 7, 8, 9, 10, 11, 12, 13, 14, 15, 16, 17, 18, 19, 20] (by decide +kernel) (by decide +kernel)
set_option maxRecDepth 20000 in
theorem gX0_isBold_X0_isOne : GoodIn wsX0_isBold (wsV RX0 76 RX0 yX0_isOne wsX0_isOne) := goodIn_app (goodIn_of _ (by decide +kernel)) ggX0_isBold_X0_isOne
theorem dX0_isBold_0 : decode cX0_isBold 0 = .ok (.aload_n 0, 1) := by decide +kernel
theorem dX0_isBold_1 : decode cX0_isBold 1 = .ok (.getfield 27, 3) := by decide +kernel
theorem dX0_isBold_4 : decode cX0_isBold 4 = .ok (.iload_n 1, 1) := by decide +kernel
theorem dX0_isBold_5 : decode cX0_isBold 5 = .ok (.iaload, 1) := by decide +kernel
theorem dX0_isBold_6 : decode cX0_isBold 6 = .ok (.bipush 80, 2) := by decide +kernel
theorem dX0_isBold_8 : decode cX0_isBold 8 = .ok (.if_icmp .lt 16, 3) := by decide +kernel
theorem dX0_isBold_11 : decode cX0_isBold 11 = .ok (.aload_n 0, 1) := by decide +kernel
theorem dX0_isBold_12 : decode cX0_isBold 12 = .ok (.iload_n 1, 1) := by decide +kernel
theorem dX0_isBold_13 : decode cX0_isBold 13 = .ok (.iconst 4, 1) := by decide +kernel
theorem dX0_isBold_14 : decode cX0_isBold 14 = .ok (.invokevirtual 76, 3) := by decide +kernel
theorem dX0_isBold_17 : decode cX0_isBold 17 = .ok (.ifCond .eq 7, 3) := by decide +kernel
theorem dX0_isBold_20 : decode cX0_isBold 20 = .ok (.iconst 1, 1) := by decide +kernel
theorem dX0_isBold_21 : decode cX0_isBold 21 = .ok (.goto 4, 3) := by decide +kernel
theorem dX0_isBold_24 : decode cX0_isBold 24 = .ok (.iconst 0, 1) := by decide +kernel
theorem dX0_isBold_25 : decode cX0_isBold 25 = .ok (.ireturn, 1) := by decide +kernel
set_option maxRecDepth 20000 in
theorem ggX0_barsWritten_X0_isOne : GoodIn wsX0_barsWritten wsX0_isOne := goodIn_r _ [6, 7, 18, 19, 20, 21, 22, 23, 24, 25, 26, 27, 28, 29, 30] (by decide +kernel) (by decide +kernel)
set_option maxRecDepth 20000 in
theorem gX0_barsWritten_X0_isOne : GoodIn wsX0_barsWritten (wsV RX0 76 RX0 yX0_isOne wsX0_isOne) := goodIn_app (goodIn_of _ (by decide +kernel)) ggX0_barsWritten_X0_isOne
set_option maxRecDepth 20000 in
theorem ggX0_barsWritten_X0_hasOtherOfFirstPart : GoodIn wsX0_barsWritten wsX0_hasOtherOfFirstPart := goodIn_r _ [11, 12, 1, 18, 19, 20, 21, 22, 23, 24, 25, 26, 27, 28, 29, 30] (by decide +kernel) (by decide +kernel)
set_option maxRecDepth 20000 in
theorem gX0_barsWritten_X0_hasOtherOfFirstPart : GoodIn wsX0_barsWritten (wsV RX0 79 RX0 yX0_hasOtherOfFirstPart wsX0_hasOtherOfFirstPart) := goodIn_app (goodIn_of _ (by decide +kernel)) ggX0_barsWritten_X0_hasOtherOfFirstPart
set_option maxRecDepth 20000 in
theorem ggX0_barsWritten_X0_barsWith : GoodIn wsX0_barsWritten wsX0_barsWith := goodIn_r _ [16, 17, 18, 19, 20, 21, 22, 23, 24, 25, 26, 27, 28, 29, 30] (by decide +kernel) (by decide +kernel)
set_option maxRecDepth 20000 in
theorem gX0_barsWritten_X0_barsWith : GoodIn wsX0_barsWritten (wsV RX0 82 RX0 yX0_barsWith wsX0_barsWith) := goodIn_app (goodIn_of _ (by decide +kernel)) ggX0_barsWritten_X0_barsWith
theorem dX0_barsWritten_0 : decode cX0_barsWritten 0 = .ok (.aload_n 0, 1) := by decide +kernel
theorem dX0_barsWritten_1 : decode cX0_barsWritten 1 = .ok (.iload_n 1, 1) := by decide +kernel
theorem dX0_barsWritten_2 : decode cX0_barsWritten 2 = .ok (.iconst 3, 1) := by decide +kernel
theorem dX0_barsWritten_3 : decode cX0_barsWritten 3 = .ok (.invokevirtual 76, 3) := by decide +kernel
theorem dX0_barsWritten_6 : decode cX0_barsWritten 6 = .ok (.ifCond .eq 13, 3) := by decide +kernel
theorem dX0_barsWritten_9 : decode cX0_barsWritten 9 = .ok (.aload_n 0, 1) := by decide +kernel
theorem dX0_barsWritten_10 : decode cX0_barsWritten 10 = .ok (.iload_n 1, 1) := by decide +kernel
theorem dX0_barsWritten_11 : decode cX0_barsWritten 11 = .ok (.invokevirtual 79, 3) := by decide +kernel
theorem dX0_barsWritten_14 : decode cX0_barsWritten 14 = .ok (.ifCond .ne 5, 3) := by decide +kernel
theorem dX0_barsWritten_17 : decode cX0_barsWritten 17 = .ok (.iconst 0, 1) := by decide +kernel
theorem dX0_barsWritten_18 : decode cX0_barsWritten 18 = .ok (.ireturn, 1) := by decide +kernel
theorem dX0_barsWritten_19 : decode cX0_barsWritten 19 = .ok (.aload_n 0, 1) := by decide +kernel
theorem dX0_barsWritten_20 : decode cX0_barsWritten 20 = .ok (.aload_n 0, 1) := by decide +kernel
theorem dX0_barsWritten_21 : decode cX0_barsWritten 21 = .ok (.getfield 21, 3) := by decide +kernel
theorem dX0_barsWritten_24 : decode cX0_barsWritten 24 = .ok (.iload_n 1, 1) := by decide +kernel
theorem dX0_barsWritten_25 : decode cX0_barsWritten 25 = .ok (.iaload, 1) := by decide +kernel
theorem dX0_barsWritten_26 : decode cX0_barsWritten 26 = .ok (.invokevirtual 82, 3) := by decide +kernel
theorem dX0_barsWritten_29 : decode cX0_barsWritten 29 = .ok (.istore_n 2, 1) := by decide +kernel
theorem dX0_barsWritten_30 : decode cX0_barsWritten 30 = .ok (.aload_n 0, 1) := by decide +kernel
theorem dX0_barsWritten_31 : decode cX0_barsWritten 31 = .ok (.iload_n 1, 1) := by decide +kernel
theorem dX0_barsWritten_32 : decode cX0_barsWritten 32 = .ok (.iconst 2, 1) := by decide +kernel
theorem dX0_barsWritten_33 : decode cX0_barsWritten 33 = .ok (.invokevirtual 76, 3) := by decide +kernel
theorem dX0_barsWritten_36 : decode cX0_barsWritten 36 = .ok (.ifCond .eq 21, 3) := by decide +kernel
theorem dX0_barsWritten_39 : decode cX0_barsWritten 39 = .ok (.iload_n 2, 1) := by decide +kernel
theorem dX0_barsWritten_40 : decode cX0_barsWritten 40 = .ok (.aload_n 0, 1) := by decide +kernel
theorem dX0_barsWritten_41 : decode cX0_barsWritten 41 = .ok (.aload_n 0, 1) := by decide +kernel
theorem dX0_barsWritten_42 : decode cX0_barsWritten 42 = .ok (.getfield 21, 3) := by decide +kernel
theorem dX0_barsWritten_45 : decode cX0_barsWritten 45 = .ok (.iload_n 1, 1) := by decide +kernel
theorem dX0_barsWritten_46 : decode cX0_barsWritten 46 = .ok (.iaload, 1) := by decide +kernel
theorem dX0_barsWritten_47 : decode cX0_barsWritten 47 = .ok (.iconst 1, 1) := by decide +kernel
theorem dX0_barsWritten_48 : decode cX0_barsWritten 48 = .ok (.iadd, 1) := by decide +kernel
theorem dX0_barsWritten_49 : decode cX0_barsWritten 49 = .ok (.bipush 6, 2) := by decide +kernel
theorem dX0_barsWritten_51 : decode cX0_barsWritten 51 = .ok (.irem, 1) := by decide +kernel
theorem dX0_barsWritten_52 : decode cX0_barsWritten 52 = .ok (.invokevirtual 82, 3) := by decide +kernel
theorem dX0_barsWritten_55 : decode cX0_barsWritten 55 = .ok (.ior, 1) := by decide +kernel
theorem dX0_barsWritten_56 : decode cX0_barsWritten 56 = .ok (.istore_n 2, 1) := by decide +kernel
theorem dX0_barsWritten_57 : decode cX0_barsWritten 57 = .ok (.aload_n 0, 1) := by decide +kernel
theorem dX0_barsWritten_58 : decode cX0_barsWritten 58 = .ok (.iload_n 1, 1) := by decide +kernel
theorem dX0_barsWritten_59 : decode cX0_barsWritten 59 = .ok (.iconst 1, 1) := by decide +kernel
theorem dX0_barsWritten_60 : decode cX0_barsWritten 60 = .ok (.invokevirtual 76, 3) := by decide +kernel
theorem dX0_barsWritten_63 : decode cX0_barsWritten 63 = .ok (.ifCond .eq 9, 3) := by decide +kernel
theorem dX0_barsWritten_66 : decode cX0_barsWritten 66 = .ok (.iload_n 2, 1) := by decide +kernel
theorem dX0_barsWritten_67 : decode cX0_barsWritten 67 = .ok (.sipush 4088, 3) := by decide +kernel
theorem dX0_barsWritten_70 : decode cX0_barsWritten 70 = .ok (.iand, 1) := by decide +kernel
theorem dX0_barsWritten_71 : decode cX0_barsWritten 71 = .ok (.istore_n 2, 1) := by decide +kernel
theorem dX0_barsWritten_72 : decode cX0_barsWritten 72 = .ok (.aload_n 0, 1) := by decide +kernel
theorem dX0_barsWritten_73 : decode cX0_barsWritten 73 = .ok (.iload_n 1, 1) := by decide +kernel
theorem dX0_barsWritten_74 : decode cX0_barsWritten 74 = .ok (.bipush 6, 2) := by decide +kernel
theorem dX0_barsWritten_76 : decode cX0_barsWritten 76 = .ok (.invokevirtual 76, 3) := by decide +kernel
theorem dX0_barsWritten_79 : decode cX0_barsWritten 79 = .ok (.ifCond .eq 9, 3) := by decide +kernel
theorem dX0_barsWritten_82 : decode cX0_barsWritten 82 = .ok (.iload_n 2, 1) := by decide +kernel
theorem dX0_barsWritten_83 : decode cX0_barsWritten 83 = .ok (.sipush 2730, 3) := by decide +kernel
theorem dX0_barsWritten_86 : decode cX0_barsWritten 86 = .ok (.iand, 1) := by decide +kernel
theorem dX0_barsWritten_87 : decode cX0_barsWritten 87 = .ok (.istore_n 2, 1) := by decide +kernel
theorem dX0_barsWritten_88 : decode cX0_barsWritten 88 = .ok (.iload_n 2, 1) := by decide +kernel
theorem dX0_barsWritten_89 : decode cX0_barsWritten 89 = .ok (.ireturn, 1) := by decide +kernel
theorem dX0_barsWith_0 : decode cX0_barsWith 0 = .ok (.iconst 0, 1) := by decide +kernel
theorem dX0_barsWith_1 : decode cX0_barsWith 1 = .ok (.istore_n 2, 1) := by decide +kernel
theorem dX0_barsWith_2 : decode cX0_barsWith 2 = .ok (.iconst 0, 1) := by decide +kernel
theorem dX0_barsWith_3 : decode cX0_barsWith 3 = .ok (.istore_n 3, 1) := by decide +kernel
theorem dX0_barsWith_4 : decode cX0_barsWith 4 = .ok (.iload_n 3, 1) := by decide +kernel
theorem dX0_barsWith_5 : decode cX0_barsWith 5 = .ok (.bipush 12, 2) := by decide +kernel
theorem dX0_barsWith_7 : decode cX0_barsWith 7 = .ok (.if_icmp .ge 28, 3) := by decide +kernel
theorem dX0_barsWith_10 : decode cX0_barsWith 10 = .ok (.aload_n 0, 1) := by decide +kernel
theorem dX0_barsWith_11 : decode cX0_barsWith 11 = .ok (.getfield 9, 3) := by decide +kernel
theorem dX0_barsWith_14 : decode cX0_barsWith 14 = .ok (.iload_n 3, 1) := by decide +kernel
theorem dX0_barsWith_15 : decode cX0_barsWith 15 = .ok (.iaload, 1) := by decide +kernel
theorem dX0_barsWith_16 : decode cX0_barsWith 16 = .ok (.iload_n 1, 1) := by decide +kernel
theorem dX0_barsWith_17 : decode cX0_barsWith 17 = .ok (.ishr, 1) := by decide +kernel
theorem dX0_barsWith_18 : decode cX0_barsWith 18 = .ok (.iconst 1, 1) := by decide +kernel
theorem dX0_barsWith_19 : decode cX0_barsWith 19 = .ok (.iand, 1) := by decide +kernel
theorem dX0_barsWith_20 : decode cX0_barsWith 20 = .ok (.ifCond .eq 9, 3) := by decide +kernel
theorem dX0_barsWith_23 : decode cX0_barsWith 23 = .ok (.iload_n 2, 1) := by decide +kernel
theorem dX0_barsWith_24 : decode cX0_barsWith 24 = .ok (.iconst 1, 1) := by decide +kernel
theorem dX0_barsWith_25 : decode cX0_barsWith 25 = .ok (.iload_n 3, 1) := by decide +kernel
theorem dX0_barsWith_26 : decode cX0_barsWith 26 = .ok (.ishl, 1) := by decide +kernel
theorem dX0_barsWith_27 : decode cX0_barsWith 27 = .ok (.ior, 1) := by decide +kernel
theorem dX0_barsWith_28 : decode cX0_barsWith 28 = .ok (.istore_n 2, 1) := by decide +kernel
theorem dX0_barsWith_29 : decode cX0_barsWith 29 = .ok (.iinc 3 1, 3) := by decide +kernel
theorem dX0_barsWith_32 : decode cX0_barsWith 32 = .ok (.goto (-28), 3) := by decide +kernel
theorem dX0_barsWith_35 : decode cX0_barsWith 35 = .ok (.iload_n 2, 1) := by decide +kernel
theorem dX0_barsWith_36 : decode cX0_barsWith 36 = .ok (.ireturn, 1) := by decide +kernel
theorem dX0_hasOtherOfFirstPart_0 : decode cX0_hasOtherOfFirstPart 0 = .ok (.iconst 0, 1) := by decide +kernel
theorem dX0_hasOtherOfFirstPart_1 : decode cX0_hasOtherOfFirstPart 1 = .ok (.istore_n 2, 1) := by decide +kernel
theorem dX0_hasOtherOfFirstPart_2 : decode cX0_hasOtherOfFirstPart 2 = .ok (.iload_n 2, 1) := by decide +kernel
theorem dX0_hasOtherOfFirstPart_3 : decode cX0_hasOtherOfFirstPart 3 = .ok (.aload_n 0, 1) := by decide +kernel
theorem dX0_hasOtherOfFirstPart_4 : decode cX0_hasOtherOfFirstPart 4 = .ok (.getfield 33, 3) := by decide +kernel
theorem dX0_hasOtherOfFirstPart_7 : decode cX0_hasOtherOfFirstPart 7 = .ok (.if_icmp .ge 25, 3) := by decide +kernel
theorem dX0_hasOtherOfFirstPart_10 : decode cX0_hasOtherOfFirstPart 10 = .ok (.iload_n 2, 1) := by decide +kernel
theorem dX0_hasOtherOfFirstPart_11 : decode cX0_hasOtherOfFirstPart 11 = .ok (.iload_n 1, 1) := by decide +kernel
theorem dX0_hasOtherOfFirstPart_12 : decode cX0_hasOtherOfFirstPart 12 = .ok (.if_icmp .eq 14, 3) := by decide +kernel
theorem dX0_hasOtherOfFirstPart_15 : decode cX0_hasOtherOfFirstPart 15 = .ok (.aload_n 0, 1) := by decide +kernel
theorem dX0_hasOtherOfFirstPart_16 : decode cX0_hasOtherOfFirstPart 16 = .ok (.getfield 21, 3) := by decide +kernel
theorem dX0_hasOtherOfFirstPart_19 : decode cX0_hasOtherOfFirstPart 19 = .ok (.iload_n 2, 1) := by decide +kernel
theorem dX0_hasOtherOfFirstPart_20 : decode cX0_hasOtherOfFirstPart 20 = .ok (.iaload, 1) := by decide +kernel
theorem dX0_hasOtherOfFirstPart_21 : decode cX0_hasOtherOfFirstPart 21 = .ok (.ifCond .ne 5, 3) := by decide +kernel
theorem dX0_hasOtherOfFirstPart_24 : decode cX0_hasOtherOfFirstPart 24 = .ok (.iconst 1, 1) := by decide +kernel
theorem dX0_hasOtherOfFirstPart_25 : decode cX0_hasOtherOfFirstPart 25 = .ok (.ireturn, 1) := by decide +kernel
theorem dX0_hasOtherOfFirstPart_26 : decode cX0_hasOtherOfFirstPart 26 = .ok (.iinc 2 1, 3) := by decide +kernel
theorem dX0_hasOtherOfFirstPart_29 : decode cX0_hasOtherOfFirstPart 29 = .ok (.goto (-27), 3) := by decide +kernel
theorem dX0_hasOtherOfFirstPart_32 : decode cX0_hasOtherOfFirstPart 32 = .ok (.iconst 0, 1) := by decide +kernel
theorem dX0_hasOtherOfFirstPart_33 : decode cX0_hasOtherOfFirstPart 33 = .ok (.ireturn, 1) := by decide +kernel
theorem dX0_loudness_0 : decode cX0_loudness 0 = .ok (.iconst 0, 1) := by decide +kernel
theorem dX0_loudness_1 : decode cX0_loudness 1 = .ok (.aload_n 0, 1) := by decide +kernel
theorem dX0_loudness_2 : decode cX0_loudness 2 = .ok (.getfield 24, 3) := by decide +kernel
theorem dX0_loudness_5 : decode cX0_loudness 5 = .ok (.iload_n 1, 1) := by decide +kernel
theorem dX0_loudness_6 : decode cX0_loudness 6 = .ok (.iaload, 1) := by decide +kernel
theorem dX0_loudness_7 : decode cX0_loudness 7 = .ok (.aload_n 0, 1) := by decide +kernel
theorem dX0_loudness_8 : decode cX0_loudness 8 = .ok (.getfield 18, 3) := by decide +kernel
theorem dX0_loudness_11 : decode cX0_loudness 11 = .ok (.iload_n 1, 1) := by decide +kernel
theorem dX0_loudness_12 : decode cX0_loudness 12 = .ok (.iaload, 1) := by decide +kernel
theorem dX0_loudness_13 : decode cX0_loudness 13 = .ok (.iload_n 2, 1) := by decide +kernel
theorem dX0_loudness_14 : decode cX0_loudness 14 = .ok (.isub, 1) := by decide +kernel
theorem dX0_loudness_15 : decode cX0_loudness 15 = .ok (.invokestatic 85, 3) := by decide +kernel
theorem dX0_loudness_18 : decode cX0_loudness 18 = .ok (.isub, 1) := by decide +kernel
theorem dX0_loudness_19 : decode cX0_loudness 19 = .ok (.invokestatic 90, 3) := by decide +kernel
theorem dX0_loudness_22 : decode cX0_loudness 22 = .ok (.ireturn, 1) := by decide +kernel
set_option maxRecDepth 20000 in
theorem ggX0_greatest_X0_loudness : GoodIn wsX0_greatest wsX0_loudness := goodIn_r _ [10, 11, 12, 13, 14, 4, 15, 2, 3, 5, 16, 17, 18, 19, 20, 21, 22, 23, 24, 25, 26, 27, 28] (by decide +kernel) (by decide +kernel)
set_option maxRecDepth 20000 in
theorem gX0_greatest_X0_loudness : GoodIn wsX0_greatest (wsV RX0 94 RX0 yX0_loudness wsX0_loudness) := goodIn_app (goodIn_of _ (by decide +kernel)) ggX0_greatest_X0_loudness
theorem dX0_greatest_0 : decode cX0_greatest 0 = .ok (.iconst 0, 1) := by decide +kernel
theorem dX0_greatest_1 : decode cX0_greatest 1 = .ok (.istore_n 3, 1) := by decide +kernel
theorem dX0_greatest_2 : decode cX0_greatest 2 = .ok (.iconst 0, 1) := by decide +kernel
theorem dX0_greatest_3 : decode cX0_greatest 3 = .ok (.istore 4, 2) := by decide +kernel
theorem dX0_greatest_5 : decode cX0_greatest 5 = .ok (.iload 4, 2) := by decide +kernel
theorem dX0_greatest_7 : decode cX0_greatest 7 = .ok (.aload_n 0, 1) := by decide +kernel
theorem dX0_greatest_8 : decode cX0_greatest 8 = .ok (.getfield 33, 3) := by decide +kernel
theorem dX0_greatest_11 : decode cX0_greatest 11 = .ok (.if_icmp .ge 30, 3) := by decide +kernel
theorem dX0_greatest_14 : decode cX0_greatest 14 = .ok (.iload_n 2, 1) := by decide +kernel
theorem dX0_greatest_15 : decode cX0_greatest 15 = .ok (.iload 4, 2) := by decide +kernel
theorem dX0_greatest_17 : decode cX0_greatest 17 = .ok (.ishr, 1) := by decide +kernel
theorem dX0_greatest_18 : decode cX0_greatest 18 = .ok (.iconst 1, 1) := by decide +kernel
theorem dX0_greatest_19 : decode cX0_greatest 19 = .ok (.iand, 1) := by decide +kernel
theorem dX0_greatest_20 : decode cX0_greatest 20 = .ok (.ifCond .eq 15, 3) := by decide +kernel
theorem dX0_greatest_23 : decode cX0_greatest 23 = .ok (.iload_n 3, 1) := by decide +kernel
theorem dX0_greatest_24 : decode cX0_greatest 24 = .ok (.aload_n 0, 1) := by decide +kernel
theorem dX0_greatest_25 : decode cX0_greatest 25 = .ok (.iload 4, 2) := by decide +kernel
theorem dX0_greatest_27 : decode cX0_greatest 27 = .ok (.iload_n 1, 1) := by decide +kernel
theorem dX0_greatest_28 : decode cX0_greatest 28 = .ok (.invokevirtual 94, 3) := by decide +kernel
theorem dX0_greatest_31 : decode cX0_greatest 31 = .ok (.invokestatic 90, 3) := by decide +kernel
theorem dX0_greatest_34 : decode cX0_greatest 34 = .ok (.istore_n 3, 1) := by decide +kernel
theorem dX0_greatest_35 : decode cX0_greatest 35 = .ok (.iinc 4 1, 3) := by decide +kernel
theorem dX0_greatest_38 : decode cX0_greatest 38 = .ok (.goto (-33), 3) := by decide +kernel
theorem dX0_greatest_41 : decode cX0_greatest 41 = .ok (.iload_n 3, 1) := by decide +kernel
theorem dX0_greatest_42 : decode cX0_greatest 42 = .ok (.ireturn, 1) := by decide +kernel
set_option maxRecDepth 20000 in
theorem ggX0_loudest_X0_greatest : GoodIn wsX0_loudest wsX0_greatest := goodIn_r _ [6, 1, 7, 8, 9, 10, 11, 12, 13, 5, 14, 15, 16, 17, 18, 19, 20, 21, 22, 23, 24, 25, 26, 27, 28, 29, 30, 31, 32] (by decide +kernel) (by decide +kernel)
set_option maxRecDepth 20000 in
theorem gX0_loudest_X0_greatest : GoodIn wsX0_loudest (wsV RX0 97 RX0 yX0_greatest wsX0_greatest) := goodIn_app (goodIn_of _ (by decide +kernel)) ggX0_loudest_X0_greatest
set_option maxRecDepth 20000 in
theorem ggX0_loudest_X0_loudness : GoodIn wsX0_loudest wsX0_loudness := goodIn_r _ [14, 15, 16, 17, 18, 9, 19, 7, 8, 10, 20, 21, 22, 23, 24, 25, 26, 27, 28, 29, 30, 31, 32] (by decide +kernel) (by decide +kernel)
set_option maxRecDepth 20000 in
theorem gX0_loudest_X0_loudness : GoodIn wsX0_loudest (wsV RX0 94 RX0 yX0_loudness wsX0_loudness) := goodIn_app (goodIn_of _ (by decide +kernel)) ggX0_loudest_X0_loudness
theorem dX0_loudest_0 : decode cX0_loudest 0 = .ok (.aload_n 0, 1) := by decide +kernel
theorem dX0_loudest_1 : decode cX0_loudest 1 = .ok (.iload_n 1, 1) := by decide +kernel
theorem dX0_loudest_2 : decode cX0_loudest 2 = .ok (.iload_n 2, 1) := by decide +kernel
theorem dX0_loudest_3 : decode cX0_loudest 3 = .ok (.invokevirtual 97, 3) := by decide +kernel
theorem dX0_loudest_6 : decode cX0_loudest 6 = .ok (.istore_n 3, 1) := by decide +kernel
theorem dX0_loudest_7 : decode cX0_loudest 7 = .ok (.iconst 0, 1) := by decide +kernel
theorem dX0_loudest_8 : decode cX0_loudest 8 = .ok (.istore 4, 2) := by decide +kernel
theorem dX0_loudest_10 : decode cX0_loudest 10 = .ok (.iconst 0, 1) := by decide +kernel
theorem dX0_loudest_11 : decode cX0_loudest 11 = .ok (.istore 5, 2) := by decide +kernel
theorem dX0_loudest_13 : decode cX0_loudest 13 = .ok (.iload 5, 2) := by decide +kernel
theorem dX0_loudest_15 : decode cX0_loudest 15 = .ok (.aload_n 0, 1) := by decide +kernel
theorem dX0_loudest_16 : decode cX0_loudest 16 = .ok (.getfield 33, 3) := by decide +kernel
theorem dX0_loudest_19 : decode cX0_loudest 19 = .ok (.if_icmp .ge 42, 3) := by decide +kernel
theorem dX0_loudest_22 : decode cX0_loudest 22 = .ok (.iload_n 3, 1) := by decide +kernel
theorem dX0_loudest_23 : decode cX0_loudest 23 = .ok (.ifCond .le 32, 3) := by decide +kernel
theorem dX0_loudest_26 : decode cX0_loudest 26 = .ok (.iload_n 2, 1) := by decide +kernel
theorem dX0_loudest_27 : decode cX0_loudest 27 = .ok (.iload 5, 2) := by decide +kernel
theorem dX0_loudest_29 : decode cX0_loudest 29 = .ok (.ishr, 1) := by decide +kernel
theorem dX0_loudest_30 : decode cX0_loudest 30 = .ok (.iconst 1, 1) := by decide +kernel
theorem dX0_loudest_31 : decode cX0_loudest 31 = .ok (.iand, 1) := by decide +kernel
theorem dX0_loudest_32 : decode cX0_loudest 32 = .ok (.ifCond .eq 23, 3) := by decide +kernel
theorem dX0_loudest_35 : decode cX0_loudest 35 = .ok (.aload_n 0, 1) := by decide +kernel
theorem dX0_loudest_36 : decode cX0_loudest 36 = .ok (.iload 5, 2) := by decide +kernel
theorem dX0_loudest_38 : decode cX0_loudest 38 = .ok (.iload_n 1, 1) := by decide +kernel
theorem dX0_loudest_39 : decode cX0_loudest 39 = .ok (.invokevirtual 94, 3) := by decide +kernel
theorem dX0_loudest_42 : decode cX0_loudest 42 = .ok (.iload_n 3, 1) := by decide +kernel
theorem dX0_loudest_43 : decode cX0_loudest 43 = .ok (.if_icmp .ne 12, 3) := by decide +kernel
theorem dX0_loudest_46 : decode cX0_loudest 46 = .ok (.iload 4, 2) := by decide +kernel
theorem dX0_loudest_48 : decode cX0_loudest 48 = .ok (.iconst 1, 1) := by decide +kernel
theorem dX0_loudest_49 : decode cX0_loudest 49 = .ok (.iload 5, 2) := by decide +kernel
theorem dX0_loudest_51 : decode cX0_loudest 51 = .ok (.ishl, 1) := by decide +kernel
theorem dX0_loudest_52 : decode cX0_loudest 52 = .ok (.ior, 1) := by decide +kernel
theorem dX0_loudest_53 : decode cX0_loudest 53 = .ok (.istore 4, 2) := by decide +kernel
theorem dX0_loudest_55 : decode cX0_loudest 55 = .ok (.iinc 5 1, 3) := by decide +kernel
theorem dX0_loudest_58 : decode cX0_loudest 58 = .ok (.goto (-45), 3) := by decide +kernel
theorem dX0_loudest_61 : decode cX0_loudest 61 = .ok (.iload 4, 2) := by decide +kernel
theorem dX0_loudest_63 : decode cX0_loudest 63 = .ok (.ireturn, 1) := by decide +kernel
set_option maxRecDepth 20000 in
theorem ggX0_seatsReached_X0_playersIn : GoodIn wsX0_seatsReached wsX0_playersIn := goodIn_r _ [5, 6, 7, 8, 9, 4, 10, 11, 12, 13, 14, 15, 16, 17, 18, 19, 20, 21, 22, 23, 24, 25, 26, 27, 28, 29, 30, 31, 32, 33, 34, 35, 36, 37, 38, 56, 57, 58, 59, 60, 61, 62, 63, 64, 65, 66, 67, 68] (by decide +kernel) (by decide +kernel)
set_option maxRecDepth 20000 in
theorem gX0_seatsReached_X0_playersIn : GoodIn wsX0_seatsReached (wsV RX0 100 RX0 yX0_playersIn wsX0_playersIn) := goodIn_app (goodIn_of _ (by decide +kernel)) ggX0_seatsReached_X0_playersIn
set_option maxRecDepth 20000 in
theorem ggX0_seatsReached_X0_greatest : GoodIn wsX0_seatsReached wsX0_greatest := goodIn_r _ [42, 6, 43, 44, 45, 46, 47, 48, 49, 4, 50, 51, 52, 53, 54, 55, 56, 57, 58, 59, 60, 61, 62, 63, 64, 65, 66, 67, 68] (by decide +kernel) (by decide +kernel)
set_option maxRecDepth 20000 in
theorem gX0_seatsReached_X0_greatest : GoodIn wsX0_seatsReached (wsV RX0 97 RX0 yX0_greatest wsX0_greatest) := goodIn_app (goodIn_of _ (by decide +kernel)) ggX0_seatsReached_X0_greatest
theorem dX0_seatsReached_0 : decode cX0_seatsReached 0 = .ok (.aload_n 0, 1) := by decide +kernel
theorem dX0_seatsReached_1 : decode cX0_seatsReached 1 = .ok (.iload_n 1, 1) := by decide +kernel
theorem dX0_seatsReached_2 : decode cX0_seatsReached 2 = .ok (.invokevirtual 100, 3) := by decide +kernel
theorem dX0_seatsReached_5 : decode cX0_seatsReached 5 = .ok (.istore_n 2, 1) := by decide +kernel
theorem dX0_seatsReached_6 : decode cX0_seatsReached 6 = .ok (.iconst 0, 1) := by decide +kernel
theorem dX0_seatsReached_7 : decode cX0_seatsReached 7 = .ok (.istore_n 3, 1) := by decide +kernel
theorem dX0_seatsReached_8 : decode cX0_seatsReached 8 = .ok (.iconst 0, 1) := by decide +kernel
theorem dX0_seatsReached_9 : decode cX0_seatsReached 9 = .ok (.istore 4, 2) := by decide +kernel
theorem dX0_seatsReached_11 : decode cX0_seatsReached 11 = .ok (.iload 4, 2) := by decide +kernel
theorem dX0_seatsReached_13 : decode cX0_seatsReached 13 = .ok (.bipush 16, 2) := by decide +kernel
theorem dX0_seatsReached_15 : decode cX0_seatsReached 15 = .ok (.if_icmp .ge 22, 3) := by decide +kernel
theorem dX0_seatsReached_18 : decode cX0_seatsReached 18 = .ok (.aload_n 0, 1) := by decide +kernel
theorem dX0_seatsReached_19 : decode cX0_seatsReached 19 = .ok (.iload 4, 2) := by decide +kernel
theorem dX0_seatsReached_21 : decode cX0_seatsReached 21 = .ok (.iload_n 2, 1) := by decide +kernel
theorem dX0_seatsReached_22 : decode cX0_seatsReached 22 = .ok (.invokevirtual 97, 3) := by decide +kernel
theorem dX0_seatsReached_25 : decode cX0_seatsReached 25 = .ok (.ifCond .le 6, 3) := by decide +kernel
theorem dX0_seatsReached_28 : decode cX0_seatsReached 28 = .ok (.iinc 3 1, 3) := by decide +kernel
theorem dX0_seatsReached_31 : decode cX0_seatsReached 31 = .ok (.iinc 4 1, 3) := by decide +kernel
theorem dX0_seatsReached_34 : decode cX0_seatsReached 34 = .ok (.goto (-23), 3) := by decide +kernel
theorem dX0_seatsReached_37 : decode cX0_seatsReached 37 = .ok (.iload_n 3, 1) := by decide +kernel
theorem dX0_seatsReached_38 : decode cX0_seatsReached 38 = .ok (.ireturn, 1) := by decide +kernel
set_option maxRecDepth 20000 in
theorem ggX0_allHeard_X0_playersIn : GoodIn wsX0_allHeard wsX0_playersIn := goodIn_r _ [5, 6, 7, 8, 9, 4, 10, 11, 12, 13, 14, 15, 16, 17, 18, 19, 20, 21, 22, 23, 24, 25, 26, 27, 28, 29, 30, 31, 32, 33, 34, 35, 36, 37, 38, 56, 57, 58, 59, 60, 61, 62, 63, 64, 65, 66, 67, 68] (by decide +kernel) (by decide +kernel)
set_option maxRecDepth 20000 in
theorem gX0_allHeard_X0_playersIn : GoodIn wsX0_allHeard (wsV RX0 100 RX0 yX0_playersIn wsX0_playersIn) := goodIn_app (goodIn_of _ (by decide +kernel)) ggX0_allHeard_X0_playersIn
set_option maxRecDepth 20000 in
theorem ggX0_allHeard_X0_greatest : GoodIn wsX0_allHeard wsX0_greatest := goodIn_r _ [42, 6, 43, 44, 45, 46, 47, 48, 49, 4, 50, 51, 52, 53, 54, 55, 56, 57, 58, 59, 60, 61, 62, 63, 64, 65, 66, 67, 68] (by decide +kernel) (by decide +kernel)
set_option maxRecDepth 20000 in
theorem gX0_allHeard_X0_greatest : GoodIn wsX0_allHeard (wsV RX0 97 RX0 yX0_greatest wsX0_greatest) := goodIn_app (goodIn_of _ (by decide +kernel)) ggX0_allHeard_X0_greatest
theorem dX0_allHeard_0 : decode cX0_allHeard 0 = .ok (.iconst 0, 1) := by decide +kernel
theorem dX0_allHeard_1 : decode cX0_allHeard 1 = .ok (.istore_n 1, 1) := by decide +kernel
theorem dX0_allHeard_2 : decode cX0_allHeard 2 = .ok (.iconst 0, 1) := by decide +kernel
theorem dX0_allHeard_3 : decode cX0_allHeard 3 = .ok (.istore_n 2, 1) := by decide +kernel
theorem dX0_allHeard_4 : decode cX0_allHeard 4 = .ok (.iload_n 2, 1) := by decide +kernel
theorem dX0_allHeard_5 : decode cX0_allHeard 5 = .ok (.bipush 12, 2) := by decide +kernel
theorem dX0_allHeard_7 : decode cX0_allHeard 7 = .ok (.if_icmp .ge 41, 3) := by decide +kernel
theorem dX0_allHeard_10 : decode cX0_allHeard 10 = .ok (.aload_n 0, 1) := by decide +kernel
theorem dX0_allHeard_11 : decode cX0_allHeard 11 = .ok (.iload_n 2, 1) := by decide +kernel
theorem dX0_allHeard_12 : decode cX0_allHeard 12 = .ok (.invokevirtual 100, 3) := by decide +kernel
theorem dX0_allHeard_15 : decode cX0_allHeard 15 = .ok (.istore_n 3, 1) := by decide +kernel
theorem dX0_allHeard_16 : decode cX0_allHeard 16 = .ok (.iconst 0, 1) := by decide +kernel
theorem dX0_allHeard_17 : decode cX0_allHeard 17 = .ok (.istore 4, 2) := by decide +kernel
theorem dX0_allHeard_19 : decode cX0_allHeard 19 = .ok (.iload 4, 2) := by decide +kernel
theorem dX0_allHeard_21 : decode cX0_allHeard 21 = .ok (.bipush 16, 2) := by decide +kernel
theorem dX0_allHeard_23 : decode cX0_allHeard 23 = .ok (.if_icmp .ge 19, 3) := by decide +kernel
theorem dX0_allHeard_26 : decode cX0_allHeard 26 = .ok (.iload_n 1, 1) := by decide +kernel
theorem dX0_allHeard_27 : decode cX0_allHeard 27 = .ok (.aload_n 0, 1) := by decide +kernel
theorem dX0_allHeard_28 : decode cX0_allHeard 28 = .ok (.iload 4, 2) := by decide +kernel
theorem dX0_allHeard_30 : decode cX0_allHeard 30 = .ok (.iload_n 3, 1) := by decide +kernel
theorem dX0_allHeard_31 : decode cX0_allHeard 31 = .ok (.invokevirtual 97, 3) := by decide +kernel
theorem dX0_allHeard_34 : decode cX0_allHeard 34 = .ok (.iadd, 1) := by decide +kernel
theorem dX0_allHeard_35 : decode cX0_allHeard 35 = .ok (.istore_n 1, 1) := by decide +kernel
theorem dX0_allHeard_36 : decode cX0_allHeard 36 = .ok (.iinc 4 1, 3) := by decide +kernel
theorem dX0_allHeard_39 : decode cX0_allHeard 39 = .ok (.goto (-20), 3) := by decide +kernel
theorem dX0_allHeard_42 : decode cX0_allHeard 42 = .ok (.iinc 2 1, 3) := by decide +kernel
theorem dX0_allHeard_45 : decode cX0_allHeard 45 = .ok (.goto (-41), 3) := by decide +kernel
theorem dX0_allHeard_48 : decode cX0_allHeard 48 = .ok (.iload_n 1, 1) := by decide +kernel
theorem dX0_allHeard_49 : decode cX0_allHeard 49 = .ok (.ireturn, 1) := by decide +kernel
theorem dX0_canHear_0 : decode cX0_canHear 0 = .ok (.iload_n 1, 1) := by decide +kernel
theorem dX0_canHear_1 : decode cX0_canHear 1 = .ok (.iload_n 2, 1) := by decide +kernel
theorem dX0_canHear_2 : decode cX0_canHear 2 = .ok (.if_icmp .eq 28, 3) := by decide +kernel
theorem dX0_canHear_5 : decode cX0_canHear 5 = .ok (.aload_n 0, 1) := by decide +kernel
theorem dX0_canHear_6 : decode cX0_canHear 6 = .ok (.getfield 15, 3) := by decide +kernel
theorem dX0_canHear_9 : decode cX0_canHear 9 = .ok (.iload_n 1, 1) := by decide +kernel
theorem dX0_canHear_10 : decode cX0_canHear 10 = .ok (.iaload, 1) := by decide +kernel
theorem dX0_canHear_11 : decode cX0_canHear 11 = .ok (.iconst 5, 1) := by decide +kernel
theorem dX0_canHear_12 : decode cX0_canHear 12 = .ok (.if_icmp .ne 20, 3) := by decide +kernel
theorem dX0_canHear_15 : decode cX0_canHear 15 = .ok (.aload_n 0, 1) := by decide +kernel
theorem dX0_canHear_16 : decode cX0_canHear 16 = .ok (.getfield 18, 3) := by decide +kernel
theorem dX0_canHear_19 : decode cX0_canHear 19 = .ok (.iload_n 2, 1) := by decide +kernel
theorem dX0_canHear_20 : decode cX0_canHear 20 = .ok (.iaload, 1) := by decide +kernel
theorem dX0_canHear_21 : decode cX0_canHear 21 = .ok (.aload_n 0, 1) := by decide +kernel
theorem dX0_canHear_22 : decode cX0_canHear 22 = .ok (.getfield 18, 3) := by decide +kernel
theorem dX0_canHear_25 : decode cX0_canHear 25 = .ok (.iload_n 1, 1) := by decide +kernel
theorem dX0_canHear_26 : decode cX0_canHear 26 = .ok (.iaload, 1) := by decide +kernel
theorem dX0_canHear_27 : decode cX0_canHear 27 = .ok (.if_icmp .ge 5, 3) := by decide +kernel
theorem dX0_canHear_30 : decode cX0_canHear 30 = .ok (.iconst 0, 1) := by decide +kernel
theorem dX0_canHear_31 : decode cX0_canHear 31 = .ok (.ireturn, 1) := by decide +kernel
theorem dX0_canHear_32 : decode cX0_canHear 32 = .ok (.aload_n 0, 1) := by decide +kernel
theorem dX0_canHear_33 : decode cX0_canHear 33 = .ok (.getfield 24, 3) := by decide +kernel
theorem dX0_canHear_36 : decode cX0_canHear 36 = .ok (.iload_n 2, 1) := by decide +kernel
theorem dX0_canHear_37 : decode cX0_canHear 37 = .ok (.iaload, 1) := by decide +kernel
theorem dX0_canHear_38 : decode cX0_canHear 38 = .ok (.aload_n 0, 1) := by decide +kernel
theorem dX0_canHear_39 : decode cX0_canHear 39 = .ok (.getfield 18, 3) := by decide +kernel
theorem dX0_canHear_42 : decode cX0_canHear 42 = .ok (.iload_n 2, 1) := by decide +kernel
theorem dX0_canHear_43 : decode cX0_canHear 43 = .ok (.iaload, 1) := by decide +kernel
theorem dX0_canHear_44 : decode cX0_canHear 44 = .ok (.aload_n 0, 1) := by decide +kernel
theorem dX0_canHear_45 : decode cX0_canHear 45 = .ok (.getfield 18, 3) := by decide +kernel
theorem dX0_canHear_48 : decode cX0_canHear 48 = .ok (.iload_n 1, 1) := by decide +kernel
theorem dX0_canHear_49 : decode cX0_canHear 49 = .ok (.iaload, 1) := by decide +kernel
theorem dX0_canHear_50 : decode cX0_canHear 50 = .ok (.isub, 1) := by decide +kernel
theorem dX0_canHear_51 : decode cX0_canHear 51 = .ok (.invokestatic 85, 3) := by decide +kernel
theorem dX0_canHear_54 : decode cX0_canHear 54 = .ok (.if_icmp .le 7, 3) := by decide +kernel
theorem dX0_canHear_57 : decode cX0_canHear 57 = .ok (.iconst 1, 1) := by decide +kernel
theorem dX0_canHear_58 : decode cX0_canHear 58 = .ok (.goto 4, 3) := by decide +kernel
theorem dX0_canHear_61 : decode cX0_canHear 61 = .ok (.iconst 0, 1) := by decide +kernel
theorem dX0_canHear_62 : decode cX0_canHear 62 = .ok (.ireturn, 1) := by decide +kernel
set_option maxRecDepth 20000 in
theorem ggX0_barsHearing_X0_canHear : GoodIn wsX0_barsHearing wsX0_canHear := goodIn_r _ [5, 6, 7, 8, 9, 10, 11, 12, 41, 42, 43, 44, 45, 46, 47, 48, 49, 50, 51, 52, 53] (by decide +kernel) (by decide +kernel)
set_option maxRecDepth 20000 in
theorem gX0_barsHearing_X0_canHear : GoodIn wsX0_barsHearing (wsV RX0 103 RX0 yX0_canHear wsX0_canHear) := goodIn_app (goodIn_of _ (by decide +kernel)) ggX0_barsHearing_X0_canHear
set_option maxRecDepth 20000 in
theorem ggX0_barsHearing_X0_barsPlayed : GoodIn wsX0_barsHearing wsX0_barsPlayed := goodIn_r _ [16, 17, 18, 19, 4, 20, 21, 22, 23, 24, 25, 6, 26, 27, 28, 29, 30, 31, 32, 33, 34, 35, 36, 37, 38, 39, 40, 41, 42, 43, 44, 45, 46, 47, 48, 49, 50, 51, 52, 53] (by decide +kernel) (by decide +kernel)
set_option maxRecDepth 20000 in
theorem gX0_barsHearing_X0_barsPlayed : GoodIn wsX0_barsHearing (wsV RX0 69 RX0 yX0_barsPlayed wsX0_barsPlayed) := goodIn_app (goodIn_of _ (by decide +kernel)) ggX0_barsHearing_X0_barsPlayed
theorem dX0_barsHearing_0 : decode cX0_barsHearing 0 = .ok (.aload_n 0, 1) := by decide +kernel
theorem dX0_barsHearing_1 : decode cX0_barsHearing 1 = .ok (.iload_n 1, 1) := by decide +kernel
theorem dX0_barsHearing_2 : decode cX0_barsHearing 2 = .ok (.iload_n 2, 1) := by decide +kernel
theorem dX0_barsHearing_3 : decode cX0_barsHearing 3 = .ok (.invokevirtual 103, 3) := by decide +kernel
theorem dX0_barsHearing_6 : decode cX0_barsHearing 6 = .ok (.ifCond .eq 11, 3) := by decide +kernel
theorem dX0_barsHearing_9 : decode cX0_barsHearing 9 = .ok (.aload_n 0, 1) := by decide +kernel
theorem dX0_barsHearing_10 : decode cX0_barsHearing 10 = .ok (.iload_n 2, 1) := by decide +kernel
theorem dX0_barsHearing_11 : decode cX0_barsHearing 11 = .ok (.invokevirtual 69, 3) := by decide +kernel
theorem dX0_barsHearing_14 : decode cX0_barsHearing 14 = .ok (.goto 4, 3) := by decide +kernel
theorem dX0_barsHearing_17 : decode cX0_barsHearing 17 = .ok (.iconst 0, 1) := by decide +kernel
theorem dX0_barsHearing_18 : decode cX0_barsHearing 18 = .ok (.ireturn, 1) := by decide +kernel
set_option maxRecDepth 20000 in
theorem ggX0_reaching_X0_canHear : GoodIn wsX0_reaching wsX0_canHear := goodIn_r _ [6, 7, 8, 9, 10, 11, 12, 13, 14, 15, 16, 17, 18, 19, 20, 21, 22, 23, 24, 25, 26] (by decide +kernel) (by decide +kernel)
set_option maxRecDepth 20000 in
theorem gX0_reaching_X0_canHear : GoodIn wsX0_reaching (wsV RX0 103 RX0 yX0_canHear wsX0_canHear) := goodIn_app (goodIn_of _ (by decide +kernel)) ggX0_reaching_X0_canHear
theorem dX0_reaching_0 : decode cX0_reaching 0 = .ok (.iconst 0, 1) := by decide +kernel
theorem dX0_reaching_1 : decode cX0_reaching 1 = .ok (.istore_n 2, 1) := by decide +kernel
theorem dX0_reaching_2 : decode cX0_reaching 2 = .ok (.iconst 0, 1) := by decide +kernel
theorem dX0_reaching_3 : decode cX0_reaching 3 = .ok (.istore_n 3, 1) := by decide +kernel
theorem dX0_reaching_4 : decode cX0_reaching 4 = .ok (.iload_n 3, 1) := by decide +kernel
theorem dX0_reaching_5 : decode cX0_reaching 5 = .ok (.aload_n 0, 1) := by decide +kernel
theorem dX0_reaching_6 : decode cX0_reaching 6 = .ok (.getfield 33, 3) := by decide +kernel
theorem dX0_reaching_9 : decode cX0_reaching 9 = .ok (.if_icmp .ge 24, 3) := by decide +kernel
theorem dX0_reaching_12 : decode cX0_reaching 12 = .ok (.aload_n 0, 1) := by decide +kernel
theorem dX0_reaching_13 : decode cX0_reaching 13 = .ok (.iload_n 1, 1) := by decide +kernel
theorem dX0_reaching_14 : decode cX0_reaching 14 = .ok (.iload_n 3, 1) := by decide +kernel
theorem dX0_reaching_15 : decode cX0_reaching 15 = .ok (.invokevirtual 103, 3) := by decide +kernel
theorem dX0_reaching_18 : decode cX0_reaching 18 = .ok (.ifCond .eq 9, 3) := by decide +kernel
theorem dX0_reaching_21 : decode cX0_reaching 21 = .ok (.iload_n 2, 1) := by decide +kernel
theorem dX0_reaching_22 : decode cX0_reaching 22 = .ok (.iconst 1, 1) := by decide +kernel
theorem dX0_reaching_23 : decode cX0_reaching 23 = .ok (.iload_n 3, 1) := by decide +kernel
theorem dX0_reaching_24 : decode cX0_reaching 24 = .ok (.ishl, 1) := by decide +kernel
theorem dX0_reaching_25 : decode cX0_reaching 25 = .ok (.ior, 1) := by decide +kernel
theorem dX0_reaching_26 : decode cX0_reaching 26 = .ok (.istore_n 2, 1) := by decide +kernel
theorem dX0_reaching_27 : decode cX0_reaching 27 = .ok (.iinc 3 1, 3) := by decide +kernel
theorem dX0_reaching_30 : decode cX0_reaching 30 = .ok (.goto (-26), 3) := by decide +kernel
theorem dX0_reaching_33 : decode cX0_reaching 33 = .ok (.iload_n 2, 1) := by decide +kernel
theorem dX0_reaching_34 : decode cX0_reaching 34 = .ok (.ireturn, 1) := by decide +kernel
set_option maxRecDepth 20000 in
theorem ggX0_barsAlone_X0_barsPlayed : GoodIn wsX0_barsAlone wsX0_barsPlayed := goodIn_r _ [6, 7, 8, 9, 5, 10, 11, 12, 13, 14, 15, 16, 17, 18, 19, 20, 21, 22, 23, 24, 25, 1, 26, 27, 28, 29, 30, 45, 46, 47, 48, 49, 50, 51, 52, 53, 54, 55, 56, 57] (by decide +kernel) (by decide +kernel)
set_option maxRecDepth 20000 in
theorem gX0_barsAlone_X0_barsPlayed : GoodIn wsX0_barsAlone (wsV RX0 69 RX0 yX0_barsPlayed wsX0_barsPlayed) := goodIn_app (goodIn_of _ (by decide +kernel)) ggX0_barsAlone_X0_barsPlayed
set_option maxRecDepth 20000 in
theorem ggX0_barsAlone_X0_barsHearing : GoodIn wsX0_barsAlone wsX0_barsHearing := goodIn_r _ [34, 35, 36, 37, 5, 38, 16, 39, 40, 41, 42, 43, 44, 2, 3, 4, 6, 7, 8, 9, 10, 11, 12, 13, 14, 15, 17, 18, 19, 20, 21, 22, 23, 24, 25, 1, 26, 27, 28, 29, 30, 45, 46, 47, 48, 49, 50, 51, 52, 53, 54, 55, 56, 57] (by decide +kernel) (by decide +kernel)
set_option maxRecDepth 20000 in
theorem gX0_barsAlone_X0_barsHearing : GoodIn wsX0_barsAlone (wsV RX0 106 RX0 yX0_barsHearing wsX0_barsHearing) := goodIn_app (goodIn_of _ (by decide +kernel)) ggX0_barsAlone_X0_barsHearing
theorem dX0_barsAlone_0 : decode cX0_barsAlone 0 = .ok (.aload_n 0, 1) := by decide +kernel
theorem dX0_barsAlone_1 : decode cX0_barsAlone 1 = .ok (.iload_n 1, 1) := by decide +kernel
theorem dX0_barsAlone_2 : decode cX0_barsAlone 2 = .ok (.invokevirtual 69, 3) := by decide +kernel
theorem dX0_barsAlone_5 : decode cX0_barsAlone 5 = .ok (.istore_n 2, 1) := by decide +kernel
theorem dX0_barsAlone_6 : decode cX0_barsAlone 6 = .ok (.iconst 0, 1) := by decide +kernel
theorem dX0_barsAlone_7 : decode cX0_barsAlone 7 = .ok (.istore_n 3, 1) := by decide +kernel
theorem dX0_barsAlone_8 : decode cX0_barsAlone 8 = .ok (.iload_n 3, 1) := by decide +kernel
theorem dX0_barsAlone_9 : decode cX0_barsAlone 9 = .ok (.aload_n 0, 1) := by decide +kernel
theorem dX0_barsAlone_10 : decode cX0_barsAlone 10 = .ok (.getfield 33, 3) := by decide +kernel
theorem dX0_barsAlone_13 : decode cX0_barsAlone 13 = .ok (.if_icmp .ge 20, 3) := by decide +kernel
theorem dX0_barsAlone_16 : decode cX0_barsAlone 16 = .ok (.iload_n 2, 1) := by decide +kernel
theorem dX0_barsAlone_17 : decode cX0_barsAlone 17 = .ok (.aload_n 0, 1) := by decide +kernel
theorem dX0_barsAlone_18 : decode cX0_barsAlone 18 = .ok (.iload_n 1, 1) := by decide +kernel
theorem dX0_barsAlone_19 : decode cX0_barsAlone 19 = .ok (.iload_n 3, 1) := by decide +kernel
theorem dX0_barsAlone_20 : decode cX0_barsAlone 20 = .ok (.invokevirtual 106, 3) := by decide +kernel
theorem dX0_barsAlone_23 : decode cX0_barsAlone 23 = .ok (.iconst (-1), 1) := by decide +kernel
theorem dX0_barsAlone_24 : decode cX0_barsAlone 24 = .ok (.ixor, 1) := by decide +kernel
theorem dX0_barsAlone_25 : decode cX0_barsAlone 25 = .ok (.iand, 1) := by decide +kernel
theorem dX0_barsAlone_26 : decode cX0_barsAlone 26 = .ok (.istore_n 2, 1) := by decide +kernel
theorem dX0_barsAlone_27 : decode cX0_barsAlone 27 = .ok (.iinc 3 1, 3) := by decide +kernel
theorem dX0_barsAlone_30 : decode cX0_barsAlone 30 = .ok (.goto (-22), 3) := by decide +kernel
theorem dX0_barsAlone_33 : decode cX0_barsAlone 33 = .ok (.iload_n 2, 1) := by decide +kernel
theorem dX0_barsAlone_34 : decode cX0_barsAlone 34 = .ok (.ireturn, 1) := by decide +kernel
set_option maxRecDepth 20000 in
theorem ggX0_pairsHearing_X0_barsPlayed : GoodIn wsX0_pairsHearing wsX0_barsPlayed := goodIn_r _ [6, 7, 8, 9, 5, 10, 11, 12, 13, 14, 15, 16, 17, 18, 19, 20, 21, 22, 23, 24, 25, 1, 26, 27, 28, 29, 30, 41, 42, 43, 44, 45, 46, 47, 48, 49, 50, 51, 52, 53] (by decide +kernel) (by decide +kernel)
set_option maxRecDepth 20000 in
theorem gX0_pairsHearing_X0_barsPlayed : GoodIn wsX0_pairsHearing (wsV RX0 69 RX0 yX0_barsPlayed wsX0_barsPlayed) := goodIn_app (goodIn_of _ (by decide +kernel)) ggX0_pairsHearing_X0_barsPlayed
set_option maxRecDepth 20000 in
theorem ggX0_pairsHearing_X0_canHear : GoodIn wsX0_pairsHearing wsX0_canHear := goodIn_r _ [34, 16, 35, 36, 37, 38, 39, 40, 41, 42, 43, 44, 45, 46, 47, 48, 49, 50, 51, 52, 53] (by decide +kernel) (by decide +kernel)
set_option maxRecDepth 20000 in
theorem gX0_pairsHearing_X0_canHear : GoodIn wsX0_pairsHearing (wsV RX0 103 RX0 yX0_canHear wsX0_canHear) := goodIn_app (goodIn_of _ (by decide +kernel)) ggX0_pairsHearing_X0_canHear
theorem dX0_pairsHearing_0 : decode cX0_pairsHearing 0 = .ok (.iconst 0, 1) := by decide +kernel
theorem dX0_pairsHearing_1 : decode cX0_pairsHearing 1 = .ok (.istore_n 1, 1) := by decide +kernel
theorem dX0_pairsHearing_2 : decode cX0_pairsHearing 2 = .ok (.iconst 0, 1) := by decide +kernel
theorem dX0_pairsHearing_3 : decode cX0_pairsHearing 3 = .ok (.istore_n 2, 1) := by decide +kernel
theorem dX0_pairsHearing_4 : decode cX0_pairsHearing 4 = .ok (.iload_n 2, 1) := by decide +kernel
theorem dX0_pairsHearing_5 : decode cX0_pairsHearing 5 = .ok (.aload_n 0, 1) := by decide +kernel
theorem dX0_pairsHearing_6 : decode cX0_pairsHearing 6 = .ok (.getfield 33, 3) := by decide +kernel
theorem dX0_pairsHearing_9 : decode cX0_pairsHearing 9 = .ok (.if_icmp .ge 58, 3) := by decide +kernel
theorem dX0_pairsHearing_12 : decode cX0_pairsHearing 12 = .ok (.aload_n 0, 1) := by decide +kernel
theorem dX0_pairsHearing_13 : decode cX0_pairsHearing 13 = .ok (.iload_n 2, 1) := by decide +kernel
theorem dX0_pairsHearing_14 : decode cX0_pairsHearing 14 = .ok (.invokevirtual 69, 3) := by decide +kernel
theorem dX0_pairsHearing_17 : decode cX0_pairsHearing 17 = .ok (.ifCond .eq 7, 3) := by decide +kernel
theorem dX0_pairsHearing_20 : decode cX0_pairsHearing 20 = .ok (.iconst 1, 1) := by decide +kernel
theorem dX0_pairsHearing_21 : decode cX0_pairsHearing 21 = .ok (.goto 4, 3) := by decide +kernel
theorem dX0_pairsHearing_24 : decode cX0_pairsHearing 24 = .ok (.iconst 0, 1) := by decide +kernel
theorem dX0_pairsHearing_25 : decode cX0_pairsHearing 25 = .ok (.istore_n 3, 1) := by decide +kernel
theorem dX0_pairsHearing_26 : decode cX0_pairsHearing 26 = .ok (.iconst 0, 1) := by decide +kernel
theorem dX0_pairsHearing_27 : decode cX0_pairsHearing 27 = .ok (.istore 4, 2) := by decide +kernel
theorem dX0_pairsHearing_29 : decode cX0_pairsHearing 29 = .ok (.iload 4, 2) := by decide +kernel
theorem dX0_pairsHearing_31 : decode cX0_pairsHearing 31 = .ok (.aload_n 0, 1) := by decide +kernel
theorem dX0_pairsHearing_32 : decode cX0_pairsHearing 32 = .ok (.getfield 33, 3) := by decide +kernel
theorem dX0_pairsHearing_35 : decode cX0_pairsHearing 35 = .ok (.if_icmp .ge 26, 3) := by decide +kernel
theorem dX0_pairsHearing_38 : decode cX0_pairsHearing 38 = .ok (.iload_n 3, 1) := by decide +kernel
theorem dX0_pairsHearing_39 : decode cX0_pairsHearing 39 = .ok (.ifCond .eq 16, 3) := by decide +kernel
theorem dX0_pairsHearing_42 : decode cX0_pairsHearing 42 = .ok (.aload_n 0, 1) := by decide +kernel
theorem dX0_pairsHearing_43 : decode cX0_pairsHearing 43 = .ok (.iload 4, 2) := by decide +kernel
theorem dX0_pairsHearing_45 : decode cX0_pairsHearing 45 = .ok (.iload_n 2, 1) := by decide +kernel
theorem dX0_pairsHearing_46 : decode cX0_pairsHearing 46 = .ok (.invokevirtual 103, 3) := by decide +kernel
theorem dX0_pairsHearing_49 : decode cX0_pairsHearing 49 = .ok (.ifCond .eq 6, 3) := by decide +kernel
theorem dX0_pairsHearing_52 : decode cX0_pairsHearing 52 = .ok (.iinc 1 1, 3) := by decide +kernel
theorem dX0_pairsHearing_55 : decode cX0_pairsHearing 55 = .ok (.iinc 4 1, 3) := by decide +kernel
theorem dX0_pairsHearing_58 : decode cX0_pairsHearing 58 = .ok (.goto (-29), 3) := by decide +kernel
theorem dX0_pairsHearing_61 : decode cX0_pairsHearing 61 = .ok (.iinc 2 1, 3) := by decide +kernel
theorem dX0_pairsHearing_64 : decode cX0_pairsHearing 64 = .ok (.goto (-60), 3) := by decide +kernel
theorem dX0_pairsHearing_67 : decode cX0_pairsHearing 67 = .ok (.iload_n 1, 1) := by decide +kernel
theorem dX0_pairsHearing_68 : decode cX0_pairsHearing 68 = .ok (.ireturn, 1) := by decide +kernel
set_option maxRecDepth 20000 in
theorem ggX0_passEvenings_X0_passEvening : GoodIn wsX0_passEvenings wsX0_passEvening := goodIn_r _ [5, 6, 7, 8, 9, 10, 11, 12, 13, 14, 15, 16, 17, 18, 19, 20, 21, 22, 23, 24, 4, 25, 26, 27, 28, 29, 30, 31, 32, 33, 34, 35, 36, 37, 38, 39, 40, 41, 42, 43, 44, 45, 46, 47, 48, 49, 50, 51, 52, 53, 54, 55, 56, 57, 58, 59, 60, 61, 62, 63, 64, 65, 66, 67, 68, 69, 70, 71, 72, 73, 74, 75, 76] (by decide +kernel) (by decide +kernel)
set_option maxRecDepth 20000 in
theorem gX0_passEvenings_X0_passEvening : GoodIn wsX0_passEvenings (wsV RX0 109 RX0 yX0_passEvening wsX0_passEvening) := goodIn_app (goodIn_of _ (by decide +kernel)) ggX0_passEvenings_X0_passEvening
theorem dX0_passEvenings_0 : decode cX0_passEvenings 0 = .ok (.iconst 0, 1) := by decide +kernel
theorem dX0_passEvenings_1 : decode cX0_passEvenings 1 = .ok (.istore_n 2, 1) := by decide +kernel
theorem dX0_passEvenings_2 : decode cX0_passEvenings 2 = .ok (.iload_n 2, 1) := by decide +kernel
theorem dX0_passEvenings_3 : decode cX0_passEvenings 3 = .ok (.iload_n 1, 1) := by decide +kernel
theorem dX0_passEvenings_4 : decode cX0_passEvenings 4 = .ok (.if_icmp .ge 14, 3) := by decide +kernel
theorem dX0_passEvenings_7 : decode cX0_passEvenings 7 = .ok (.aload_n 0, 1) := by decide +kernel
theorem dX0_passEvenings_8 : decode cX0_passEvenings 8 = .ok (.invokevirtual 109, 3) := by decide +kernel
theorem dX0_passEvenings_11 : decode cX0_passEvenings 11 = .ok (.pop, 1) := by decide +kernel
theorem dX0_passEvenings_12 : decode cX0_passEvenings 12 = .ok (.iinc 2 1, 3) := by decide +kernel
theorem dX0_passEvenings_15 : decode cX0_passEvenings 15 = .ok (.goto (-13), 3) := by decide +kernel
theorem dX0_passEvenings_18 : decode cX0_passEvenings 18 = .ok (.return_, 1) := by decide +kernel
set_option maxRecDepth 20000 in
theorem ggX0_passEvening_X0_barsWritten : GoodIn wsX0_passEvening wsX0_barsWritten := goodIn_r _ [21, 22, 23, 24, 25, 20, 26, 27, 28, 29, 30, 31, 7, 32, 33, 34, 35, 36, 60, 61, 62, 63, 64, 65, 66, 67, 68, 69, 70, 71, 72] (by decide +kernel) (by decide +kernel)
set_option maxRecDepth 20000 in
theorem gX0_passEvening_X0_barsWritten : GoodIn wsX0_passEvening (wsV RX0 65 RX0 yX0_barsWritten wsX0_barsWritten) := goodIn_app (goodIn_of _ (by decide +kernel)) ggX0_passEvening_X0_barsWritten
set_option maxRecDepth 20000 in
theorem ggX0_passEvening_X0_reaching : GoodIn wsX0_passEvening wsX0_reaching := goodIn_r _ [40, 7, 41, 42, 43, 20, 44, 27, 45, 10, 46, 47, 15, 48, 60, 61, 62, 63, 64, 65, 66, 67, 68, 69, 70, 71, 72] (by decide +kernel) (by decide +kernel)
set_option maxRecDepth 20000 in
theorem gX0_passEvening_X0_reaching : GoodIn wsX0_passEvening (wsV RX0 113 RX0 yX0_reaching wsX0_reaching) := goodIn_app (goodIn_of _ (by decide +kernel)) ggX0_passEvening_X0_reaching
set_option maxRecDepth 20000 in
theorem ggX0_passEvening_X0_passBar : GoodIn wsX0_passEvening wsX0_passBar := goodIn_r _ [52, 7, 8, 9, 1, 13, 14, 15, 16, 53, 54, 55, 56, 57, 58, 20, 59, 23, 24, 25, 26, 27, 60, 61, 62, 63, 64, 65, 66, 67, 68, 69, 70, 71, 72] (by decide +kernel) (by decide +kernel)
set_option maxRecDepth 20000 in
theorem gX0_passEvening_X0_passBar : GoodIn wsX0_passEvening (wsV RX0 116 RX0 yX0_passBar wsX0_passBar) := goodIn_app (goodIn_of _ (by decide +kernel)) ggX0_passEvening_X0_passBar
theorem dX0_passEvening_0 : decode cX0_passEvening 0 = .ok (.aload_n 0, 1) := by decide +kernel
theorem dX0_passEvening_1 : decode cX0_passEvening 1 = .ok (.getfield 27, 3) := by decide +kernel
theorem dX0_passEvening_4 : decode cX0_passEvening 4 = .ok (.iconst 0, 1) := by decide +kernel
theorem dX0_passEvening_5 : decode cX0_passEvening 5 = .ok (.aload_n 0, 1) := by decide +kernel
theorem dX0_passEvening_6 : decode cX0_passEvening 6 = .ok (.getfield 49, 3) := by decide +kernel
theorem dX0_passEvening_9 : decode cX0_passEvening 9 = .ok (.iconst 0, 1) := by decide +kernel
theorem dX0_passEvening_10 : decode cX0_passEvening 10 = .ok (.bipush 8, 2) := by decide +kernel
theorem dX0_passEvening_12 : decode cX0_passEvening 12 = .ok (.invokestatic 52, 3) := by decide +kernel
theorem dX0_passEvening_15 : decode cX0_passEvening 15 = .ok (.iconst 0, 1) := by decide +kernel
theorem dX0_passEvening_16 : decode cX0_passEvening 16 = .ok (.istore_n 1, 1) := by decide +kernel
theorem dX0_passEvening_17 : decode cX0_passEvening 17 = .ok (.iload_n 1, 1) := by decide +kernel
theorem dX0_passEvening_18 : decode cX0_passEvening 18 = .ok (.aload_n 0, 1) := by decide +kernel
theorem dX0_passEvening_19 : decode cX0_passEvening 19 = .ok (.getfield 33, 3) := by decide +kernel
theorem dX0_passEvening_22 : decode cX0_passEvening 22 = .ok (.if_icmp .ge 31, 3) := by decide +kernel
theorem dX0_passEvening_25 : decode cX0_passEvening 25 = .ok (.aload_n 0, 1) := by decide +kernel
theorem dX0_passEvening_26 : decode cX0_passEvening 26 = .ok (.getfield 43, 3) := by decide +kernel
theorem dX0_passEvening_29 : decode cX0_passEvening 29 = .ok (.iload_n 1, 1) := by decide +kernel
theorem dX0_passEvening_30 : decode cX0_passEvening 30 = .ok (.aload_n 0, 1) := by decide +kernel
theorem dX0_passEvening_31 : decode cX0_passEvening 31 = .ok (.iload_n 1, 1) := by decide +kernel
theorem dX0_passEvening_32 : decode cX0_passEvening 32 = .ok (.invokevirtual 65, 3) := by decide +kernel
theorem dX0_passEvening_35 : decode cX0_passEvening 35 = .ok (.iastore, 1) := by decide +kernel
theorem dX0_passEvening_36 : decode cX0_passEvening 36 = .ok (.aload_n 0, 1) := by decide +kernel
theorem dX0_passEvening_37 : decode cX0_passEvening 37 = .ok (.getfield 46, 3) := by decide +kernel
theorem dX0_passEvening_40 : decode cX0_passEvening 40 = .ok (.iload_n 1, 1) := by decide +kernel
theorem dX0_passEvening_41 : decode cX0_passEvening 41 = .ok (.aload_n 0, 1) := by decide +kernel
theorem dX0_passEvening_42 : decode cX0_passEvening 42 = .ok (.iload_n 1, 1) := by decide +kernel
theorem dX0_passEvening_43 : decode cX0_passEvening 43 = .ok (.invokevirtual 113, 3) := by decide +kernel
theorem dX0_passEvening_46 : decode cX0_passEvening 46 = .ok (.iastore, 1) := by decide +kernel
theorem dX0_passEvening_47 : decode cX0_passEvening 47 = .ok (.iinc 1 1, 3) := by decide +kernel
theorem dX0_passEvening_50 : decode cX0_passEvening 50 = .ok (.goto (-33), 3) := by decide +kernel
theorem dX0_passEvening_53 : decode cX0_passEvening 53 = .ok (.iconst 0, 1) := by decide +kernel
theorem dX0_passEvening_54 : decode cX0_passEvening 54 = .ok (.istore_n 1, 1) := by decide +kernel
theorem dX0_passEvening_55 : decode cX0_passEvening 55 = .ok (.iload_n 1, 1) := by decide +kernel
theorem dX0_passEvening_56 : decode cX0_passEvening 56 = .ok (.bipush 12, 2) := by decide +kernel
theorem dX0_passEvening_58 : decode cX0_passEvening 58 = .ok (.if_icmp .ge 14, 3) := by decide +kernel
theorem dX0_passEvening_61 : decode cX0_passEvening 61 = .ok (.aload_n 0, 1) := by decide +kernel
theorem dX0_passEvening_62 : decode cX0_passEvening 62 = .ok (.iload_n 1, 1) := by decide +kernel
theorem dX0_passEvening_63 : decode cX0_passEvening 63 = .ok (.invokevirtual 116, 3) := by decide +kernel
theorem dX0_passEvening_66 : decode cX0_passEvening 66 = .ok (.iinc 1 1, 3) := by decide +kernel
theorem dX0_passEvening_69 : decode cX0_passEvening 69 = .ok (.goto (-14), 3) := by decide +kernel
theorem dX0_passEvening_72 : decode cX0_passEvening 72 = .ok (.iconst 0, 1) := by decide +kernel
theorem dX0_passEvening_73 : decode cX0_passEvening 73 = .ok (.istore_n 1, 1) := by decide +kernel
theorem dX0_passEvening_74 : decode cX0_passEvening 74 = .ok (.iconst 0, 1) := by decide +kernel
theorem dX0_passEvening_75 : decode cX0_passEvening 75 = .ok (.istore_n 2, 1) := by decide +kernel
theorem dX0_passEvening_76 : decode cX0_passEvening 76 = .ok (.iload_n 2, 1) := by decide +kernel
theorem dX0_passEvening_77 : decode cX0_passEvening 77 = .ok (.aload_n 0, 1) := by decide +kernel
theorem dX0_passEvening_78 : decode cX0_passEvening 78 = .ok (.getfield 33, 3) := by decide +kernel
theorem dX0_passEvening_81 : decode cX0_passEvening 81 = .ok (.if_icmp .ge 76, 3) := by decide +kernel
theorem dX0_passEvening_84 : decode cX0_passEvening 84 = .ok (.aload_n 0, 1) := by decide +kernel
theorem dX0_passEvening_85 : decode cX0_passEvening 85 = .ok (.getfield 27, 3) := by decide +kernel
theorem dX0_passEvening_88 : decode cX0_passEvening 88 = .ok (.iload_n 2, 1) := by decide +kernel
theorem dX0_passEvening_89 : decode cX0_passEvening 89 = .ok (.iaload, 1) := by decide +kernel
theorem dX0_passEvening_90 : decode cX0_passEvening 90 = .ok (.ifCond .ne 16, 3) := by decide +kernel
theorem dX0_passEvening_93 : decode cX0_passEvening 93 = .ok (.aload_n 0, 1) := by decide +kernel
theorem dX0_passEvening_94 : decode cX0_passEvening 94 = .ok (.getfield 24, 3) := by decide +kernel
theorem dX0_passEvening_97 : decode cX0_passEvening 97 = .ok (.iload_n 2, 1) := by decide +kernel
theorem dX0_passEvening_98 : decode cX0_passEvening 98 = .ok (.iaload, 1) := by decide +kernel
theorem dX0_passEvening_99 : decode cX0_passEvening 99 = .ok (.ifCond .le 7, 3) := by decide +kernel
theorem dX0_passEvening_102 : decode cX0_passEvening 102 = .ok (.iconst 1, 1) := by decide +kernel
theorem dX0_passEvening_103 : decode cX0_passEvening 103 = .ok (.goto 4, 3) := by decide +kernel
theorem dX0_passEvening_106 : decode cX0_passEvening 106 = .ok (.iconst 0, 1) := by decide +kernel
theorem dX0_passEvening_107 : decode cX0_passEvening 107 = .ok (.istore_n 3, 1) := by decide +kernel
theorem dX0_passEvening_108 : decode cX0_passEvening 108 = .ok (.iload_n 3, 1) := by decide +kernel
theorem dX0_passEvening_109 : decode cX0_passEvening 109 = .ok (.ifCond .eq 13, 3) := by decide +kernel
theorem dX0_passEvening_112 : decode cX0_passEvening 112 = .ok (.aload_n 0, 1) := by decide +kernel
theorem dX0_passEvening_113 : decode cX0_passEvening 113 = .ok (.getfield 24, 3) := by decide +kernel
theorem dX0_passEvening_116 : decode cX0_passEvening 116 = .ok (.iload_n 2, 1) := by decide +kernel
theorem dX0_passEvening_117 : decode cX0_passEvening 117 = .ok (.dup2, 1) := by decide +kernel
theorem dX0_passEvening_118 : decode cX0_passEvening 118 = .ok (.iaload, 1) := by decide +kernel
theorem dX0_passEvening_119 : decode cX0_passEvening 119 = .ok (.iconst 1, 1) := by decide +kernel
theorem dX0_passEvening_120 : decode cX0_passEvening 120 = .ok (.isub, 1) := by decide +kernel
theorem dX0_passEvening_121 : decode cX0_passEvening 121 = .ok (.iastore, 1) := by decide +kernel
theorem dX0_passEvening_122 : decode cX0_passEvening 122 = .ok (.iload_n 1, 1) := by decide +kernel
theorem dX0_passEvening_123 : decode cX0_passEvening 123 = .ok (.ifCond .ne 22, 3) := by decide +kernel
theorem dX0_passEvening_126 : decode cX0_passEvening 126 = .ok (.iload_n 3, 1) := by decide +kernel
theorem dX0_passEvening_127 : decode cX0_passEvening 127 = .ok (.ifCond .ne 18, 3) := by decide +kernel
theorem dX0_passEvening_130 : decode cX0_passEvening 130 = .ok (.aload_n 0, 1) := by decide +kernel
theorem dX0_passEvening_131 : decode cX0_passEvening 131 = .ok (.getfield 27, 3) := by decide +kernel
theorem dX0_passEvening_134 : decode cX0_passEvening 134 = .ok (.iload_n 2, 1) := by decide +kernel
theorem dX0_passEvening_135 : decode cX0_passEvening 135 = .ok (.iaload, 1) := by decide +kernel
theorem dX0_passEvening_136 : decode cX0_passEvening 136 = .ok (.aload_n 0, 1) := by decide +kernel
theorem dX0_passEvening_137 : decode cX0_passEvening 137 = .ok (.getfield 49, 3) := by decide +kernel
theorem dX0_passEvening_140 : decode cX0_passEvening 140 = .ok (.iload_n 2, 1) := by decide +kernel
theorem dX0_passEvening_141 : decode cX0_passEvening 141 = .ok (.iaload, 1) := by decide +kernel
theorem dX0_passEvening_142 : decode cX0_passEvening 142 = .ok (.if_icmp .eq 7, 3) := by decide +kernel
theorem dX0_passEvening_145 : decode cX0_passEvening 145 = .ok (.iconst 1, 1) := by decide +kernel
theorem dX0_passEvening_146 : decode cX0_passEvening 146 = .ok (.goto 4, 3) := by decide +kernel
theorem dX0_passEvening_149 : decode cX0_passEvening 149 = .ok (.iconst 0, 1) := by decide +kernel
theorem dX0_passEvening_150 : decode cX0_passEvening 150 = .ok (.istore_n 1, 1) := by decide +kernel
theorem dX0_passEvening_151 : decode cX0_passEvening 151 = .ok (.iinc 2 1, 3) := by decide +kernel
theorem dX0_passEvening_154 : decode cX0_passEvening 154 = .ok (.goto (-78), 3) := by decide +kernel
theorem dX0_passEvening_157 : decode cX0_passEvening 157 = .ok (.aload_n 0, 1) := by decide +kernel
theorem dX0_passEvening_158 : decode cX0_passEvening 158 = .ok (.ldc 120, 2) := by decide +kernel
theorem dX0_passEvening_160 : decode cX0_passEvening 160 = .ok (.aload_n 0, 1) := by decide +kernel
theorem dX0_passEvening_161 : decode cX0_passEvening 161 = .ok (.getfield 37, 3) := by decide +kernel
theorem dX0_passEvening_164 : decode cX0_passEvening 164 = .ok (.iconst 1, 1) := by decide +kernel
theorem dX0_passEvening_165 : decode cX0_passEvening 165 = .ok (.iadd, 1) := by decide +kernel
theorem dX0_passEvening_166 : decode cX0_passEvening 166 = .ok (.invokestatic 121, 3) := by decide +kernel
theorem dX0_passEvening_169 : decode cX0_passEvening 169 = .ok (.putfield 37, 3) := by decide +kernel
theorem dX0_passEvening_172 : decode cX0_passEvening 172 = .ok (.iload_n 1, 1) := by decide +kernel
theorem dX0_passEvening_173 : decode cX0_passEvening 173 = .ok (.ireturn, 1) := by decide +kernel
set_option maxRecDepth 20000 in
theorem ggX0_passBar_X0_isBold : GoodIn wsX0_passBar wsX0_isBold := goodIn_r _ [16, 4, 17, 18, 19, 15, 20, 21, 22, 23, 24, 25, 26, 27, 28, 29, 30, 31, 32, 33, 34] (by decide +kernel) (by decide +kernel)
set_option maxRecDepth 20000 in
theorem gX0_passBar_X0_isBold : GoodIn wsX0_passBar (wsV RX0 61 RX0 yX0_isBold wsX0_isBold) := goodIn_app (goodIn_of _ (by decide +kernel)) ggX0_passBar_X0_isBold
theorem dX0_passBar_0 : decode cX0_passBar 0 = .ok (.iconst 0, 1) := by decide +kernel
theorem dX0_passBar_1 : decode cX0_passBar 1 = .ok (.istore_n 2, 1) := by decide +kernel
theorem dX0_passBar_2 : decode cX0_passBar 2 = .ok (.iconst 0, 1) := by decide +kernel
theorem dX0_passBar_3 : decode cX0_passBar 3 = .ok (.istore_n 3, 1) := by decide +kernel
theorem dX0_passBar_4 : decode cX0_passBar 4 = .ok (.iload_n 3, 1) := by decide +kernel
theorem dX0_passBar_5 : decode cX0_passBar 5 = .ok (.aload_n 0, 1) := by decide +kernel
theorem dX0_passBar_6 : decode cX0_passBar 6 = .ok (.getfield 33, 3) := by decide +kernel
theorem dX0_passBar_9 : decode cX0_passBar 9 = .ok (.if_icmp .ge 36, 3) := by decide +kernel
theorem dX0_passBar_12 : decode cX0_passBar 12 = .ok (.aload_n 0, 1) := by decide +kernel
theorem dX0_passBar_13 : decode cX0_passBar 13 = .ok (.getfield 43, 3) := by decide +kernel
theorem dX0_passBar_16 : decode cX0_passBar 16 = .ok (.iload_n 3, 1) := by decide +kernel
theorem dX0_passBar_17 : decode cX0_passBar 17 = .ok (.iaload, 1) := by decide +kernel
theorem dX0_passBar_18 : decode cX0_passBar 18 = .ok (.iload_n 1, 1) := by decide +kernel
theorem dX0_passBar_19 : decode cX0_passBar 19 = .ok (.ishr, 1) := by decide +kernel
theorem dX0_passBar_20 : decode cX0_passBar 20 = .ok (.iconst 1, 1) := by decide +kernel
theorem dX0_passBar_21 : decode cX0_passBar 21 = .ok (.iand, 1) := by decide +kernel
theorem dX0_passBar_22 : decode cX0_passBar 22 = .ok (.ifCond .ne 11, 3) := by decide +kernel
theorem dX0_passBar_25 : decode cX0_passBar 25 = .ok (.aload_n 0, 1) := by decide +kernel
theorem dX0_passBar_26 : decode cX0_passBar 26 = .ok (.iload_n 3, 1) := by decide +kernel
theorem dX0_passBar_27 : decode cX0_passBar 27 = .ok (.invokevirtual 61, 3) := by decide +kernel
theorem dX0_passBar_30 : decode cX0_passBar 30 = .ok (.ifCond .eq 9, 3) := by decide +kernel
theorem dX0_passBar_33 : decode cX0_passBar 33 = .ok (.iload_n 2, 1) := by decide +kernel
theorem dX0_passBar_34 : decode cX0_passBar 34 = .ok (.iconst 1, 1) := by decide +kernel
theorem dX0_passBar_35 : decode cX0_passBar 35 = .ok (.iload_n 3, 1) := by decide +kernel
theorem dX0_passBar_36 : decode cX0_passBar 36 = .ok (.ishl, 1) := by decide +kernel
theorem dX0_passBar_37 : decode cX0_passBar 37 = .ok (.ior, 1) := by decide +kernel
theorem dX0_passBar_38 : decode cX0_passBar 38 = .ok (.istore_n 2, 1) := by decide +kernel
theorem dX0_passBar_39 : decode cX0_passBar 39 = .ok (.iinc 3 1, 3) := by decide +kernel
theorem dX0_passBar_42 : decode cX0_passBar 42 = .ok (.goto (-38), 3) := by decide +kernel
theorem dX0_passBar_45 : decode cX0_passBar 45 = .ok (.iconst 0, 1) := by decide +kernel
theorem dX0_passBar_46 : decode cX0_passBar 46 = .ok (.istore_n 3, 1) := by decide +kernel
theorem dX0_passBar_47 : decode cX0_passBar 47 = .ok (.iload_n 3, 1) := by decide +kernel
theorem dX0_passBar_48 : decode cX0_passBar 48 = .ok (.aload_n 0, 1) := by decide +kernel
theorem dX0_passBar_49 : decode cX0_passBar 49 = .ok (.getfield 33, 3) := by decide +kernel
theorem dX0_passBar_52 : decode cX0_passBar 52 = .ok (.if_icmp .ge 71, 3) := by decide +kernel
theorem dX0_passBar_55 : decode cX0_passBar 55 = .ok (.iload_n 2, 1) := by decide +kernel
theorem dX0_passBar_56 : decode cX0_passBar 56 = .ok (.iload_n 3, 1) := by decide +kernel
theorem dX0_passBar_57 : decode cX0_passBar 57 = .ok (.ishr, 1) := by decide +kernel
theorem dX0_passBar_58 : decode cX0_passBar 58 = .ok (.iconst 1, 1) := by decide +kernel
theorem dX0_passBar_59 : decode cX0_passBar 59 = .ok (.iand, 1) := by decide +kernel
theorem dX0_passBar_60 : decode cX0_passBar 60 = .ok (.ifCond .ne 6, 3) := by decide +kernel
theorem dX0_passBar_63 : decode cX0_passBar 63 = .ok (.goto 54, 3) := by decide +kernel
theorem dX0_passBar_66 : decode cX0_passBar 66 = .ok (.aload_n 0, 1) := by decide +kernel
theorem dX0_passBar_67 : decode cX0_passBar 67 = .ok (.getfield 46, 3) := by decide +kernel
theorem dX0_passBar_70 : decode cX0_passBar 70 = .ok (.iload_n 3, 1) := by decide +kernel
theorem dX0_passBar_71 : decode cX0_passBar 71 = .ok (.iaload, 1) := by decide +kernel
theorem dX0_passBar_72 : decode cX0_passBar 72 = .ok (.iload_n 2, 1) := by decide +kernel
theorem dX0_passBar_73 : decode cX0_passBar 73 = .ok (.iand, 1) := by decide +kernel
theorem dX0_passBar_74 : decode cX0_passBar 74 = .ok (.ifCond .eq 25, 3) := by decide +kernel
theorem dX0_passBar_77 : decode cX0_passBar 77 = .ok (.aload_n 0, 1) := by decide +kernel
theorem dX0_passBar_78 : decode cX0_passBar 78 = .ok (.getfield 27, 3) := by decide +kernel
theorem dX0_passBar_81 : decode cX0_passBar 81 = .ok (.iload_n 3, 1) := by decide +kernel
theorem dX0_passBar_82 : decode cX0_passBar 82 = .ok (.bipush 99, 2) := by decide +kernel
theorem dX0_passBar_84 : decode cX0_passBar 84 = .ok (.aload_n 0, 1) := by decide +kernel
theorem dX0_passBar_85 : decode cX0_passBar 85 = .ok (.getfield 27, 3) := by decide +kernel
theorem dX0_passBar_88 : decode cX0_passBar 88 = .ok (.iload_n 3, 1) := by decide +kernel
theorem dX0_passBar_89 : decode cX0_passBar 89 = .ok (.iaload, 1) := by decide +kernel
theorem dX0_passBar_90 : decode cX0_passBar 90 = .ok (.iconst 1, 1) := by decide +kernel
theorem dX0_passBar_91 : decode cX0_passBar 91 = .ok (.iadd, 1) := by decide +kernel
theorem dX0_passBar_92 : decode cX0_passBar 92 = .ok (.invokestatic 121, 3) := by decide +kernel
theorem dX0_passBar_95 : decode cX0_passBar 95 = .ok (.iastore, 1) := by decide +kernel
theorem dX0_passBar_96 : decode cX0_passBar 96 = .ok (.goto 21, 3) := by decide +kernel
theorem dX0_passBar_99 : decode cX0_passBar 99 = .ok (.aload_n 0, 1) := by decide +kernel
theorem dX0_passBar_100 : decode cX0_passBar 100 = .ok (.getfield 27, 3) := by decide +kernel
theorem dX0_passBar_103 : decode cX0_passBar 103 = .ok (.iload_n 3, 1) := by decide +kernel
theorem dX0_passBar_104 : decode cX0_passBar 104 = .ok (.iconst 0, 1) := by decide +kernel
theorem dX0_passBar_105 : decode cX0_passBar 105 = .ok (.aload_n 0, 1) := by decide +kernel
theorem dX0_passBar_106 : decode cX0_passBar 106 = .ok (.getfield 27, 3) := by decide +kernel
theorem dX0_passBar_109 : decode cX0_passBar 109 = .ok (.iload_n 3, 1) := by decide +kernel
theorem dX0_passBar_110 : decode cX0_passBar 110 = .ok (.iaload, 1) := by decide +kernel
theorem dX0_passBar_111 : decode cX0_passBar 111 = .ok (.iconst 3, 1) := by decide +kernel
theorem dX0_passBar_112 : decode cX0_passBar 112 = .ok (.isub, 1) := by decide +kernel
theorem dX0_passBar_113 : decode cX0_passBar 113 = .ok (.invokestatic 90, 3) := by decide +kernel
theorem dX0_passBar_116 : decode cX0_passBar 116 = .ok (.iastore, 1) := by decide +kernel
theorem dX0_passBar_117 : decode cX0_passBar 117 = .ok (.iinc 3 1, 3) := by decide +kernel
theorem dX0_passBar_120 : decode cX0_passBar 120 = .ok (.goto (-73), 3) := by decide +kernel
theorem dX0_passBar_123 : decode cX0_passBar 123 = .ok (.return_, 1) := by decide +kernel
theorem dX0_draw_0 : decode cX0_draw 0 = .ok (.aload_n 0, 1) := by decide +kernel
theorem dX0_draw_1 : decode cX0_draw 1 = .ok (.aload_n 0, 1) := by decide +kernel
theorem dX0_draw_2 : decode cX0_draw 2 = .ok (.getfield 40, 3) := by decide +kernel
theorem dX0_draw_5 : decode cX0_draw 5 = .ok (.ldc 124, 2) := by decide +kernel
theorem dX0_draw_7 : decode cX0_draw 7 = .ok (.imul, 1) := by decide +kernel
theorem dX0_draw_8 : decode cX0_draw 8 = .ok (.sipush 12345, 3) := by decide +kernel
theorem dX0_draw_11 : decode cX0_draw 11 = .ok (.iadd, 1) := by decide +kernel
theorem dX0_draw_12 : decode cX0_draw 12 = .ok (.putfield 40, 3) := by decide +kernel
theorem dX0_draw_15 : decode cX0_draw 15 = .ok (.aload_n 0, 1) := by decide +kernel
theorem dX0_draw_16 : decode cX0_draw 16 = .ok (.getfield 40, 3) := by decide +kernel
theorem dX0_draw_19 : decode cX0_draw 19 = .ok (.bipush 8, 2) := by decide +kernel
theorem dX0_draw_21 : decode cX0_draw 21 = .ok (.iushr, 1) := by decide +kernel
theorem dX0_draw_22 : decode cX0_draw 22 = .ok (.ireturn, 1) := by decide +kernel
theorem dX0_allNerve_0 : decode cX0_allNerve 0 = .ok (.iconst 0, 1) := by decide +kernel
theorem dX0_allNerve_1 : decode cX0_allNerve 1 = .ok (.istore_n 1, 1) := by decide +kernel
theorem dX0_allNerve_2 : decode cX0_allNerve 2 = .ok (.iconst 0, 1) := by decide +kernel
theorem dX0_allNerve_3 : decode cX0_allNerve 3 = .ok (.istore_n 2, 1) := by decide +kernel
theorem dX0_allNerve_4 : decode cX0_allNerve 4 = .ok (.iload_n 2, 1) := by decide +kernel
theorem dX0_allNerve_5 : decode cX0_allNerve 5 = .ok (.aload_n 0, 1) := by decide +kernel
theorem dX0_allNerve_6 : decode cX0_allNerve 6 = .ok (.getfield 33, 3) := by decide +kernel
theorem dX0_allNerve_9 : decode cX0_allNerve 9 = .ok (.if_icmp .ge 18, 3) := by decide +kernel
theorem dX0_allNerve_12 : decode cX0_allNerve 12 = .ok (.iload_n 1, 1) := by decide +kernel
theorem dX0_allNerve_13 : decode cX0_allNerve 13 = .ok (.aload_n 0, 1) := by decide +kernel
theorem dX0_allNerve_14 : decode cX0_allNerve 14 = .ok (.getfield 27, 3) := by decide +kernel
theorem dX0_allNerve_17 : decode cX0_allNerve 17 = .ok (.iload_n 2, 1) := by decide +kernel
theorem dX0_allNerve_18 : decode cX0_allNerve 18 = .ok (.iaload, 1) := by decide +kernel
theorem dX0_allNerve_19 : decode cX0_allNerve 19 = .ok (.iadd, 1) := by decide +kernel
theorem dX0_allNerve_20 : decode cX0_allNerve 20 = .ok (.istore_n 1, 1) := by decide +kernel
theorem dX0_allNerve_21 : decode cX0_allNerve 21 = .ok (.iinc 2 1, 3) := by decide +kernel
theorem dX0_allNerve_24 : decode cX0_allNerve 24 = .ok (.goto (-20), 3) := by decide +kernel
theorem dX0_allNerve_27 : decode cX0_allNerve 27 = .ok (.iload_n 1, 1) := by decide +kernel
theorem dX0_allNerve_28 : decode cX0_allNerve 28 = .ok (.ireturn, 1) := by decide +kernel
theorem dX0_allLoud_0 : decode cX0_allLoud 0 = .ok (.iconst 0, 1) := by decide +kernel
theorem dX0_allLoud_1 : decode cX0_allLoud 1 = .ok (.istore_n 1, 1) := by decide +kernel
theorem dX0_allLoud_2 : decode cX0_allLoud 2 = .ok (.iconst 0, 1) := by decide +kernel
theorem dX0_allLoud_3 : decode cX0_allLoud 3 = .ok (.istore_n 2, 1) := by decide +kernel
theorem dX0_allLoud_4 : decode cX0_allLoud 4 = .ok (.iload_n 2, 1) := by decide +kernel
theorem dX0_allLoud_5 : decode cX0_allLoud 5 = .ok (.aload_n 0, 1) := by decide +kernel
theorem dX0_allLoud_6 : decode cX0_allLoud 6 = .ok (.getfield 33, 3) := by decide +kernel
theorem dX0_allLoud_9 : decode cX0_allLoud 9 = .ok (.if_icmp .ge 18, 3) := by decide +kernel
theorem dX0_allLoud_12 : decode cX0_allLoud 12 = .ok (.iload_n 1, 1) := by decide +kernel
theorem dX0_allLoud_13 : decode cX0_allLoud 13 = .ok (.aload_n 0, 1) := by decide +kernel
theorem dX0_allLoud_14 : decode cX0_allLoud 14 = .ok (.getfield 24, 3) := by decide +kernel
theorem dX0_allLoud_17 : decode cX0_allLoud 17 = .ok (.iload_n 2, 1) := by decide +kernel
theorem dX0_allLoud_18 : decode cX0_allLoud 18 = .ok (.iaload, 1) := by decide +kernel
theorem dX0_allLoud_19 : decode cX0_allLoud 19 = .ok (.iadd, 1) := by decide +kernel
theorem dX0_allLoud_20 : decode cX0_allLoud 20 = .ok (.istore_n 1, 1) := by decide +kernel
theorem dX0_allLoud_21 : decode cX0_allLoud 21 = .ok (.iinc 2 1, 3) := by decide +kernel
theorem dX0_allLoud_24 : decode cX0_allLoud 24 = .ok (.goto (-20), 3) := by decide +kernel
theorem dX0_allLoud_27 : decode cX0_allLoud 27 = .ok (.iload_n 1, 1) := by decide +kernel
theorem dX0_allLoud_28 : decode cX0_allLoud 28 = .ok (.ireturn, 1) := by decide +kernel
theorem dX0_unnerved_0 : decode cX0_unnerved 0 = .ok (.iconst 0, 1) := by decide +kernel
theorem dX0_unnerved_1 : decode cX0_unnerved 1 = .ok (.istore_n 1, 1) := by decide +kernel
theorem dX0_unnerved_2 : decode cX0_unnerved 2 = .ok (.iconst 0, 1) := by decide +kernel
theorem dX0_unnerved_3 : decode cX0_unnerved 3 = .ok (.istore_n 2, 1) := by decide +kernel
theorem dX0_unnerved_4 : decode cX0_unnerved 4 = .ok (.iload_n 2, 1) := by decide +kernel
theorem dX0_unnerved_5 : decode cX0_unnerved 5 = .ok (.aload_n 0, 1) := by decide +kernel
theorem dX0_unnerved_6 : decode cX0_unnerved 6 = .ok (.getfield 33, 3) := by decide +kernel
theorem dX0_unnerved_9 : decode cX0_unnerved 9 = .ok (.if_icmp .ge 24, 3) := by decide +kernel
theorem dX0_unnerved_12 : decode cX0_unnerved 12 = .ok (.aload_n 0, 1) := by decide +kernel
theorem dX0_unnerved_13 : decode cX0_unnerved 13 = .ok (.getfield 27, 3) := by decide +kernel
theorem dX0_unnerved_16 : decode cX0_unnerved 16 = .ok (.iload_n 2, 1) := by decide +kernel
theorem dX0_unnerved_17 : decode cX0_unnerved 17 = .ok (.iaload, 1) := by decide +kernel
theorem dX0_unnerved_18 : decode cX0_unnerved 18 = .ok (.ifCond .ne 9, 3) := by decide +kernel
theorem dX0_unnerved_21 : decode cX0_unnerved 21 = .ok (.iload_n 1, 1) := by decide +kernel
theorem dX0_unnerved_22 : decode cX0_unnerved 22 = .ok (.iconst 1, 1) := by decide +kernel
theorem dX0_unnerved_23 : decode cX0_unnerved 23 = .ok (.iload_n 2, 1) := by decide +kernel
theorem dX0_unnerved_24 : decode cX0_unnerved 24 = .ok (.ishl, 1) := by decide +kernel
theorem dX0_unnerved_25 : decode cX0_unnerved 25 = .ok (.ior, 1) := by decide +kernel
theorem dX0_unnerved_26 : decode cX0_unnerved 26 = .ok (.istore_n 1, 1) := by decide +kernel
theorem dX0_unnerved_27 : decode cX0_unnerved 27 = .ok (.iinc 2 1, 3) := by decide +kernel
theorem dX0_unnerved_30 : decode cX0_unnerved 30 = .ok (.goto (-26), 3) := by decide +kernel
theorem dX0_unnerved_33 : decode cX0_unnerved 33 = .ok (.iload_n 1, 1) := by decide +kernel
theorem dX0_unnerved_34 : decode cX0_unnerved 34 = .ok (.ireturn, 1) := by decide +kernel
theorem dX0_spotsTaken_0 : decode cX0_spotsTaken 0 = .ok (.iconst 0, 1) := by decide +kernel
theorem dX0_spotsTaken_1 : decode cX0_spotsTaken 1 = .ok (.istore_n 1, 1) := by decide +kernel
theorem dX0_spotsTaken_2 : decode cX0_spotsTaken 2 = .ok (.iconst 0, 1) := by decide +kernel
theorem dX0_spotsTaken_3 : decode cX0_spotsTaken 3 = .ok (.istore_n 2, 1) := by decide +kernel
theorem dX0_spotsTaken_4 : decode cX0_spotsTaken 4 = .ok (.iload_n 2, 1) := by decide +kernel
theorem dX0_spotsTaken_5 : decode cX0_spotsTaken 5 = .ok (.bipush 10, 2) := by decide +kernel
theorem dX0_spotsTaken_7 : decode cX0_spotsTaken 7 = .ok (.if_icmp .ge 21, 3) := by decide +kernel
theorem dX0_spotsTaken_10 : decode cX0_spotsTaken 10 = .ok (.aload_n 0, 1) := by decide +kernel
theorem dX0_spotsTaken_11 : decode cX0_spotsTaken 11 = .ok (.getfield 30, 3) := by decide +kernel
theorem dX0_spotsTaken_14 : decode cX0_spotsTaken 14 = .ok (.iload_n 2, 1) := by decide +kernel
theorem dX0_spotsTaken_15 : decode cX0_spotsTaken 15 = .ok (.iaload, 1) := by decide +kernel
theorem dX0_spotsTaken_16 : decode cX0_spotsTaken 16 = .ok (.ifCond .lt 6, 3) := by decide +kernel
theorem dX0_spotsTaken_19 : decode cX0_spotsTaken 19 = .ok (.iinc 1 1, 3) := by decide +kernel
theorem dX0_spotsTaken_22 : decode cX0_spotsTaken 22 = .ok (.iinc 2 1, 3) := by decide +kernel
theorem dX0_spotsTaken_25 : decode cX0_spotsTaken 25 = .ok (.goto (-21), 3) := by decide +kernel
theorem dX0_spotsTaken_28 : decode cX0_spotsTaken 28 = .ok (.iload_n 1, 1) := by decide +kernel
theorem dX0_spotsTaken_29 : decode cX0_spotsTaken 29 = .ok (.ireturn, 1) := by decide +kernel
theorem dX1_init_0 : decode cX1_init 0 = .ok (.aload_n 0, 1) := by decide +kernel
theorem dX1_init_1 : decode cX1_init 1 = .ok (.invokespecial 3, 3) := by decide +kernel
theorem dX1_init_4 : decode cX1_init 4 = .ok (.aload_n 0, 1) := by decide +kernel
theorem dX1_init_5 : decode cX1_init 5 = .ok (.bipush 40, 2) := by decide +kernel
theorem dX1_init_7 : decode cX1_init 7 = .ok (.newarray .int, 2) := by decide +kernel
theorem dX1_init_9 : decode cX1_init 9 = .ok (.putfield 9, 3) := by decide +kernel
theorem dX1_init_12 : decode cX1_init 12 = .ok (.aload_n 0, 1) := by decide +kernel
theorem dX1_init_13 : decode cX1_init 13 = .ok (.iconst 0, 1) := by decide +kernel
theorem dX1_init_14 : decode cX1_init 14 = .ok (.putfield 15, 3) := by decide +kernel
theorem dX1_init_17 : decode cX1_init 17 = .ok (.aload_n 0, 1) := by decide +kernel
theorem dX1_init_18 : decode cX1_init 18 = .ok (.iconst 0, 1) := by decide +kernel
theorem dX1_init_19 : decode cX1_init 19 = .ok (.putfield 19, 3) := by decide +kernel
theorem dX1_init_22 : decode cX1_init 22 = .ok (.return_, 1) := by decide +kernel
theorem dX1_isMissing_0 : decode cX1_isMissing 0 = .ok (.aload_n 0, 1) := by decide +kernel
theorem dX1_isMissing_1 : decode cX1_isMissing 1 = .ok (.getfield 15, 3) := by decide +kernel
theorem dX1_isMissing_4 : decode cX1_isMissing 4 = .ok (.ifCond .ne 7, 3) := by decide +kernel
theorem dX1_isMissing_7 : decode cX1_isMissing 7 = .ok (.iconst 1, 1) := by decide +kernel
theorem dX1_isMissing_8 : decode cX1_isMissing 8 = .ok (.goto 4, 3) := by decide +kernel
theorem dX1_isMissing_11 : decode cX1_isMissing 11 = .ok (.iconst 0, 1) := by decide +kernel
theorem dX1_isMissing_12 : decode cX1_isMissing 12 = .ok (.ireturn, 1) := by decide +kernel
theorem dX1_begin_0 : decode cX1_begin 0 = .ok (.aload_n 0, 1) := by decide +kernel
theorem dX1_begin_1 : decode cX1_begin 1 = .ok (.iload_n 1, 1) := by decide +kernel
theorem dX1_begin_2 : decode cX1_begin 2 = .ok (.putfield 15, 3) := by decide +kernel
theorem dX1_begin_5 : decode cX1_begin 5 = .ok (.aload_n 0, 1) := by decide +kernel
theorem dX1_begin_6 : decode cX1_begin 6 = .ok (.iload_n 1, 1) := by decide +kernel
theorem dX1_begin_7 : decode cX1_begin 7 = .ok (.ifCond .ne 7, 3) := by decide +kernel
theorem dX1_begin_10 : decode cX1_begin 10 = .ok (.iconst 0, 1) := by decide +kernel
theorem dX1_begin_11 : decode cX1_begin 11 = .ok (.goto 4, 3) := by decide +kernel
theorem dX1_begin_14 : decode cX1_begin 14 = .ok (.iload_n 2, 1) := by decide +kernel
theorem dX1_begin_15 : decode cX1_begin 15 = .ok (.putfield 19, 3) := by decide +kernel
theorem dX1_begin_18 : decode cX1_begin 18 = .ok (.iconst 0, 1) := by decide +kernel
theorem dX1_begin_19 : decode cX1_begin 19 = .ok (.istore_n 3, 1) := by decide +kernel
theorem dX1_begin_20 : decode cX1_begin 20 = .ok (.iload_n 3, 1) := by decide +kernel
theorem dX1_begin_21 : decode cX1_begin 21 = .ok (.bipush 40, 2) := by decide +kernel
theorem dX1_begin_23 : decode cX1_begin 23 = .ok (.if_icmp .ge 16, 3) := by decide +kernel
theorem dX1_begin_26 : decode cX1_begin 26 = .ok (.aload_n 0, 1) := by decide +kernel
theorem dX1_begin_27 : decode cX1_begin 27 = .ok (.getfield 9, 3) := by decide +kernel
theorem dX1_begin_30 : decode cX1_begin 30 = .ok (.iload_n 3, 1) := by decide +kernel
theorem dX1_begin_31 : decode cX1_begin 31 = .ok (.iconst 0, 1) := by decide +kernel
theorem dX1_begin_32 : decode cX1_begin 32 = .ok (.iastore, 1) := by decide +kernel
theorem dX1_begin_33 : decode cX1_begin 33 = .ok (.iinc 3 1, 3) := by decide +kernel
theorem dX1_begin_36 : decode cX1_begin 36 = .ok (.goto (-16), 3) := by decide +kernel
theorem dX1_begin_39 : decode cX1_begin 39 = .ok (.return_, 1) := by decide +kernel
theorem dX1_set_0 : decode cX1_set 0 = .ok (.aload_n 0, 1) := by decide +kernel
theorem dX1_set_1 : decode cX1_set 1 = .ok (.getfield 15, 3) := by decide +kernel
theorem dX1_set_4 : decode cX1_set 4 = .ok (.bipush 8, 2) := by decide +kernel
theorem dX1_set_6 : decode cX1_set 6 = .ok (.if_icmp .ne 14, 3) := by decide +kernel
theorem dX1_set_9 : decode cX1_set 9 = .ok (.aload_n 0, 1) := by decide +kernel
theorem dX1_set_10 : decode cX1_set 10 = .ok (.getfield 9, 3) := by decide +kernel
theorem dX1_set_13 : decode cX1_set 13 = .ok (.iload_n 1, 1) := by decide +kernel
theorem dX1_set_14 : decode cX1_set 14 = .ok (.iload_n 2, 1) := by decide +kernel
theorem dX1_set_15 : decode cX1_set 15 = .ok (.i2b, 1) := by decide +kernel
theorem dX1_set_16 : decode cX1_set 16 = .ok (.iastore, 1) := by decide +kernel
theorem dX1_set_17 : decode cX1_set 17 = .ok (.goto 30, 3) := by decide +kernel
theorem dX1_set_20 : decode cX1_set 20 = .ok (.aload_n 0, 1) := by decide +kernel
theorem dX1_set_21 : decode cX1_set 21 = .ok (.getfield 15, 3) := by decide +kernel
theorem dX1_set_24 : decode cX1_set 24 = .ok (.bipush 16, 2) := by decide +kernel
theorem dX1_set_26 : decode cX1_set 26 = .ok (.if_icmp .ne 14, 3) := by decide +kernel
theorem dX1_set_29 : decode cX1_set 29 = .ok (.aload_n 0, 1) := by decide +kernel
theorem dX1_set_30 : decode cX1_set 30 = .ok (.getfield 9, 3) := by decide +kernel
theorem dX1_set_33 : decode cX1_set 33 = .ok (.iload_n 1, 1) := by decide +kernel
theorem dX1_set_34 : decode cX1_set 34 = .ok (.iload_n 2, 1) := by decide +kernel
theorem dX1_set_35 : decode cX1_set 35 = .ok (.i2s, 1) := by decide +kernel
theorem dX1_set_36 : decode cX1_set 36 = .ok (.iastore, 1) := by decide +kernel
theorem dX1_set_37 : decode cX1_set 37 = .ok (.goto 10, 3) := by decide +kernel
theorem dX1_set_40 : decode cX1_set 40 = .ok (.aload_n 0, 1) := by decide +kernel
theorem dX1_set_41 : decode cX1_set 41 = .ok (.getfield 9, 3) := by decide +kernel
theorem dX1_set_44 : decode cX1_set 44 = .ok (.iload_n 1, 1) := by decide +kernel
theorem dX1_set_45 : decode cX1_set 45 = .ok (.iload_n 2, 1) := by decide +kernel
theorem dX1_set_46 : decode cX1_set 46 = .ok (.iastore, 1) := by decide +kernel
theorem dX1_set_47 : decode cX1_set 47 = .ok (.return_, 1) := by decide +kernel
theorem dX1_hasRange_0 : decode cX1_hasRange 0 = .ok (.iload_n 1, 1) := by decide +kernel
theorem dX1_hasRange_1 : decode cX1_hasRange 1 = .ok (.ifCond .lt 29, 3) := by decide +kernel
theorem dX1_hasRange_4 : decode cX1_hasRange 4 = .ok (.iload_n 2, 1) := by decide +kernel
theorem dX1_hasRange_5 : decode cX1_hasRange 5 = .ok (.ifCond .lt 25, 3) := by decide +kernel
theorem dX1_hasRange_8 : decode cX1_hasRange 8 = .ok (.iload_n 1, 1) := by decide +kernel
theorem dX1_hasRange_9 : decode cX1_hasRange 9 = .ok (.aload_n 0, 1) := by decide +kernel
theorem dX1_hasRange_10 : decode cX1_hasRange 10 = .ok (.getfield 19, 3) := by decide +kernel
theorem dX1_hasRange_13 : decode cX1_hasRange 13 = .ok (.if_icmp .gt 17, 3) := by decide +kernel
theorem dX1_hasRange_16 : decode cX1_hasRange 16 = .ok (.iload_n 2, 1) := by decide +kernel
theorem dX1_hasRange_17 : decode cX1_hasRange 17 = .ok (.aload_n 0, 1) := by decide +kernel
theorem dX1_hasRange_18 : decode cX1_hasRange 18 = .ok (.getfield 19, 3) := by decide +kernel
theorem dX1_hasRange_21 : decode cX1_hasRange 21 = .ok (.iload_n 1, 1) := by decide +kernel
theorem dX1_hasRange_22 : decode cX1_hasRange 22 = .ok (.isub, 1) := by decide +kernel
theorem dX1_hasRange_23 : decode cX1_hasRange 23 = .ok (.if_icmp .gt 7, 3) := by decide +kernel
theorem dX1_hasRange_26 : decode cX1_hasRange 26 = .ok (.iconst 1, 1) := by decide +kernel
theorem dX1_hasRange_27 : decode cX1_hasRange 27 = .ok (.goto 4, 3) := by decide +kernel
theorem dX1_hasRange_30 : decode cX1_hasRange 30 = .ok (.iconst 0, 1) := by decide +kernel
theorem dX1_hasRange_31 : decode cX1_hasRange 31 = .ok (.ireturn, 1) := by decide +kernel
theorem dX2_init_0 : decode cX2_init 0 = .ok (.aload_n 0, 1) := by decide +kernel
theorem dX2_init_1 : decode cX2_init 1 = .ok (.invokespecial 3, 3) := by decide +kernel
theorem dX2_init_4 : decode cX2_init 4 = .ok (.aload_n 0, 1) := by decide +kernel
theorem dX2_init_5 : decode cX2_init 5 = .ok (.iconst 0, 1) := by decide +kernel
theorem dX2_init_6 : decode cX2_init 6 = .ok (.putfield 9, 3) := by decide +kernel
theorem dX2_init_9 : decode cX2_init 9 = .ok (.aload_n 0, 1) := by decide +kernel
theorem dX2_init_10 : decode cX2_init 10 = .ok (.bipush 120, 2) := by decide +kernel
theorem dX2_init_12 : decode cX2_init 12 = .ok (.newarray .int, 2) := by decide +kernel
theorem dX2_init_14 : decode cX2_init 14 = .ok (.putfield 15, 3) := by decide +kernel
theorem dX2_init_17 : decode cX2_init 17 = .ok (.aload_n 0, 1) := by decide +kernel
theorem dX2_init_18 : decode cX2_init 18 = .ok (.iconst 0, 1) := by decide +kernel
theorem dX2_init_19 : decode cX2_init 19 = .ok (.putfield 19, 3) := by decide +kernel
theorem dX2_init_22 : decode cX2_init 22 = .ok (.aload_n 0, 1) := by decide +kernel
theorem dX2_init_23 : decode cX2_init 23 = .ok (.iconst 0, 1) := by decide +kernel
theorem dX2_init_24 : decode cX2_init 24 = .ok (.putfield 22, 3) := by decide +kernel
theorem dX2_init_27 : decode cX2_init 27 = .ok (.aload_n 0, 1) := by decide +kernel
theorem dX2_init_28 : decode cX2_init 28 = .ok (.iconst 0, 1) := by decide +kernel
theorem dX2_init_29 : decode cX2_init 29 = .ok (.putfield 25, 3) := by decide +kernel
theorem dX2_init_32 : decode cX2_init 32 = .ok (.aload_n 0, 1) := by decide +kernel
theorem dX2_init_33 : decode cX2_init 33 = .ok (.iconst 0, 1) := by decide +kernel
theorem dX2_init_34 : decode cX2_init 34 = .ok (.putfield 28, 3) := by decide +kernel
theorem dX2_init_37 : decode cX2_init 37 = .ok (.return_, 1) := by decide +kernel
theorem dX2_append_0 : decode cX2_append 0 = .ok (.aload_n 0, 1) := by decide +kernel
theorem dX2_append_1 : decode cX2_append 1 = .ok (.getfield 9, 3) := by decide +kernel
theorem dX2_append_4 : decode cX2_append 4 = .ok (.bipush 120, 2) := by decide +kernel
theorem dX2_append_6 : decode cX2_append 6 = .ok (.if_icmp .ge 23, 3) := by decide +kernel
theorem dX2_append_9 : decode cX2_append 9 = .ok (.aload_n 0, 1) := by decide +kernel
theorem dX2_append_10 : decode cX2_append 10 = .ok (.getfield 15, 3) := by decide +kernel
theorem dX2_append_13 : decode cX2_append 13 = .ok (.aload_n 0, 1) := by decide +kernel
theorem dX2_append_14 : decode cX2_append 14 = .ok (.getfield 9, 3) := by decide +kernel
theorem dX2_append_17 : decode cX2_append 17 = .ok (.iload_n 1, 1) := by decide +kernel
theorem dX2_append_18 : decode cX2_append 18 = .ok (.iastore, 1) := by decide +kernel
theorem dX2_append_19 : decode cX2_append 19 = .ok (.aload_n 0, 1) := by decide +kernel
theorem dX2_append_20 : decode cX2_append 20 = .ok (.dup, 1) := by decide +kernel
theorem dX2_append_21 : decode cX2_append 21 = .ok (.getfield 9, 3) := by decide +kernel
theorem dX2_append_24 : decode cX2_append 24 = .ok (.iconst 1, 1) := by decide +kernel
theorem dX2_append_25 : decode cX2_append 25 = .ok (.iadd, 1) := by decide +kernel
theorem dX2_append_26 : decode cX2_append 26 = .ok (.putfield 9, 3) := by decide +kernel
theorem dX2_append_29 : decode cX2_append 29 = .ok (.return_, 1) := by decide +kernel
set_option maxRecDepth 20000 in
theorem ggX2_tellTo_X2_advance : GoodIn wsX2_tellTo wsX2_advance := goodIn_r _ [8, 1, 9, 3, 10, 2, 11, 12, 13, 14, 15, 16, 17, 7, 18, 19, 20, 21, 22, 23, 24, 25, 26, 27, 28, 122, 123, 124, 125, 126, 127] (by decide +kernel) (by decide +kernel)
set_option maxRecDepth 20000 in
theorem gX2_tellTo_X2_advance : GoodIn wsX2_tellTo (wsV RX2 31 RX2 yX2_advance wsX2_advance) := goodIn_app (goodIn_of _ (by decide +kernel)) ggX2_tellTo_X2_advance
set_option maxRecDepth 20000 in
theorem ggX2_tellTo_X2_takeItem : GoodIn wsX2_tellTo wsX2_takeItem := goodIn_r _ [32, 33, 34, 35, 36, 37, 38, 39, 40, 7, 41, 2, 1, 3, 42, 43, 44, 45, 46, 47, 48, 49, 50, 51, 52, 53, 15, 16, 17, 18, 9, 19, 54, 55, 56, 57, 58, 59, 60, 61, 62, 63, 64, 65, 66, 67, 68, 69, 70, 71, 72, 73, 74, 75, 76, 77, 78, 79, 80, 81, 82, 83, 84, 85, 86, 87, 88, 89, 90, 91, 92, 93, 94, 10, 95, 4, 5, 6, 8, 11, 12, 13, 14, 20, 21, 22, 23, 24, 25, 26, 27, 28, 96, 97, 98, 99, 100, 101, 102, 103, 104, 105, 106, 107, 108, 109, 110, 111, 112, 113, 114, 115, 116, 117, 118, 119, 120, 121, 128, 129, 130, 131, 132, 133, 134, 135, 136, 137, 138, 139, 140, 122, 123, 124, 125, 126, 127] (by decide +kernel) (by decide +kernel)
set_option maxRecDepth 20000 in
theorem gX2_tellTo_X2_takeItem : GoodIn wsX2_tellTo (wsV RX2 34 RX2 yX2_takeItem wsX2_takeItem) := goodIn_app (goodIn_of _ (by decide +kernel)) ggX2_tellTo_X2_takeItem
theorem dX2_tellTo_0 : decode cX2_tellTo 0 = .ok (.aload_n 0, 1) := by decide +kernel
theorem dX2_tellTo_1 : decode cX2_tellTo 1 = .ok (.iconst 0, 1) := by decide +kernel
theorem dX2_tellTo_2 : decode cX2_tellTo 2 = .ok (.putfield 25, 3) := by decide +kernel
theorem dX2_tellTo_5 : decode cX2_tellTo 5 = .ok (.aload_n 0, 1) := by decide +kernel
theorem dX2_tellTo_6 : decode cX2_tellTo 6 = .ok (.invokevirtual 31, 3) := by decide +kernel
theorem dX2_tellTo_9 : decode cX2_tellTo 9 = .ok (.iconst 1, 1) := by decide +kernel
theorem dX2_tellTo_10 : decode cX2_tellTo 10 = .ok (.istore_n 2, 1) := by decide +kernel
theorem dX2_tellTo_11 : decode cX2_tellTo 11 = .ok (.iload_n 2, 1) := by decide +kernel
theorem dX2_tellTo_12 : decode cX2_tellTo 12 = .ok (.bipush 120, 2) := by decide +kernel
theorem dX2_tellTo_14 : decode cX2_tellTo 14 = .ok (.if_icmp .gt 44, 3) := by decide +kernel
theorem dX2_tellTo_17 : decode cX2_tellTo 17 = .ok (.aload_n 0, 1) := by decide +kernel
theorem dX2_tellTo_18 : decode cX2_tellTo 18 = .ok (.aload_n 1, 1) := by decide +kernel
theorem dX2_tellTo_19 : decode cX2_tellTo 19 = .ok (.invokevirtual 34, 3) := by decide +kernel
theorem dX2_tellTo_22 : decode cX2_tellTo 22 = .ok (.ifCond .ne 6, 3) := by decide +kernel
theorem dX2_tellTo_25 : decode cX2_tellTo 25 = .ok (.goto 33, 3) := by decide +kernel
theorem dX2_tellTo_28 : decode cX2_tellTo 28 = .ok (.aload_n 0, 1) := by decide +kernel
theorem dX2_tellTo_29 : decode cX2_tellTo 29 = .ok (.getfield 19, 3) := by decide +kernel
theorem dX2_tellTo_32 : decode cX2_tellTo 32 = .ok (.ifCond .ne 5, 3) := by decide +kernel
theorem dX2_tellTo_35 : decode cX2_tellTo 35 = .ok (.iload_n 2, 1) := by decide +kernel
theorem dX2_tellTo_36 : decode cX2_tellTo 36 = .ok (.ireturn, 1) := by decide +kernel
theorem dX2_tellTo_37 : decode cX2_tellTo 37 = .ok (.aload_n 0, 1) := by decide +kernel
theorem dX2_tellTo_38 : decode cX2_tellTo 38 = .ok (.getfield 19, 3) := by decide +kernel
theorem dX2_tellTo_41 : decode cX2_tellTo 41 = .ok (.iconst 3, 1) := by decide +kernel
theorem dX2_tellTo_42 : decode cX2_tellTo 42 = .ok (.if_icmp .eq 6, 3) := by decide +kernel
theorem dX2_tellTo_45 : decode cX2_tellTo 45 = .ok (.goto 13, 3) := by decide +kernel
theorem dX2_tellTo_48 : decode cX2_tellTo 48 = .ok (.aload_n 0, 1) := by decide +kernel
theorem dX2_tellTo_49 : decode cX2_tellTo 49 = .ok (.invokevirtual 31, 3) := by decide +kernel
theorem dX2_tellTo_52 : decode cX2_tellTo 52 = .ok (.iinc 2 1, 3) := by decide +kernel
theorem dX2_tellTo_55 : decode cX2_tellTo 55 = .ok (.goto (-44), 3) := by decide +kernel
theorem dX2_tellTo_58 : decode cX2_tellTo 58 = .ok (.iconst (-1), 1) := by decide +kernel
theorem dX2_tellTo_59 : decode cX2_tellTo 59 = .ok (.aload_n 0, 1) := by decide +kernel
theorem dX2_tellTo_60 : decode cX2_tellTo 60 = .ok (.getfield 22, 3) := by decide +kernel
theorem dX2_tellTo_63 : decode cX2_tellTo 63 = .ok (.isub, 1) := by decide +kernel
theorem dX2_tellTo_64 : decode cX2_tellTo 64 = .ok (.ireturn, 1) := by decide +kernel
set_option maxRecDepth 20000 in
theorem ggX2_takeItem_X2_isWord : GoodIn wsX2_takeItem wsX2_isWord := goodIn_r _ [10, 11, 12, 13, 14, 15, 16, 17, 18, 19, 20, 21, 22, 23, 24, 25, 26, 27, 28, 9, 29, 30, 31, 32, 33, 34, 35, 36, 37, 38, 39, 40, 41, 42, 43, 44, 45, 46, 47, 48, 49, 50, 51, 52, 53, 54, 55, 56, 57, 58, 59, 60, 61, 62, 63, 64, 65, 66, 67, 68, 131, 132, 133, 134, 135, 136] (by decide +kernel) (by decide +kernel)
set_option maxRecDepth 20000 in
theorem gX2_takeItem_X2_isWord : GoodIn wsX2_takeItem (wsV RX2 40 RX2 yX2_isWord wsX2_isWord) := goodIn_app (goodIn_of _ (by decide +kernel)) ggX2_takeItem_X2_isWord
set_option maxRecDepth 20000 in
theorem ggX2_takeItem_X2_takeBar : GoodIn wsX2_takeItem wsX2_takeBar := goodIn_r _ [72, 73, 74, 75, 76, 77, 9, 78, 12, 30, 13, 11, 79, 80, 81, 82, 26, 27, 28, 29, 31, 83, 84, 85, 86, 87, 88, 89, 90, 91, 92, 93, 94, 95, 131, 132, 133, 134, 135, 136, 118, 119, 120, 121, 122, 123, 124, 125, 126, 127, 128, 129, 130] (by decide +kernel) (by decide +kernel)
set_option maxRecDepth 20000 in
theorem gX2_takeItem_X2_takeBar : GoodIn wsX2_takeItem (wsV RX2 44 RX2 yX2_takeBar wsX2_takeBar) := goodIn_app (goodIn_of _ (by decide +kernel)) ggX2_takeItem_X2_takeBar
set_option maxRecDepth 20000 in
theorem ggX2_takeItem_X2_kindTold : GoodIn wsX2_takeItem wsX2_kindTold := goodIn_r _ [99, 100, 101, 9, 102, 6, 7, 8, 10, 11, 12, 13, 14, 15, 16, 17, 18, 19, 20, 21, 22, 23, 24, 25, 26, 27, 28, 29, 30, 31, 32, 33, 34, 35, 36, 37, 38, 39, 40, 41, 42, 43, 44, 45, 46, 47, 48, 49, 50, 51, 52, 53, 54, 55, 56, 57, 58, 59, 60, 61, 62, 63, 64, 65, 66, 67, 68, 131, 132, 133, 134, 135, 136] (by decide +kernel) (by decide +kernel)
set_option maxRecDepth 20000 in
theorem gX2_takeItem_X2_kindTold : GoodIn wsX2_takeItem (wsV RX2 47 RX2 yX2_kindTold wsX2_kindTold) := goodIn_app (goodIn_of _ (by decide +kernel)) ggX2_takeItem_X2_kindTold
set_option maxRecDepth 20000 in
theorem ggX2_takeItem_X0_engage : GoodIn wsX2_takeItem wsX0_engage := goodIn_r _ [107, 108, 109, 110, 111, 112, 113, 118, 119, 120, 121, 122, 123, 124, 125, 126, 127, 128, 129, 130] (by decide +kernel) (by decide +kernel)
set_option maxRecDepth 20000 in
theorem gX2_takeItem_X0_engage : GoodIn wsX2_takeItem (wsV RX2 56 RX0 yX0_engage wsX0_engage) := goodIn_app (goodIn_of _ (by decide +kernel)) ggX2_takeItem_X0_engage
set_option maxRecDepth 20000 in
theorem ggX2_takeItem_X2_advance : GoodIn wsX2_takeItem wsX2_advance := goodIn_r _ [78, 12, 30, 13, 73, 11, 79, 80, 81, 82, 26, 27, 28, 9, 29, 31, 83, 84, 85, 86, 87, 88, 89, 90, 91, 131, 132, 133, 134, 135, 136] (by decide +kernel) (by decide +kernel)
set_option maxRecDepth 20000 in
theorem gX2_takeItem_X2_advance : GoodIn wsX2_takeItem (wsV RX2 31 RX2 yX2_advance wsX2_advance) := goodIn_app (goodIn_of _ (by decide +kernel)) ggX2_takeItem_X2_advance
set_option maxRecDepth 20000 in
theorem ggX2_takeItem_X2_takePerhaps : GoodIn wsX2_takeItem wsX2_takePerhaps := goodIn_r _ [117, 73, 6, 7, 8, 9, 10, 11, 12, 13, 14, 15, 16, 17, 18, 19, 20, 21, 22, 23, 24, 25, 26, 27, 28, 29, 30, 31, 32, 33, 34, 35, 36, 37, 38, 39, 40, 41, 42, 43, 44, 45, 46, 47, 48, 49, 50, 51, 52, 53, 54, 55, 56, 57, 58, 59, 60, 61, 62, 63, 64, 65, 66, 67, 68, 75, 76, 77, 78, 79, 80, 81, 82, 83, 84, 85, 86, 87, 88, 89, 90, 91, 92, 93, 94, 95, 131, 132, 133, 134, 135, 136] (by decide +kernel) (by decide +kernel)
set_option maxRecDepth 20000 in
theorem gX2_takeItem_X2_takePerhaps : GoodIn wsX2_takeItem (wsV RX2 65 RX2 yX2_takePerhaps wsX2_takePerhaps) := goodIn_app (goodIn_of _ (by decide +kernel)) ggX2_takeItem_X2_takePerhaps
theorem dX2_takeItem_0 : decode cX2_takeItem 0 = .ok (.aload_n 0, 1) := by decide +kernel
theorem dX2_takeItem_1 : decode cX2_takeItem 1 = .ok (.ldc 38, 2) := by decide +kernel
theorem dX2_takeItem_3 : decode cX2_takeItem 3 = .ok (.invokevirtual 40, 3) := by decide +kernel
theorem dX2_takeItem_6 : decode cX2_takeItem 6 = .ok (.ifCond .eq 9, 3) := by decide +kernel
theorem dX2_takeItem_9 : decode cX2_takeItem 9 = .ok (.aload_n 0, 1) := by decide +kernel
theorem dX2_takeItem_10 : decode cX2_takeItem 10 = .ok (.aload_n 1, 1) := by decide +kernel
theorem dX2_takeItem_11 : decode cX2_takeItem 11 = .ok (.invokevirtual 44, 3) := by decide +kernel
theorem dX2_takeItem_14 : decode cX2_takeItem 14 = .ok (.ireturn, 1) := by decide +kernel
theorem dX2_takeItem_15 : decode cX2_takeItem 15 = .ok (.aload_n 0, 1) := by decide +kernel
theorem dX2_takeItem_16 : decode cX2_takeItem 16 = .ok (.invokevirtual 47, 3) := by decide +kernel
theorem dX2_takeItem_19 : decode cX2_takeItem 19 = .ok (.istore_n 2, 1) := by decide +kernel
theorem dX2_takeItem_20 : decode cX2_takeItem 20 = .ok (.iload_n 2, 1) := by decide +kernel
theorem dX2_takeItem_21 : decode cX2_takeItem 21 = .ok (.ifCond .lt 12, 3) := by decide +kernel
theorem dX2_takeItem_24 : decode cX2_takeItem 24 = .ok (.aload_n 1, 1) := by decide +kernel
theorem dX2_takeItem_25 : decode cX2_takeItem 25 = .ok (.getfield 51, 3) := by decide +kernel
theorem dX2_takeItem_28 : decode cX2_takeItem 28 = .ok (.bipush 8, 2) := by decide +kernel
theorem dX2_takeItem_30 : decode cX2_takeItem 30 = .ok (.if_icmp .lt 5, 3) := by decide +kernel
theorem dX2_takeItem_33 : decode cX2_takeItem 33 = .ok (.iconst 0, 1) := by decide +kernel
theorem dX2_takeItem_34 : decode cX2_takeItem 34 = .ok (.ireturn, 1) := by decide +kernel
theorem dX2_takeItem_35 : decode cX2_takeItem 35 = .ok (.aload_n 1, 1) := by decide +kernel
theorem dX2_takeItem_36 : decode cX2_takeItem 36 = .ok (.iload_n 2, 1) := by decide +kernel
theorem dX2_takeItem_37 : decode cX2_takeItem 37 = .ok (.iconst 0, 1) := by decide +kernel
theorem dX2_takeItem_38 : decode cX2_takeItem 38 = .ok (.invokevirtual 56, 3) := by decide +kernel
theorem dX2_takeItem_41 : decode cX2_takeItem 41 = .ok (.istore_n 3, 1) := by decide +kernel
theorem dX2_takeItem_42 : decode cX2_takeItem 42 = .ok (.aload_n 0, 1) := by decide +kernel
theorem dX2_takeItem_43 : decode cX2_takeItem 43 = .ok (.invokevirtual 31, 3) := by decide +kernel
theorem dX2_takeItem_46 : decode cX2_takeItem 46 = .ok (.aload_n 0, 1) := by decide +kernel
theorem dX2_takeItem_47 : decode cX2_takeItem 47 = .ok (.ldc 60, 2) := by decide +kernel
theorem dX2_takeItem_49 : decode cX2_takeItem 49 = .ok (.aload_n 1, 1) := by decide +kernel
theorem dX2_takeItem_50 : decode cX2_takeItem 50 = .ok (.getfield 62, 3) := by decide +kernel
theorem dX2_takeItem_53 : decode cX2_takeItem 53 = .ok (.iload_n 3, 1) := by decide +kernel
theorem dX2_takeItem_54 : decode cX2_takeItem 54 = .ok (.bipush 15, 2) := by decide +kernel
theorem dX2_takeItem_56 : decode cX2_takeItem 56 = .ok (.invokevirtual 65, 3) := by decide +kernel
theorem dX2_takeItem_59 : decode cX2_takeItem 59 = .ok (.ifCond .eq 54, 3) := by decide +kernel
theorem dX2_takeItem_62 : decode cX2_takeItem 62 = .ok (.aload_n 0, 1) := by decide +kernel
theorem dX2_takeItem_63 : decode cX2_takeItem 63 = .ok (.ldc 69, 2) := by decide +kernel
theorem dX2_takeItem_65 : decode cX2_takeItem 65 = .ok (.aload_n 1, 1) := by decide +kernel
theorem dX2_takeItem_66 : decode cX2_takeItem 66 = .ok (.getfield 71, 3) := by decide +kernel
theorem dX2_takeItem_69 : decode cX2_takeItem 69 = .ok (.iload_n 3, 1) := by decide +kernel
theorem dX2_takeItem_70 : decode cX2_takeItem 70 = .ok (.iconst 5, 1) := by decide +kernel
theorem dX2_takeItem_71 : decode cX2_takeItem 71 = .ok (.invokevirtual 65, 3) := by decide +kernel
theorem dX2_takeItem_74 : decode cX2_takeItem 74 = .ok (.ifCond .eq 39, 3) := by decide +kernel
theorem dX2_takeItem_77 : decode cX2_takeItem 77 = .ok (.aload_n 0, 1) := by decide +kernel
theorem dX2_takeItem_78 : decode cX2_takeItem 78 = .ok (.ldc 73, 2) := by decide +kernel
theorem dX2_takeItem_80 : decode cX2_takeItem 80 = .ok (.aload_n 1, 1) := by decide +kernel
theorem dX2_takeItem_81 : decode cX2_takeItem 81 = .ok (.getfield 75, 3) := by decide +kernel
theorem dX2_takeItem_84 : decode cX2_takeItem 84 = .ok (.iload_n 3, 1) := by decide +kernel
theorem dX2_takeItem_85 : decode cX2_takeItem 85 = .ok (.bipush 9, 2) := by decide +kernel
theorem dX2_takeItem_87 : decode cX2_takeItem 87 = .ok (.invokevirtual 65, 3) := by decide +kernel
theorem dX2_takeItem_90 : decode cX2_takeItem 90 = .ok (.ifCond .eq 23, 3) := by decide +kernel
theorem dX2_takeItem_93 : decode cX2_takeItem 93 = .ok (.aload_n 0, 1) := by decide +kernel
theorem dX2_takeItem_94 : decode cX2_takeItem 94 = .ok (.ldc 77, 2) := by decide +kernel
theorem dX2_takeItem_96 : decode cX2_takeItem 96 = .ok (.aload_n 1, 1) := by decide +kernel
theorem dX2_takeItem_97 : decode cX2_takeItem 97 = .ok (.getfield 79, 3) := by decide +kernel
theorem dX2_takeItem_100 : decode cX2_takeItem 100 = .ok (.iload_n 3, 1) := by decide +kernel
theorem dX2_takeItem_101 : decode cX2_takeItem 101 = .ok (.bipush 99, 2) := by decide +kernel
theorem dX2_takeItem_103 : decode cX2_takeItem 103 = .ok (.invokevirtual 65, 3) := by decide +kernel
theorem dX2_takeItem_106 : decode cX2_takeItem 106 = .ok (.ifCond .eq 7, 3) := by decide +kernel
theorem dX2_takeItem_109 : decode cX2_takeItem 109 = .ok (.iconst 1, 1) := by decide +kernel
theorem dX2_takeItem_110 : decode cX2_takeItem 110 = .ok (.goto 4, 3) := by decide +kernel
theorem dX2_takeItem_113 : decode cX2_takeItem 113 = .ok (.iconst 0, 1) := by decide +kernel
theorem dX2_takeItem_114 : decode cX2_takeItem 114 = .ok (.ireturn, 1) := by decide +kernel
set_option maxRecDepth 20000 in
theorem ggX2_takeBar_X2_advance : GoodIn wsX2_takeBar wsX2_advance := goodIn_r _ [7, 8, 9, 10, 1, 11, 12, 13, 14, 15, 16, 17, 18, 6, 19, 20, 21, 22, 23, 24, 25, 26, 27, 28, 29, 34, 35, 36, 37, 38, 39] (by decide +kernel) (by decide +kernel)
set_option maxRecDepth 20000 in
theorem gX2_takeBar_X2_advance : GoodIn wsX2_takeBar (wsV RX2 31 RX2 yX2_advance wsX2_advance) := goodIn_app (goodIn_of _ (by decide +kernel)) ggX2_takeBar_X2_advance
set_option maxRecDepth 20000 in
theorem ggX2_takeBar_X2_takeNumber : GoodIn wsX2_takeBar wsX2_takeNumber := goodIn_r _ [33, 11, 1, 3, 4, 5, 6, 7, 8, 9, 10, 12, 13, 14, 15, 16, 17, 18, 19, 20, 21, 22, 23, 24, 25, 26, 27, 28, 29, 34, 35, 36, 37, 38, 39] (by decide +kernel) (by decide +kernel)
set_option maxRecDepth 20000 in
theorem gX2_takeBar_X2_takeNumber : GoodIn wsX2_takeBar (wsV RX2 81 RX2 yX2_takeNumber wsX2_takeNumber) := goodIn_app (goodIn_of _ (by decide +kernel)) ggX2_takeBar_X2_takeNumber
theorem dX2_takeBar_0 : decode cX2_takeBar 0 = .ok (.aload_n 0, 1) := by decide +kernel
theorem dX2_takeBar_1 : decode cX2_takeBar 1 = .ok (.invokevirtual 31, 3) := by decide +kernel
theorem dX2_takeBar_4 : decode cX2_takeBar 4 = .ok (.aload_n 0, 1) := by decide +kernel
theorem dX2_takeBar_5 : decode cX2_takeBar 5 = .ok (.getfield 28, 3) := by decide +kernel
theorem dX2_takeBar_8 : decode cX2_takeBar 8 = .ok (.istore_n 2, 1) := by decide +kernel
theorem dX2_takeBar_9 : decode cX2_takeBar 9 = .ok (.aload_n 0, 1) := by decide +kernel
theorem dX2_takeBar_10 : decode cX2_takeBar 10 = .ok (.bipush 11, 2) := by decide +kernel
theorem dX2_takeBar_12 : decode cX2_takeBar 12 = .ok (.invokevirtual 81, 3) := by decide +kernel
theorem dX2_takeBar_15 : decode cX2_takeBar 15 = .ok (.ifCond .ne 5, 3) := by decide +kernel
theorem dX2_takeBar_18 : decode cX2_takeBar 18 = .ok (.iconst 0, 1) := by decide +kernel
theorem dX2_takeBar_19 : decode cX2_takeBar 19 = .ok (.ireturn, 1) := by decide +kernel
theorem dX2_takeBar_20 : decode cX2_takeBar 20 = .ok (.aload_n 0, 1) := by decide +kernel
theorem dX2_takeBar_21 : decode cX2_takeBar 21 = .ok (.getfield 28, 3) := by decide +kernel
theorem dX2_takeBar_24 : decode cX2_takeBar 24 = .ok (.istore_n 3, 1) := by decide +kernel
theorem dX2_takeBar_25 : decode cX2_takeBar 25 = .ok (.aload_n 0, 1) := by decide +kernel
theorem dX2_takeBar_26 : decode cX2_takeBar 26 = .ok (.bipush 63, 2) := by decide +kernel
theorem dX2_takeBar_28 : decode cX2_takeBar 28 = .ok (.invokevirtual 81, 3) := by decide +kernel
theorem dX2_takeBar_31 : decode cX2_takeBar 31 = .ok (.ifCond .ne 5, 3) := by decide +kernel
theorem dX2_takeBar_34 : decode cX2_takeBar 34 = .ok (.iconst 0, 1) := by decide +kernel
theorem dX2_takeBar_35 : decode cX2_takeBar 35 = .ok (.ireturn, 1) := by decide +kernel
theorem dX2_takeBar_36 : decode cX2_takeBar 36 = .ok (.aload_n 1, 1) := by decide +kernel
theorem dX2_takeBar_37 : decode cX2_takeBar 37 = .ok (.getfield 85, 3) := by decide +kernel
theorem dX2_takeBar_40 : decode cX2_takeBar 40 = .ok (.iload_n 2, 1) := by decide +kernel
theorem dX2_takeBar_41 : decode cX2_takeBar 41 = .ok (.iload_n 3, 1) := by decide +kernel
theorem dX2_takeBar_42 : decode cX2_takeBar 42 = .ok (.iastore, 1) := by decide +kernel
theorem dX2_takeBar_43 : decode cX2_takeBar 43 = .ok (.iconst 1, 1) := by decide +kernel
theorem dX2_takeBar_44 : decode cX2_takeBar 44 = .ok (.ireturn, 1) := by decide +kernel
set_option maxRecDepth 20000 in
theorem ggX2_takePerhaps_X2_isWord : GoodIn wsX2_takePerhaps wsX2_isWord := goodIn_r _ [6, 7, 8, 9, 10, 11, 12, 13, 14, 15, 16, 17, 18, 19, 20, 21, 22, 23, 24, 5, 25, 26, 27, 28, 29, 30, 31, 32, 33, 34, 35, 36, 37, 38, 39, 40, 41, 42, 43, 44, 45, 46, 47, 48, 49, 50, 51, 52, 53, 54, 55, 56, 57, 58, 59, 60, 61, 62, 63, 64, 86, 87, 88, 89, 90, 91] (by decide +kernel) (by decide +kernel)
set_option maxRecDepth 20000 in
theorem gX2_takePerhaps_X2_isWord : GoodIn wsX2_takePerhaps (wsV RX2 40 RX2 yX2_isWord wsX2_isWord) := goodIn_app (goodIn_of _ (by decide +kernel)) ggX2_takePerhaps_X2_isWord
set_option maxRecDepth 20000 in
theorem ggX2_takePerhaps_X2_advance : GoodIn wsX2_takePerhaps wsX2_advance := goodIn_r _ [68, 8, 26, 9, 1, 7, 69, 70, 71, 72, 22, 23, 24, 5, 25, 27, 73, 74, 75, 76, 77, 78, 79, 80, 81, 86, 87, 88, 89, 90, 91] (by decide +kernel) (by decide +kernel)
set_option maxRecDepth 20000 in
theorem gX2_takePerhaps_X2_advance : GoodIn wsX2_takePerhaps (wsV RX2 31 RX2 yX2_advance wsX2_advance) := goodIn_app (goodIn_of _ (by decide +kernel)) ggX2_takePerhaps_X2_advance
set_option maxRecDepth 20000 in
theorem ggX2_takePerhaps_X2_takeNumber : GoodIn wsX2_takePerhaps wsX2_takeNumber := goodIn_r _ [85, 7, 1, 65, 66, 67, 5, 68, 8, 26, 9, 69, 70, 71, 72, 22, 23, 24, 25, 27, 73, 74, 75, 76, 77, 78, 79, 80, 81, 86, 87, 88, 89, 90, 91] (by decide +kernel) (by decide +kernel)
set_option maxRecDepth 20000 in
theorem gX2_takePerhaps_X2_takeNumber : GoodIn wsX2_takePerhaps (wsV RX2 81 RX2 yX2_takeNumber wsX2_takeNumber) := goodIn_app (goodIn_of _ (by decide +kernel)) ggX2_takePerhaps_X2_takeNumber
theorem dX2_takePerhaps_0 : decode cX2_takePerhaps 0 = .ok (.aload_n 0, 1) := by decide +kernel
theorem dX2_takePerhaps_1 : decode cX2_takePerhaps 1 = .ok (.aload_n 1, 1) := by decide +kernel
theorem dX2_takePerhaps_2 : decode cX2_takePerhaps 2 = .ok (.invokevirtual 40, 3) := by decide +kernel
theorem dX2_takePerhaps_5 : decode cX2_takePerhaps 5 = .ok (.ifCond .ne 5, 3) := by decide +kernel
theorem dX2_takePerhaps_8 : decode cX2_takePerhaps 8 = .ok (.iconst 1, 1) := by decide +kernel
theorem dX2_takePerhaps_9 : decode cX2_takePerhaps 9 = .ok (.ireturn, 1) := by decide +kernel
theorem dX2_takePerhaps_10 : decode cX2_takePerhaps 10 = .ok (.aload_n 0, 1) := by decide +kernel
theorem dX2_takePerhaps_11 : decode cX2_takePerhaps 11 = .ok (.invokevirtual 31, 3) := by decide +kernel
theorem dX2_takePerhaps_14 : decode cX2_takePerhaps 14 = .ok (.aload_n 0, 1) := by decide +kernel
theorem dX2_takePerhaps_15 : decode cX2_takePerhaps 15 = .ok (.getfield 28, 3) := by decide +kernel
theorem dX2_takePerhaps_18 : decode cX2_takePerhaps 18 = .ok (.istore 5, 2) := by decide +kernel
theorem dX2_takePerhaps_20 : decode cX2_takePerhaps 20 = .ok (.aload_n 0, 1) := by decide +kernel
theorem dX2_takePerhaps_21 : decode cX2_takePerhaps 21 = .ok (.iload 4, 2) := by decide +kernel
theorem dX2_takePerhaps_23 : decode cX2_takePerhaps 23 = .ok (.invokevirtual 81, 3) := by decide +kernel
theorem dX2_takePerhaps_26 : decode cX2_takePerhaps 26 = .ok (.ifCond .ne 5, 3) := by decide +kernel
theorem dX2_takePerhaps_29 : decode cX2_takePerhaps 29 = .ok (.iconst 0, 1) := by decide +kernel
theorem dX2_takePerhaps_30 : decode cX2_takePerhaps 30 = .ok (.ireturn, 1) := by decide +kernel
theorem dX2_takePerhaps_31 : decode cX2_takePerhaps 31 = .ok (.aload_n 2, 1) := by decide +kernel
theorem dX2_takePerhaps_32 : decode cX2_takePerhaps 32 = .ok (.iload_n 3, 1) := by decide +kernel
theorem dX2_takePerhaps_33 : decode cX2_takePerhaps 33 = .ok (.iload 5, 2) := by decide +kernel
theorem dX2_takePerhaps_35 : decode cX2_takePerhaps 35 = .ok (.iastore, 1) := by decide +kernel
theorem dX2_takePerhaps_36 : decode cX2_takePerhaps 36 = .ok (.iconst 1, 1) := by decide +kernel
theorem dX2_takePerhaps_37 : decode cX2_takePerhaps 37 = .ok (.ireturn, 1) := by decide +kernel
set_option maxRecDepth 20000 in
theorem ggX2_takeNumber_X2_advance : GoodIn wsX2_takeNumber wsX2_advance := goodIn_r _ [7, 8, 9, 10, 2, 1, 11, 12, 13, 14, 15, 16, 17, 6, 18, 19, 20, 21, 22, 23, 24, 25, 26, 27, 28, 29, 30, 31, 32, 33, 34] (by decide +kernel) (by decide +kernel)
set_option maxRecDepth 20000 in
theorem gX2_takeNumber_X2_advance : GoodIn wsX2_takeNumber (wsV RX2 31 RX2 yX2_advance wsX2_advance) := goodIn_app (goodIn_of _ (by decide +kernel)) ggX2_takeNumber_X2_advance
theorem dX2_takeNumber_0 : decode cX2_takeNumber 0 = .ok (.aload_n 0, 1) := by decide +kernel
theorem dX2_takeNumber_1 : decode cX2_takeNumber 1 = .ok (.getfield 19, 3) := by decide +kernel
theorem dX2_takeNumber_4 : decode cX2_takeNumber 4 = .ok (.iconst 2, 1) := by decide +kernel
theorem dX2_takeNumber_5 : decode cX2_takeNumber 5 = .ok (.if_icmp .ne 11, 3) := by decide +kernel
theorem dX2_takeNumber_8 : decode cX2_takeNumber 8 = .ok (.aload_n 0, 1) := by decide +kernel
theorem dX2_takeNumber_9 : decode cX2_takeNumber 9 = .ok (.getfield 28, 3) := by decide +kernel
theorem dX2_takeNumber_12 : decode cX2_takeNumber 12 = .ok (.iload_n 1, 1) := by decide +kernel
theorem dX2_takeNumber_13 : decode cX2_takeNumber 13 = .ok (.if_icmp .le 5, 3) := by decide +kernel
theorem dX2_takeNumber_16 : decode cX2_takeNumber 16 = .ok (.iconst 0, 1) := by decide +kernel
theorem dX2_takeNumber_17 : decode cX2_takeNumber 17 = .ok (.ireturn, 1) := by decide +kernel
theorem dX2_takeNumber_18 : decode cX2_takeNumber 18 = .ok (.aload_n 0, 1) := by decide +kernel
theorem dX2_takeNumber_19 : decode cX2_takeNumber 19 = .ok (.invokevirtual 31, 3) := by decide +kernel
theorem dX2_takeNumber_22 : decode cX2_takeNumber 22 = .ok (.iconst 1, 1) := by decide +kernel
theorem dX2_takeNumber_23 : decode cX2_takeNumber 23 = .ok (.ireturn, 1) := by decide +kernel
set_option maxRecDepth 20000 in
theorem ggX2_kindTold_X2_wordOf : GoodIn wsX2_kindTold wsX2_wordOf := goodIn_r _ [4] (by decide +kernel) (by decide +kernel)
set_option maxRecDepth 20000 in
theorem gX2_kindTold_X2_wordOf : GoodIn wsX2_kindTold (va_wsS RX2 88 yX2_wordOf wsX2_wordOf) := goodIn_app (goodIn_of _ (by decide +kernel)) ggX2_kindTold_X2_wordOf
set_option maxRecDepth 20000 in
theorem ggX2_kindTold_X2_isWord : GoodIn wsX2_kindTold wsX2_isWord := goodIn_r _ [8, 9, 10, 11, 12, 13, 14, 15, 16, 17, 18, 19, 20, 21, 22, 23, 24, 25, 26, 3, 27, 28, 29, 30, 31, 32, 33, 34, 35, 36, 37, 38, 39, 40, 41, 42, 43, 44, 45, 46, 47, 48, 49, 50, 51, 52, 53, 54, 55, 56, 57, 58, 59, 60, 61, 62, 63, 64, 65, 66, 67, 68, 69, 70, 71, 72] (by decide +kernel) (by decide +kernel)
set_option maxRecDepth 20000 in
theorem gX2_kindTold_X2_isWord : GoodIn wsX2_kindTold (wsV RX2 40 RX2 yX2_isWord wsX2_isWord) := goodIn_app (goodIn_of _ (by decide +kernel)) ggX2_kindTold_X2_isWord
theorem dX2_kindTold_0 : decode cX2_kindTold 0 = .ok (.iconst 0, 1) := by decide +kernel
theorem dX2_kindTold_1 : decode cX2_kindTold 1 = .ok (.istore_n 1, 1) := by decide +kernel
theorem dX2_kindTold_2 : decode cX2_kindTold 2 = .ok (.iload_n 1, 1) := by decide +kernel
theorem dX2_kindTold_3 : decode cX2_kindTold 3 = .ok (.bipush 7, 2) := by decide +kernel
theorem dX2_kindTold_5 : decode cX2_kindTold 5 = .ok (.if_icmp .ge 22, 3) := by decide +kernel
theorem dX2_kindTold_8 : decode cX2_kindTold 8 = .ok (.aload_n 0, 1) := by decide +kernel
theorem dX2_kindTold_9 : decode cX2_kindTold 9 = .ok (.iload_n 1, 1) := by decide +kernel
theorem dX2_kindTold_10 : decode cX2_kindTold 10 = .ok (.invokestatic 88, 3) := by decide +kernel
theorem dX2_kindTold_13 : decode cX2_kindTold 13 = .ok (.invokevirtual 40, 3) := by decide +kernel
theorem dX2_kindTold_16 : decode cX2_kindTold 16 = .ok (.ifCond .eq 5, 3) := by decide +kernel
theorem dX2_kindTold_19 : decode cX2_kindTold 19 = .ok (.iload_n 1, 1) := by decide +kernel
theorem dX2_kindTold_20 : decode cX2_kindTold 20 = .ok (.ireturn, 1) := by decide +kernel
theorem dX2_kindTold_21 : decode cX2_kindTold 21 = .ok (.iinc 1 1, 3) := by decide +kernel
theorem dX2_kindTold_24 : decode cX2_kindTold 24 = .ok (.goto (-22), 3) := by decide +kernel
theorem dX2_kindTold_27 : decode cX2_kindTold 27 = .ok (.iconst (-1), 1) := by decide +kernel
theorem dX2_kindTold_28 : decode cX2_kindTold 28 = .ok (.ireturn, 1) := by decide +kernel
theorem dX2_wordOf_0 : decode cX2_wordOf 0 = .ok (.iload_n 0, 1) := by decide +kernel
theorem dX2_wordOf_1 : decode cX2_wordOf 1 = .ok (.tableswitch 57 1 6 #[39, 42, 45, 48, 51, 54], 39) := by decide +kernel
theorem dX2_wordOf_40 : decode cX2_wordOf 40 = .ok (.ldc 92, 2) := by decide +kernel
theorem dX2_wordOf_42 : decode cX2_wordOf 42 = .ok (.areturn, 1) := by decide +kernel
theorem dX2_wordOf_43 : decode cX2_wordOf 43 = .ok (.ldc 94, 2) := by decide +kernel
theorem dX2_wordOf_45 : decode cX2_wordOf 45 = .ok (.areturn, 1) := by decide +kernel
theorem dX2_wordOf_46 : decode cX2_wordOf 46 = .ok (.ldc 96, 2) := by decide +kernel
theorem dX2_wordOf_48 : decode cX2_wordOf 48 = .ok (.areturn, 1) := by decide +kernel
theorem dX2_wordOf_49 : decode cX2_wordOf 49 = .ok (.ldc 98, 2) := by decide +kernel
theorem dX2_wordOf_51 : decode cX2_wordOf 51 = .ok (.areturn, 1) := by decide +kernel
theorem dX2_wordOf_52 : decode cX2_wordOf 52 = .ok (.ldc 100, 2) := by decide +kernel
theorem dX2_wordOf_54 : decode cX2_wordOf 54 = .ok (.areturn, 1) := by decide +kernel
theorem dX2_wordOf_55 : decode cX2_wordOf 55 = .ok (.ldc 102, 2) := by decide +kernel
theorem dX2_wordOf_57 : decode cX2_wordOf 57 = .ok (.areturn, 1) := by decide +kernel
theorem dX2_wordOf_58 : decode cX2_wordOf 58 = .ok (.ldc 104, 2) := by decide +kernel
theorem dX2_wordOf_60 : decode cX2_wordOf 60 = .ok (.areturn, 1) := by decide +kernel
set_option maxRecDepth 20000 in
theorem ggX2_isWord_J0_length_8abf5 : GoodIn wsX2_isWord wsJ0_length_8abf5 := goodIn_r _ [8, 9, 10, 11, 12, 7, 13, 14, 15] (by decide +kernel) (by decide +kernel)
set_option maxRecDepth 20000 in
theorem gX2_isWord_J0_length_8abf5 : GoodIn wsX2_isWord (wsV RX2 106 RJ0 yJ0_length_8abf5 wsJ0_length_8abf5) := goodIn_app (goodIn_of _ (by decide +kernel)) ggX2_isWord_J0_length_8abf5
set_option maxRecDepth 20000 in
theorem ggX2_isWord_X2_byteAt : GoodIn wsX2_isWord wsX2_byteAt := goodIn_r _ [20, 21, 22, 60, 61, 62, 63, 64, 65] (by decide +kernel) (by decide +kernel)
set_option maxRecDepth 20000 in
theorem gX2_isWord_X2_byteAt : GoodIn wsX2_isWord (wsV RX2 110 RX2 yX2_byteAt wsX2_byteAt) := goodIn_app (goodIn_of _ (by decide +kernel)) ggX2_isWord_X2_byteAt
set_option maxRecDepth 20000 in
theorem ggX2_isWord_J0_charAt_5068e : GoodIn wsX2_isWord wsJ0_charAt_5068e := goodIn_r _ [26, 9, 27, 28, 29, 7, 30, 14, 15, 31, 32, 33, 34, 35, 36, 37, 38, 39, 40, 41, 42, 43, 44, 45, 46, 47, 48, 49, 50, 51, 52, 53, 54, 55, 56, 57, 58, 59] (by decide +kernel) (by decide +kernel)
set_option maxRecDepth 20000 in
theorem gX2_isWord_J0_charAt_5068e : GoodIn wsX2_isWord (wsV RX2 114 RJ0 yJ0_charAt_5068e wsJ0_charAt_5068e) := goodIn_app (goodIn_of _ (by decide +kernel)) ggX2_isWord_J0_charAt_5068e
theorem dX2_isWord_0 : decode cX2_isWord 0 = .ok (.aload_n 0, 1) := by decide +kernel
theorem dX2_isWord_1 : decode cX2_isWord 1 = .ok (.getfield 19, 3) := by decide +kernel
theorem dX2_isWord_4 : decode cX2_isWord 4 = .ok (.iconst 1, 1) := by decide +kernel
theorem dX2_isWord_5 : decode cX2_isWord 5 = .ok (.if_icmp .ne 19, 3) := by decide +kernel
theorem dX2_isWord_8 : decode cX2_isWord 8 = .ok (.aload_n 0, 1) := by decide +kernel
theorem dX2_isWord_9 : decode cX2_isWord 9 = .ok (.getfield 25, 3) := by decide +kernel
theorem dX2_isWord_12 : decode cX2_isWord 12 = .ok (.aload_n 0, 1) := by decide +kernel
theorem dX2_isWord_13 : decode cX2_isWord 13 = .ok (.getfield 22, 3) := by decide +kernel
theorem dX2_isWord_16 : decode cX2_isWord 16 = .ok (.isub, 1) := by decide +kernel
theorem dX2_isWord_17 : decode cX2_isWord 17 = .ok (.aload_n 1, 1) := by decide +kernel
theorem dX2_isWord_18 : decode cX2_isWord 18 = .ok (.invokevirtual 106, 3) := by decide +kernel
theorem dX2_isWord_21 : decode cX2_isWord 21 = .ok (.if_icmp .eq 5, 3) := by decide +kernel
theorem dX2_isWord_24 : decode cX2_isWord 24 = .ok (.iconst 0, 1) := by decide +kernel
theorem dX2_isWord_25 : decode cX2_isWord 25 = .ok (.ireturn, 1) := by decide +kernel
theorem dX2_isWord_26 : decode cX2_isWord 26 = .ok (.iconst 0, 1) := by decide +kernel
theorem dX2_isWord_27 : decode cX2_isWord 27 = .ok (.istore_n 2, 1) := by decide +kernel
theorem dX2_isWord_28 : decode cX2_isWord 28 = .ok (.iload_n 2, 1) := by decide +kernel
theorem dX2_isWord_29 : decode cX2_isWord 29 = .ok (.aload_n 1, 1) := by decide +kernel
theorem dX2_isWord_30 : decode cX2_isWord 30 = .ok (.invokevirtual 106, 3) := by decide +kernel
theorem dX2_isWord_33 : decode cX2_isWord 33 = .ok (.if_icmp .ge 29, 3) := by decide +kernel
theorem dX2_isWord_36 : decode cX2_isWord 36 = .ok (.aload_n 0, 1) := by decide +kernel
theorem dX2_isWord_37 : decode cX2_isWord 37 = .ok (.aload_n 0, 1) := by decide +kernel
theorem dX2_isWord_38 : decode cX2_isWord 38 = .ok (.getfield 22, 3) := by decide +kernel
theorem dX2_isWord_41 : decode cX2_isWord 41 = .ok (.iload_n 2, 1) := by decide +kernel
theorem dX2_isWord_42 : decode cX2_isWord 42 = .ok (.iadd, 1) := by decide +kernel
theorem dX2_isWord_43 : decode cX2_isWord 43 = .ok (.invokevirtual 110, 3) := by decide +kernel
theorem dX2_isWord_46 : decode cX2_isWord 46 = .ok (.aload_n 1, 1) := by decide +kernel
theorem dX2_isWord_47 : decode cX2_isWord 47 = .ok (.iload_n 2, 1) := by decide +kernel
theorem dX2_isWord_48 : decode cX2_isWord 48 = .ok (.invokevirtual 114, 3) := by decide +kernel
theorem dX2_isWord_51 : decode cX2_isWord 51 = .ok (.if_icmp .eq 5, 3) := by decide +kernel
theorem dX2_isWord_54 : decode cX2_isWord 54 = .ok (.iconst 0, 1) := by decide +kernel
theorem dX2_isWord_55 : decode cX2_isWord 55 = .ok (.ireturn, 1) := by decide +kernel
theorem dX2_isWord_56 : decode cX2_isWord 56 = .ok (.iinc 2 1, 3) := by decide +kernel
theorem dX2_isWord_59 : decode cX2_isWord 59 = .ok (.goto (-31), 3) := by decide +kernel
theorem dX2_isWord_62 : decode cX2_isWord 62 = .ok (.iconst 1, 1) := by decide +kernel
theorem dX2_isWord_63 : decode cX2_isWord 63 = .ok (.ireturn, 1) := by decide +kernel
set_option maxRecDepth 20000 in
theorem ggX2_advance_X2_byteAt : GoodIn wsX2_advance wsX2_byteAt := goodIn_r _ [14, 2, 15, 25, 26, 27, 28, 29, 30] (by decide +kernel) (by decide +kernel)
set_option maxRecDepth 20000 in
theorem gX2_advance_X2_byteAt : GoodIn wsX2_advance (wsV RX2 110 RX2 yX2_byteAt wsX2_byteAt) := goodIn_app (goodIn_of _ (by decide +kernel)) ggX2_advance_X2_byteAt
set_option maxRecDepth 20000 in
theorem ggX2_advance_X2_sortBegunBy : GoodIn wsX2_advance wsX2_sortBegunBy := goodIn_r _ [18, 19, 20, 13, 21, 22, 23, 24] (by decide +kernel) (by decide +kernel)
set_option maxRecDepth 20000 in
theorem gX2_advance_X2_sortBegunBy : GoodIn wsX2_advance (va_wsS RX2 118 yX2_sortBegunBy wsX2_sortBegunBy) := goodIn_app (goodIn_of _ (by decide +kernel)) ggX2_advance_X2_sortBegunBy
set_option maxRecDepth 20000 in
theorem ggX2_advance_X2_isLetter : GoodIn wsX2_advance wsX2_isLetter := goodIn_r _ [21] (by decide +kernel) (by decide +kernel)
set_option maxRecDepth 20000 in
theorem gX2_advance_X2_isLetter : GoodIn wsX2_advance (va_wsS RX2 121 yX2_isLetter wsX2_isLetter) := goodIn_app (goodIn_of _ (by decide +kernel)) ggX2_advance_X2_isLetter
set_option maxRecDepth 20000 in
theorem ggX2_advance_X2_isDigit : GoodIn wsX2_advance wsX2_isDigit := goodIn_r _ [24] (by decide +kernel) (by decide +kernel)
set_option maxRecDepth 20000 in
theorem gX2_advance_X2_isDigit : GoodIn wsX2_advance (va_wsS RX2 124 yX2_isDigit wsX2_isDigit) := goodIn_app (goodIn_of _ (by decide +kernel)) ggX2_advance_X2_isDigit
theorem dX2_advance_0 : decode cX2_advance 0 = .ok (.aload_n 0, 1) := by decide +kernel
theorem dX2_advance_1 : decode cX2_advance 1 = .ok (.getfield 25, 3) := by decide +kernel
theorem dX2_advance_4 : decode cX2_advance 4 = .ok (.aload_n 0, 1) := by decide +kernel
theorem dX2_advance_5 : decode cX2_advance 5 = .ok (.getfield 9, 3) := by decide +kernel
theorem dX2_advance_8 : decode cX2_advance 8 = .ok (.if_icmp .ge 29, 3) := by decide +kernel
theorem dX2_advance_11 : decode cX2_advance 11 = .ok (.aload_n 0, 1) := by decide +kernel
theorem dX2_advance_12 : decode cX2_advance 12 = .ok (.aload_n 0, 1) := by decide +kernel
theorem dX2_advance_13 : decode cX2_advance 13 = .ok (.getfield 25, 3) := by decide +kernel
theorem dX2_advance_16 : decode cX2_advance 16 = .ok (.invokevirtual 110, 3) := by decide +kernel
theorem dX2_advance_19 : decode cX2_advance 19 = .ok (.bipush 32, 2) := by decide +kernel
theorem dX2_advance_21 : decode cX2_advance 21 = .ok (.if_icmp .ne 16, 3) := by decide +kernel
theorem dX2_advance_24 : decode cX2_advance 24 = .ok (.aload_n 0, 1) := by decide +kernel
theorem dX2_advance_25 : decode cX2_advance 25 = .ok (.dup, 1) := by decide +kernel
theorem dX2_advance_26 : decode cX2_advance 26 = .ok (.getfield 25, 3) := by decide +kernel
theorem dX2_advance_29 : decode cX2_advance 29 = .ok (.iconst 1, 1) := by decide +kernel
theorem dX2_advance_30 : decode cX2_advance 30 = .ok (.iadd, 1) := by decide +kernel
theorem dX2_advance_31 : decode cX2_advance 31 = .ok (.putfield 25, 3) := by decide +kernel
theorem dX2_advance_34 : decode cX2_advance 34 = .ok (.goto (-34), 3) := by decide +kernel
theorem dX2_advance_37 : decode cX2_advance 37 = .ok (.aload_n 0, 1) := by decide +kernel
theorem dX2_advance_38 : decode cX2_advance 38 = .ok (.aload_n 0, 1) := by decide +kernel
theorem dX2_advance_39 : decode cX2_advance 39 = .ok (.getfield 25, 3) := by decide +kernel
theorem dX2_advance_42 : decode cX2_advance 42 = .ok (.putfield 22, 3) := by decide +kernel
theorem dX2_advance_45 : decode cX2_advance 45 = .ok (.aload_n 0, 1) := by decide +kernel
theorem dX2_advance_46 : decode cX2_advance 46 = .ok (.iconst 0, 1) := by decide +kernel
theorem dX2_advance_47 : decode cX2_advance 47 = .ok (.putfield 28, 3) := by decide +kernel
theorem dX2_advance_50 : decode cX2_advance 50 = .ok (.aload_n 0, 1) := by decide +kernel
theorem dX2_advance_51 : decode cX2_advance 51 = .ok (.aload_n 0, 1) := by decide +kernel
theorem dX2_advance_52 : decode cX2_advance 52 = .ok (.aload_n 0, 1) := by decide +kernel
theorem dX2_advance_53 : decode cX2_advance 53 = .ok (.getfield 22, 3) := by decide +kernel
theorem dX2_advance_56 : decode cX2_advance 56 = .ok (.invokevirtual 110, 3) := by decide +kernel
theorem dX2_advance_59 : decode cX2_advance 59 = .ok (.invokestatic 118, 3) := by decide +kernel
theorem dX2_advance_62 : decode cX2_advance 62 = .ok (.putfield 19, 3) := by decide +kernel
theorem dX2_advance_65 : decode cX2_advance 65 = .ok (.aload_n 0, 1) := by decide +kernel
theorem dX2_advance_66 : decode cX2_advance 66 = .ok (.getfield 19, 3) := by decide +kernel
theorem dX2_advance_69 : decode cX2_advance 69 = .ok (.iconst 3, 1) := by decide +kernel
theorem dX2_advance_70 : decode cX2_advance 70 = .ok (.if_icmp .eq 11, 3) := by decide +kernel
theorem dX2_advance_73 : decode cX2_advance 73 = .ok (.aload_n 0, 1) := by decide +kernel
theorem dX2_advance_74 : decode cX2_advance 74 = .ok (.getfield 19, 3) := by decide +kernel
theorem dX2_advance_77 : decode cX2_advance 77 = .ok (.iconst 4, 1) := by decide +kernel
theorem dX2_advance_78 : decode cX2_advance 78 = .ok (.if_icmp .ne 13, 3) := by decide +kernel
theorem dX2_advance_81 : decode cX2_advance 81 = .ok (.aload_n 0, 1) := by decide +kernel
theorem dX2_advance_82 : decode cX2_advance 82 = .ok (.dup, 1) := by decide +kernel
theorem dX2_advance_83 : decode cX2_advance 83 = .ok (.getfield 25, 3) := by decide +kernel
theorem dX2_advance_86 : decode cX2_advance 86 = .ok (.iconst 1, 1) := by decide +kernel
theorem dX2_advance_87 : decode cX2_advance 87 = .ok (.iadd, 1) := by decide +kernel
theorem dX2_advance_88 : decode cX2_advance 88 = .ok (.putfield 25, 3) := by decide +kernel
theorem dX2_advance_91 : decode cX2_advance 91 = .ok (.aload_n 0, 1) := by decide +kernel
theorem dX2_advance_92 : decode cX2_advance 92 = .ok (.getfield 25, 3) := by decide +kernel
theorem dX2_advance_95 : decode cX2_advance 95 = .ok (.aload_n 0, 1) := by decide +kernel
theorem dX2_advance_96 : decode cX2_advance 96 = .ok (.getfield 9, 3) := by decide +kernel
theorem dX2_advance_99 : decode cX2_advance 99 = .ok (.if_icmp .ge 38, 3) := by decide +kernel
theorem dX2_advance_102 : decode cX2_advance 102 = .ok (.aload_n 0, 1) := by decide +kernel
theorem dX2_advance_103 : decode cX2_advance 103 = .ok (.getfield 19, 3) := by decide +kernel
theorem dX2_advance_106 : decode cX2_advance 106 = .ok (.iconst 1, 1) := by decide +kernel
theorem dX2_advance_107 : decode cX2_advance 107 = .ok (.if_icmp .ne 30, 3) := by decide +kernel
theorem dX2_advance_110 : decode cX2_advance 110 = .ok (.aload_n 0, 1) := by decide +kernel
theorem dX2_advance_111 : decode cX2_advance 111 = .ok (.aload_n 0, 1) := by decide +kernel
theorem dX2_advance_112 : decode cX2_advance 112 = .ok (.getfield 25, 3) := by decide +kernel
theorem dX2_advance_115 : decode cX2_advance 115 = .ok (.invokevirtual 110, 3) := by decide +kernel
theorem dX2_advance_118 : decode cX2_advance 118 = .ok (.invokestatic 121, 3) := by decide +kernel
theorem dX2_advance_121 : decode cX2_advance 121 = .ok (.ifCond .eq 16, 3) := by decide +kernel
theorem dX2_advance_124 : decode cX2_advance 124 = .ok (.aload_n 0, 1) := by decide +kernel
theorem dX2_advance_125 : decode cX2_advance 125 = .ok (.dup, 1) := by decide +kernel
theorem dX2_advance_126 : decode cX2_advance 126 = .ok (.getfield 25, 3) := by decide +kernel
theorem dX2_advance_129 : decode cX2_advance 129 = .ok (.iconst 1, 1) := by decide +kernel
theorem dX2_advance_130 : decode cX2_advance 130 = .ok (.iadd, 1) := by decide +kernel
theorem dX2_advance_131 : decode cX2_advance 131 = .ok (.putfield 25, 3) := by decide +kernel
theorem dX2_advance_134 : decode cX2_advance 134 = .ok (.goto (-43), 3) := by decide +kernel
theorem dX2_advance_137 : decode cX2_advance 137 = .ok (.aload_n 0, 1) := by decide +kernel
theorem dX2_advance_138 : decode cX2_advance 138 = .ok (.getfield 25, 3) := by decide +kernel
theorem dX2_advance_141 : decode cX2_advance 141 = .ok (.aload_n 0, 1) := by decide +kernel
theorem dX2_advance_142 : decode cX2_advance 142 = .ok (.getfield 9, 3) := by decide +kernel
theorem dX2_advance_145 : decode cX2_advance 145 = .ok (.if_icmp .ge 67, 3) := by decide +kernel
theorem dX2_advance_148 : decode cX2_advance 148 = .ok (.aload_n 0, 1) := by decide +kernel
theorem dX2_advance_149 : decode cX2_advance 149 = .ok (.getfield 19, 3) := by decide +kernel
theorem dX2_advance_152 : decode cX2_advance 152 = .ok (.iconst 2, 1) := by decide +kernel
theorem dX2_advance_153 : decode cX2_advance 153 = .ok (.if_icmp .ne 59, 3) := by decide +kernel
theorem dX2_advance_156 : decode cX2_advance 156 = .ok (.aload_n 0, 1) := by decide +kernel
theorem dX2_advance_157 : decode cX2_advance 157 = .ok (.aload_n 0, 1) := by decide +kernel
theorem dX2_advance_158 : decode cX2_advance 158 = .ok (.getfield 25, 3) := by decide +kernel
theorem dX2_advance_161 : decode cX2_advance 161 = .ok (.invokevirtual 110, 3) := by decide +kernel
theorem dX2_advance_164 : decode cX2_advance 164 = .ok (.invokestatic 124, 3) := by decide +kernel
theorem dX2_advance_167 : decode cX2_advance 167 = .ok (.ifCond .eq 45, 3) := by decide +kernel
theorem dX2_advance_170 : decode cX2_advance 170 = .ok (.aload_n 0, 1) := by decide +kernel
theorem dX2_advance_171 : decode cX2_advance 171 = .ok (.sipush 1000, 3) := by decide +kernel
theorem dX2_advance_174 : decode cX2_advance 174 = .ok (.aload_n 0, 1) := by decide +kernel
theorem dX2_advance_175 : decode cX2_advance 175 = .ok (.getfield 28, 3) := by decide +kernel
theorem dX2_advance_178 : decode cX2_advance 178 = .ok (.bipush 10, 2) := by decide +kernel
theorem dX2_advance_180 : decode cX2_advance 180 = .ok (.imul, 1) := by decide +kernel
theorem dX2_advance_181 : decode cX2_advance 181 = .ok (.aload_n 0, 1) := by decide +kernel
theorem dX2_advance_182 : decode cX2_advance 182 = .ok (.aload_n 0, 1) := by decide +kernel
theorem dX2_advance_183 : decode cX2_advance 183 = .ok (.getfield 25, 3) := by decide +kernel
theorem dX2_advance_186 : decode cX2_advance 186 = .ok (.invokevirtual 110, 3) := by decide +kernel
theorem dX2_advance_189 : decode cX2_advance 189 = .ok (.iadd, 1) := by decide +kernel
theorem dX2_advance_190 : decode cX2_advance 190 = .ok (.bipush 48, 2) := by decide +kernel
theorem dX2_advance_192 : decode cX2_advance 192 = .ok (.isub, 1) := by decide +kernel
theorem dX2_advance_193 : decode cX2_advance 193 = .ok (.invokestatic 127, 3) := by decide +kernel
theorem dX2_advance_196 : decode cX2_advance 196 = .ok (.putfield 28, 3) := by decide +kernel
theorem dX2_advance_199 : decode cX2_advance 199 = .ok (.aload_n 0, 1) := by decide +kernel
theorem dX2_advance_200 : decode cX2_advance 200 = .ok (.dup, 1) := by decide +kernel
theorem dX2_advance_201 : decode cX2_advance 201 = .ok (.getfield 25, 3) := by decide +kernel
theorem dX2_advance_204 : decode cX2_advance 204 = .ok (.iconst 1, 1) := by decide +kernel
theorem dX2_advance_205 : decode cX2_advance 205 = .ok (.iadd, 1) := by decide +kernel
theorem dX2_advance_206 : decode cX2_advance 206 = .ok (.putfield 25, 3) := by decide +kernel
theorem dX2_advance_209 : decode cX2_advance 209 = .ok (.goto (-72), 3) := by decide +kernel
theorem dX2_advance_212 : decode cX2_advance 212 = .ok (.return_, 1) := by decide +kernel
set_option maxRecDepth 20000 in
theorem ggX2_sortBegunBy_X2_isLetter : GoodIn wsX2_sortBegunBy wsX2_isLetter := goodIn_r _ [4] (by decide +kernel) (by decide +kernel)
set_option maxRecDepth 20000 in
theorem gX2_sortBegunBy_X2_isLetter : GoodIn wsX2_sortBegunBy (va_wsS RX2 121 yX2_isLetter wsX2_isLetter) := goodIn_app (goodIn_of _ (by decide +kernel)) ggX2_sortBegunBy_X2_isLetter
set_option maxRecDepth 20000 in
theorem ggX2_sortBegunBy_X2_isDigit : GoodIn wsX2_sortBegunBy wsX2_isDigit := goodIn_r _ [7] (by decide +kernel) (by decide +kernel)
set_option maxRecDepth 20000 in
theorem gX2_sortBegunBy_X2_isDigit : GoodIn wsX2_sortBegunBy (va_wsS RX2 124 yX2_isDigit wsX2_isDigit) := goodIn_app (goodIn_of _ (by decide +kernel)) ggX2_sortBegunBy_X2_isDigit
theorem dX2_sortBegunBy_0 : decode cX2_sortBegunBy 0 = .ok (.iload_n 0, 1) := by decide +kernel
theorem dX2_sortBegunBy_1 : decode cX2_sortBegunBy 1 = .ok (.ifCond .ge 5, 3) := by decide +kernel
theorem dX2_sortBegunBy_4 : decode cX2_sortBegunBy 4 = .ok (.iconst 0, 1) := by decide +kernel
theorem dX2_sortBegunBy_5 : decode cX2_sortBegunBy 5 = .ok (.ireturn, 1) := by decide +kernel
theorem dX2_sortBegunBy_6 : decode cX2_sortBegunBy 6 = .ok (.iload_n 0, 1) := by decide +kernel
theorem dX2_sortBegunBy_7 : decode cX2_sortBegunBy 7 = .ok (.invokestatic 121, 3) := by decide +kernel
theorem dX2_sortBegunBy_10 : decode cX2_sortBegunBy 10 = .ok (.ifCond .eq 5, 3) := by decide +kernel
theorem dX2_sortBegunBy_13 : decode cX2_sortBegunBy 13 = .ok (.iconst 1, 1) := by decide +kernel
theorem dX2_sortBegunBy_14 : decode cX2_sortBegunBy 14 = .ok (.ireturn, 1) := by decide +kernel
theorem dX2_sortBegunBy_15 : decode cX2_sortBegunBy 15 = .ok (.iload_n 0, 1) := by decide +kernel
theorem dX2_sortBegunBy_16 : decode cX2_sortBegunBy 16 = .ok (.invokestatic 124, 3) := by decide +kernel
theorem dX2_sortBegunBy_19 : decode cX2_sortBegunBy 19 = .ok (.ifCond .eq 5, 3) := by decide +kernel
theorem dX2_sortBegunBy_22 : decode cX2_sortBegunBy 22 = .ok (.iconst 2, 1) := by decide +kernel
theorem dX2_sortBegunBy_23 : decode cX2_sortBegunBy 23 = .ok (.ireturn, 1) := by decide +kernel
theorem dX2_sortBegunBy_24 : decode cX2_sortBegunBy 24 = .ok (.iload_n 0, 1) := by decide +kernel
theorem dX2_sortBegunBy_25 : decode cX2_sortBegunBy 25 = .ok (.bipush 59, 2) := by decide +kernel
theorem dX2_sortBegunBy_27 : decode cX2_sortBegunBy 27 = .ok (.if_icmp .ne 7, 3) := by decide +kernel
theorem dX2_sortBegunBy_30 : decode cX2_sortBegunBy 30 = .ok (.iconst 3, 1) := by decide +kernel
theorem dX2_sortBegunBy_31 : decode cX2_sortBegunBy 31 = .ok (.goto 4, 3) := by decide +kernel
theorem dX2_sortBegunBy_34 : decode cX2_sortBegunBy 34 = .ok (.iconst 4, 1) := by decide +kernel
theorem dX2_sortBegunBy_35 : decode cX2_sortBegunBy 35 = .ok (.ireturn, 1) := by decide +kernel
theorem dX2_byteAt_0 : decode cX2_byteAt 0 = .ok (.iload_n 1, 1) := by decide +kernel
theorem dX2_byteAt_1 : decode cX2_byteAt 1 = .ok (.ifCond .lt 26, 3) := by decide +kernel
theorem dX2_byteAt_4 : decode cX2_byteAt 4 = .ok (.iload_n 1, 1) := by decide +kernel
theorem dX2_byteAt_5 : decode cX2_byteAt 5 = .ok (.aload_n 0, 1) := by decide +kernel
theorem dX2_byteAt_6 : decode cX2_byteAt 6 = .ok (.getfield 9, 3) := by decide +kernel
theorem dX2_byteAt_9 : decode cX2_byteAt 9 = .ok (.if_icmp .ge 18, 3) := by decide +kernel
theorem dX2_byteAt_12 : decode cX2_byteAt 12 = .ok (.iload_n 1, 1) := by decide +kernel
theorem dX2_byteAt_13 : decode cX2_byteAt 13 = .ok (.bipush 120, 2) := by decide +kernel
theorem dX2_byteAt_15 : decode cX2_byteAt 15 = .ok (.if_icmp .ge 12, 3) := by decide +kernel
theorem dX2_byteAt_18 : decode cX2_byteAt 18 = .ok (.aload_n 0, 1) := by decide +kernel
theorem dX2_byteAt_19 : decode cX2_byteAt 19 = .ok (.getfield 15, 3) := by decide +kernel
theorem dX2_byteAt_22 : decode cX2_byteAt 22 = .ok (.iload_n 1, 1) := by decide +kernel
theorem dX2_byteAt_23 : decode cX2_byteAt 23 = .ok (.iaload, 1) := by decide +kernel
theorem dX2_byteAt_24 : decode cX2_byteAt 24 = .ok (.goto 4, 3) := by decide +kernel
theorem dX2_byteAt_27 : decode cX2_byteAt 27 = .ok (.iconst (-1), 1) := by decide +kernel
theorem dX2_byteAt_28 : decode cX2_byteAt 28 = .ok (.ireturn, 1) := by decide +kernel
theorem dX2_isLetter_0 : decode cX2_isLetter 0 = .ok (.iload_n 0, 1) := by decide +kernel
theorem dX2_isLetter_1 : decode cX2_isLetter 1 = .ok (.bipush 97, 2) := by decide +kernel
theorem dX2_isLetter_3 : decode cX2_isLetter 3 = .ok (.if_icmp .lt 13, 3) := by decide +kernel
theorem dX2_isLetter_6 : decode cX2_isLetter 6 = .ok (.iload_n 0, 1) := by decide +kernel
theorem dX2_isLetter_7 : decode cX2_isLetter 7 = .ok (.bipush 122, 2) := by decide +kernel
theorem dX2_isLetter_9 : decode cX2_isLetter 9 = .ok (.if_icmp .gt 7, 3) := by decide +kernel
theorem dX2_isLetter_12 : decode cX2_isLetter 12 = .ok (.iconst 1, 1) := by decide +kernel
theorem dX2_isLetter_13 : decode cX2_isLetter 13 = .ok (.goto 4, 3) := by decide +kernel
theorem dX2_isLetter_16 : decode cX2_isLetter 16 = .ok (.iconst 0, 1) := by decide +kernel
theorem dX2_isLetter_17 : decode cX2_isLetter 17 = .ok (.ireturn, 1) := by decide +kernel
theorem dX2_isDigit_0 : decode cX2_isDigit 0 = .ok (.iload_n 0, 1) := by decide +kernel
theorem dX2_isDigit_1 : decode cX2_isDigit 1 = .ok (.bipush 48, 2) := by decide +kernel
theorem dX2_isDigit_3 : decode cX2_isDigit 3 = .ok (.if_icmp .lt 13, 3) := by decide +kernel
theorem dX2_isDigit_6 : decode cX2_isDigit 6 = .ok (.iload_n 0, 1) := by decide +kernel
theorem dX2_isDigit_7 : decode cX2_isDigit 7 = .ok (.bipush 57, 2) := by decide +kernel
theorem dX2_isDigit_9 : decode cX2_isDigit 9 = .ok (.if_icmp .gt 7, 3) := by decide +kernel
theorem dX2_isDigit_12 : decode cX2_isDigit 12 = .ok (.iconst 1, 1) := by decide +kernel
theorem dX2_isDigit_13 : decode cX2_isDigit 13 = .ok (.goto 4, 3) := by decide +kernel
theorem dX2_isDigit_16 : decode cX2_isDigit 16 = .ok (.iconst 0, 1) := by decide +kernel
theorem dX2_isDigit_17 : decode cX2_isDigit 17 = .ok (.ireturn, 1) := by decide +kernel
theorem dJ6_bitCount_0f7a4_0 : decode cJ6_bitCount_0f7a4 0 = .ok (.iload_n 0, 1) := by decide +kernel
theorem dJ6_bitCount_0f7a4_1 : decode cJ6_bitCount_0f7a4 1 = .ok (.iload_n 0, 1) := by decide +kernel
theorem dJ6_bitCount_0f7a4_2 : decode cJ6_bitCount_0f7a4 2 = .ok (.iconst 1, 1) := by decide +kernel
theorem dJ6_bitCount_0f7a4_3 : decode cJ6_bitCount_0f7a4 3 = .ok (.iushr, 1) := by decide +kernel
theorem dJ6_bitCount_0f7a4_4 : decode cJ6_bitCount_0f7a4 4 = .ok (.ldc_w 265, 3) := by decide +kernel
theorem dJ6_bitCount_0f7a4_7 : decode cJ6_bitCount_0f7a4 7 = .ok (.iand, 1) := by decide +kernel
theorem dJ6_bitCount_0f7a4_8 : decode cJ6_bitCount_0f7a4 8 = .ok (.isub, 1) := by decide +kernel
theorem dJ6_bitCount_0f7a4_9 : decode cJ6_bitCount_0f7a4 9 = .ok (.istore_n 0, 1) := by decide +kernel
theorem dJ6_bitCount_0f7a4_10 : decode cJ6_bitCount_0f7a4 10 = .ok (.iload_n 0, 1) := by decide +kernel
theorem dJ6_bitCount_0f7a4_11 : decode cJ6_bitCount_0f7a4 11 = .ok (.ldc_w 266, 3) := by decide +kernel
theorem dJ6_bitCount_0f7a4_14 : decode cJ6_bitCount_0f7a4 14 = .ok (.iand, 1) := by decide +kernel
theorem dJ6_bitCount_0f7a4_15 : decode cJ6_bitCount_0f7a4 15 = .ok (.iload_n 0, 1) := by decide +kernel
theorem dJ6_bitCount_0f7a4_16 : decode cJ6_bitCount_0f7a4 16 = .ok (.iconst 2, 1) := by decide +kernel
theorem dJ6_bitCount_0f7a4_17 : decode cJ6_bitCount_0f7a4 17 = .ok (.iushr, 1) := by decide +kernel
theorem dJ6_bitCount_0f7a4_18 : decode cJ6_bitCount_0f7a4 18 = .ok (.ldc_w 266, 3) := by decide +kernel
theorem dJ6_bitCount_0f7a4_21 : decode cJ6_bitCount_0f7a4 21 = .ok (.iand, 1) := by decide +kernel
theorem dJ6_bitCount_0f7a4_22 : decode cJ6_bitCount_0f7a4 22 = .ok (.iadd, 1) := by decide +kernel
theorem dJ6_bitCount_0f7a4_23 : decode cJ6_bitCount_0f7a4 23 = .ok (.istore_n 0, 1) := by decide +kernel
theorem dJ6_bitCount_0f7a4_24 : decode cJ6_bitCount_0f7a4 24 = .ok (.iload_n 0, 1) := by decide +kernel
theorem dJ6_bitCount_0f7a4_25 : decode cJ6_bitCount_0f7a4 25 = .ok (.iload_n 0, 1) := by decide +kernel
theorem dJ6_bitCount_0f7a4_26 : decode cJ6_bitCount_0f7a4 26 = .ok (.iconst 4, 1) := by decide +kernel
theorem dJ6_bitCount_0f7a4_27 : decode cJ6_bitCount_0f7a4 27 = .ok (.iushr, 1) := by decide +kernel
theorem dJ6_bitCount_0f7a4_28 : decode cJ6_bitCount_0f7a4 28 = .ok (.iadd, 1) := by decide +kernel
theorem dJ6_bitCount_0f7a4_29 : decode cJ6_bitCount_0f7a4 29 = .ok (.ldc_w 267, 3) := by decide +kernel
theorem dJ6_bitCount_0f7a4_32 : decode cJ6_bitCount_0f7a4 32 = .ok (.iand, 1) := by decide +kernel
theorem dJ6_bitCount_0f7a4_33 : decode cJ6_bitCount_0f7a4 33 = .ok (.istore_n 0, 1) := by decide +kernel
theorem dJ6_bitCount_0f7a4_34 : decode cJ6_bitCount_0f7a4 34 = .ok (.iload_n 0, 1) := by decide +kernel
theorem dJ6_bitCount_0f7a4_35 : decode cJ6_bitCount_0f7a4 35 = .ok (.iload_n 0, 1) := by decide +kernel
theorem dJ6_bitCount_0f7a4_36 : decode cJ6_bitCount_0f7a4 36 = .ok (.bipush 8, 2) := by decide +kernel
theorem dJ6_bitCount_0f7a4_38 : decode cJ6_bitCount_0f7a4 38 = .ok (.iushr, 1) := by decide +kernel
theorem dJ6_bitCount_0f7a4_39 : decode cJ6_bitCount_0f7a4 39 = .ok (.iadd, 1) := by decide +kernel
theorem dJ6_bitCount_0f7a4_40 : decode cJ6_bitCount_0f7a4 40 = .ok (.istore_n 0, 1) := by decide +kernel
theorem dJ6_bitCount_0f7a4_41 : decode cJ6_bitCount_0f7a4 41 = .ok (.iload_n 0, 1) := by decide +kernel
theorem dJ6_bitCount_0f7a4_42 : decode cJ6_bitCount_0f7a4 42 = .ok (.iload_n 0, 1) := by decide +kernel
theorem dJ6_bitCount_0f7a4_43 : decode cJ6_bitCount_0f7a4 43 = .ok (.bipush 16, 2) := by decide +kernel
theorem dJ6_bitCount_0f7a4_45 : decode cJ6_bitCount_0f7a4 45 = .ok (.iushr, 1) := by decide +kernel
theorem dJ6_bitCount_0f7a4_46 : decode cJ6_bitCount_0f7a4 46 = .ok (.iadd, 1) := by decide +kernel
theorem dJ6_bitCount_0f7a4_47 : decode cJ6_bitCount_0f7a4 47 = .ok (.istore_n 0, 1) := by decide +kernel
theorem dJ6_bitCount_0f7a4_48 : decode cJ6_bitCount_0f7a4 48 = .ok (.iload_n 0, 1) := by decide +kernel
theorem dJ6_bitCount_0f7a4_49 : decode cJ6_bitCount_0f7a4 49 = .ok (.bipush 63, 2) := by decide +kernel
theorem dJ6_bitCount_0f7a4_51 : decode cJ6_bitCount_0f7a4 51 = .ok (.iand, 1) := by decide +kernel
theorem dJ6_bitCount_0f7a4_52 : decode cJ6_bitCount_0f7a4 52 = .ok (.ireturn, 1) := by decide +kernel
theorem dJ9_abs_0f7a4_0 : decode cJ9_abs_0f7a4 0 = .ok (.iload_n 0, 1) := by decide +kernel
theorem dJ9_abs_0f7a4_1 : decode cJ9_abs_0f7a4 1 = .ok (.ifCond .ge 8, 3) := by decide +kernel
theorem dJ9_abs_0f7a4_4 : decode cJ9_abs_0f7a4 4 = .ok (.iload_n 0, 1) := by decide +kernel
theorem dJ9_abs_0f7a4_5 : decode cJ9_abs_0f7a4 5 = .ok (.ineg, 1) := by decide +kernel
theorem dJ9_abs_0f7a4_6 : decode cJ9_abs_0f7a4 6 = .ok (.goto 4, 3) := by decide +kernel
theorem dJ9_abs_0f7a4_9 : decode cJ9_abs_0f7a4 9 = .ok (.iload_n 0, 1) := by decide +kernel
theorem dJ9_abs_0f7a4_10 : decode cJ9_abs_0f7a4 10 = .ok (.ireturn, 1) := by decide +kernel
theorem dJ9_max_7cf53_0 : decode cJ9_max_7cf53 0 = .ok (.iload_n 0, 1) := by decide +kernel
theorem dJ9_max_7cf53_1 : decode cJ9_max_7cf53 1 = .ok (.iload_n 1, 1) := by decide +kernel
theorem dJ9_max_7cf53_2 : decode cJ9_max_7cf53 2 = .ok (.if_icmp .lt 7, 3) := by decide +kernel
theorem dJ9_max_7cf53_5 : decode cJ9_max_7cf53 5 = .ok (.iload_n 0, 1) := by decide +kernel
theorem dJ9_max_7cf53_6 : decode cJ9_max_7cf53 6 = .ok (.goto 4, 3) := by decide +kernel
theorem dJ9_max_7cf53_9 : decode cJ9_max_7cf53 9 = .ok (.iload_n 1, 1) := by decide +kernel
theorem dJ9_max_7cf53_10 : decode cJ9_max_7cf53 10 = .ok (.ireturn, 1) := by decide +kernel
theorem dJ9_min_7cf53_0 : decode cJ9_min_7cf53 0 = .ok (.iload_n 0, 1) := by decide +kernel
theorem dJ9_min_7cf53_1 : decode cJ9_min_7cf53 1 = .ok (.iload_n 1, 1) := by decide +kernel
theorem dJ9_min_7cf53_2 : decode cJ9_min_7cf53 2 = .ok (.if_icmp .gt 7, 3) := by decide +kernel
theorem dJ9_min_7cf53_5 : decode cJ9_min_7cf53 5 = .ok (.iload_n 0, 1) := by decide +kernel
theorem dJ9_min_7cf53_6 : decode cJ9_min_7cf53 6 = .ok (.goto 4, 3) := by decide +kernel
theorem dJ9_min_7cf53_9 : decode cJ9_min_7cf53 9 = .ok (.iload_n 1, 1) := by decide +kernel
theorem dJ9_min_7cf53_10 : decode cJ9_min_7cf53 10 = .ok (.ireturn, 1) := by decide +kernel
set_option maxRecDepth 20000 in
theorem ggJ0_length_8abf5_J0_coder_7d493 : GoodIn wsJ0_length_8abf5 wsJ0_coder_7d493 := goodIn_r _ [6, 7, 8] (by decide +kernel) (by decide +kernel)
set_option maxRecDepth 20000 in
theorem gJ0_length_8abf5_J0_coder_7d493 : GoodIn wsJ0_length_8abf5 (wsV RJ0 335 RJ0 yJ0_coder_7d493 wsJ0_coder_7d493) := goodIn_app (goodIn_of _ (by decide +kernel)) ggJ0_length_8abf5_J0_coder_7d493
theorem dJ0_length_8abf5_0 : decode cJ0_length_8abf5 0 = .ok (.aload_n 0, 1) := by decide +kernel
theorem dJ0_length_8abf5_1 : decode cJ0_length_8abf5 1 = .ok (.getfield 9, 3) := by decide +kernel
theorem dJ0_length_8abf5_4 : decode cJ0_length_8abf5 4 = .ok (.arraylength, 1) := by decide +kernel
theorem dJ0_length_8abf5_5 : decode cJ0_length_8abf5 5 = .ok (.aload_n 0, 1) := by decide +kernel
theorem dJ0_length_8abf5_6 : decode cJ0_length_8abf5 6 = .ok (.invokevirtual 335, 3) := by decide +kernel
theorem dJ0_length_8abf5_9 : decode cJ0_length_8abf5 9 = .ok (.ishr, 1) := by decide +kernel
theorem dJ0_length_8abf5_10 : decode cJ0_length_8abf5 10 = .ok (.ireturn, 1) := by decide +kernel
set_option maxRecDepth 20000 in
theorem ggJ0_charAt_5068e_J0_isLatin1_aae02 : GoodIn wsJ0_charAt_5068e wsJ0_isLatin1_aae02 := goodIn_r _ [6, 7, 8] (by decide +kernel) (by decide +kernel)
set_option maxRecDepth 20000 in
theorem gJ0_charAt_5068e_J0_isLatin1_aae02 : GoodIn wsJ0_charAt_5068e (wsV RJ0 492 RJ0 yJ0_isLatin1_aae02 wsJ0_isLatin1_aae02) := goodIn_app (goodIn_of _ (by decide +kernel)) ggJ0_charAt_5068e_J0_isLatin1_aae02
set_option maxRecDepth 20000 in
theorem ggJ0_charAt_5068e_J1_charAt_3b067 : GoodIn wsJ0_charAt_5068e wsJ1_charAt_3b067 := goodIn_r _ [12, 13, 14, 5, 15, 16, 17, 18, 19, 20] (by decide +kernel) (by decide +kernel)
set_option maxRecDepth 20000 in
theorem gJ0_charAt_5068e_J1_charAt_3b067 : GoodIn wsJ0_charAt_5068e (va_wsS RJ0 495 yJ1_charAt_3b067 wsJ1_charAt_3b067) := goodIn_app (goodIn_of _ (by decide +kernel)) ggJ0_charAt_5068e_J1_charAt_3b067
set_option maxRecDepth 20000 in
theorem ggJ0_charAt_5068e_J2_charAt_3b067 : GoodIn wsJ0_charAt_5068e wsJ2_charAt_3b067 := goodIn_r _ [24, 25, 26, 23, 27, 28, 29, 30, 31, 14, 5, 15, 16, 17, 18, 19, 20, 32, 33, 34, 35, 36, 37] (by decide +kernel) (by decide +kernel)
set_option maxRecDepth 20000 in
theorem gJ0_charAt_5068e_J2_charAt_3b067 : GoodIn wsJ0_charAt_5068e (va_wsS RJ0 498 yJ2_charAt_3b067 wsJ2_charAt_3b067) := goodIn_app (goodIn_of _ (by decide +kernel)) ggJ0_charAt_5068e_J2_charAt_3b067
theorem dJ0_charAt_5068e_0 : decode cJ0_charAt_5068e 0 = .ok (.aload_n 0, 1) := by decide +kernel
theorem dJ0_charAt_5068e_1 : decode cJ0_charAt_5068e 1 = .ok (.invokevirtual 492, 3) := by decide +kernel
theorem dJ0_charAt_5068e_4 : decode cJ0_charAt_5068e 4 = .ok (.ifCond .eq 12, 3) := by decide +kernel
theorem dJ0_charAt_5068e_7 : decode cJ0_charAt_5068e 7 = .ok (.aload_n 0, 1) := by decide +kernel
theorem dJ0_charAt_5068e_8 : decode cJ0_charAt_5068e 8 = .ok (.getfield 9, 3) := by decide +kernel
theorem dJ0_charAt_5068e_11 : decode cJ0_charAt_5068e 11 = .ok (.iload_n 1, 1) := by decide +kernel
theorem dJ0_charAt_5068e_12 : decode cJ0_charAt_5068e 12 = .ok (.invokestatic 495, 3) := by decide +kernel
theorem dJ0_charAt_5068e_15 : decode cJ0_charAt_5068e 15 = .ok (.ireturn, 1) := by decide +kernel
theorem dJ0_charAt_5068e_16 : decode cJ0_charAt_5068e 16 = .ok (.aload_n 0, 1) := by decide +kernel
theorem dJ0_charAt_5068e_17 : decode cJ0_charAt_5068e 17 = .ok (.getfield 9, 3) := by decide +kernel
theorem dJ0_charAt_5068e_20 : decode cJ0_charAt_5068e 20 = .ok (.iload_n 1, 1) := by decide +kernel
theorem dJ0_charAt_5068e_21 : decode cJ0_charAt_5068e 21 = .ok (.invokestatic 498, 3) := by decide +kernel
theorem dJ0_charAt_5068e_24 : decode cJ0_charAt_5068e 24 = .ok (.ireturn, 1) := by decide +kernel
theorem dJ0_coder_7d493_0 : decode cJ0_coder_7d493 0 = .ok (.getstatic 38, 3) := by decide +kernel
theorem dJ0_coder_7d493_3 : decode cJ0_coder_7d493 3 = .ok (.ifCond .eq 10, 3) := by decide +kernel
theorem dJ0_coder_7d493_6 : decode cJ0_coder_7d493 6 = .ok (.aload_n 0, 1) := by decide +kernel
theorem dJ0_coder_7d493_7 : decode cJ0_coder_7d493 7 = .ok (.getfield 15, 3) := by decide +kernel
theorem dJ0_coder_7d493_10 : decode cJ0_coder_7d493 10 = .ok (.goto 4, 3) := by decide +kernel
theorem dJ0_coder_7d493_13 : decode cJ0_coder_7d493 13 = .ok (.iconst 1, 1) := by decide +kernel
theorem dJ0_coder_7d493_14 : decode cJ0_coder_7d493 14 = .ok (.ireturn, 1) := by decide +kernel
theorem dJ0_isLatin1_aae02_0 : decode cJ0_isLatin1_aae02 0 = .ok (.getstatic 38, 3) := by decide +kernel
theorem dJ0_isLatin1_aae02_3 : decode cJ0_isLatin1_aae02 3 = .ok (.ifCond .eq 14, 3) := by decide +kernel
theorem dJ0_isLatin1_aae02_6 : decode cJ0_isLatin1_aae02 6 = .ok (.aload_n 0, 1) := by decide +kernel
theorem dJ0_isLatin1_aae02_7 : decode cJ0_isLatin1_aae02 7 = .ok (.getfield 15, 3) := by decide +kernel
theorem dJ0_isLatin1_aae02_10 : decode cJ0_isLatin1_aae02 10 = .ok (.ifCond .ne 7, 3) := by decide +kernel
theorem dJ0_isLatin1_aae02_13 : decode cJ0_isLatin1_aae02 13 = .ok (.iconst 1, 1) := by decide +kernel
theorem dJ0_isLatin1_aae02_14 : decode cJ0_isLatin1_aae02 14 = .ok (.goto 4, 3) := by decide +kernel
theorem dJ0_isLatin1_aae02_17 : decode cJ0_isLatin1_aae02 17 = .ok (.iconst 0, 1) := by decide +kernel
theorem dJ0_isLatin1_aae02_18 : decode cJ0_isLatin1_aae02 18 = .ok (.ireturn, 1) := by decide +kernel
set_option maxRecDepth 20000 in
theorem ggJ0_checkIndex_df160_J3_checkIndex_8e157 : GoodIn wsJ0_checkIndex_df160 wsJ3_checkIndex_8e157 := goodIn_r _ [5] (by decide +kernel) (by decide +kernel)
set_option maxRecDepth 20000 in
theorem gJ0_checkIndex_df160_J3_checkIndex_8e157 : GoodIn wsJ0_checkIndex_df160 (va_wsS RJ0 1059 yJ3_checkIndex_8e157 wsJ3_checkIndex_8e157) := goodIn_app (goodIn_of _ (by decide +kernel)) ggJ0_checkIndex_df160_J3_checkIndex_8e157
theorem dJ0_checkIndex_df160_0 : decode cJ0_checkIndex_df160 0 = .ok (.iload_n 0, 1) := by decide +kernel
theorem dJ0_checkIndex_df160_1 : decode cJ0_checkIndex_df160 1 = .ok (.iload_n 1, 1) := by decide +kernel
theorem dJ0_checkIndex_df160_2 : decode cJ0_checkIndex_df160 2 = .ok (.getstatic 1053, 3) := by decide +kernel
theorem dJ0_checkIndex_df160_5 : decode cJ0_checkIndex_df160 5 = .ok (.invokestatic 1059, 3) := by decide +kernel
theorem dJ0_checkIndex_df160_8 : decode cJ0_checkIndex_df160 8 = .ok (.pop, 1) := by decide +kernel
theorem dJ0_checkIndex_df160_9 : decode cJ0_checkIndex_df160 9 = .ok (.return_, 1) := by decide +kernel
set_option maxRecDepth 20000 in
theorem ggJ1_charAt_3b067_J0_checkIndex_df160 : GoodIn wsJ1_charAt_3b067 wsJ0_checkIndex_df160 := goodIn_r _ [4, 5, 6, 7, 8, 9] (by decide +kernel) (by decide +kernel)
set_option maxRecDepth 20000 in
theorem gJ1_charAt_3b067_J0_checkIndex_df160 : GoodIn wsJ1_charAt_3b067 (va_wsS RJ1 9 yJ0_checkIndex_df160 wsJ0_checkIndex_df160) := goodIn_app (goodIn_of _ (by decide +kernel)) ggJ1_charAt_3b067_J0_checkIndex_df160
theorem dJ1_charAt_3b067_0 : decode cJ1_charAt_3b067 0 = .ok (.iload_n 1, 1) := by decide +kernel
theorem dJ1_charAt_3b067_1 : decode cJ1_charAt_3b067 1 = .ok (.aload_n 0, 1) := by decide +kernel
theorem dJ1_charAt_3b067_2 : decode cJ1_charAt_3b067 2 = .ok (.arraylength, 1) := by decide +kernel
theorem dJ1_charAt_3b067_3 : decode cJ1_charAt_3b067 3 = .ok (.invokestatic 9, 3) := by decide +kernel
theorem dJ1_charAt_3b067_6 : decode cJ1_charAt_3b067 6 = .ok (.aload_n 0, 1) := by decide +kernel
theorem dJ1_charAt_3b067_7 : decode cJ1_charAt_3b067 7 = .ok (.iload_n 1, 1) := by decide +kernel
theorem dJ1_charAt_3b067_8 : decode cJ1_charAt_3b067 8 = .ok (.baload, 1) := by decide +kernel
theorem dJ1_charAt_3b067_9 : decode cJ1_charAt_3b067 9 = .ok (.sipush 255, 3) := by decide +kernel
theorem dJ1_charAt_3b067_12 : decode cJ1_charAt_3b067 12 = .ok (.iand, 1) := by decide +kernel
theorem dJ1_charAt_3b067_13 : decode cJ1_charAt_3b067 13 = .ok (.i2c, 1) := by decide +kernel
theorem dJ1_charAt_3b067_14 : decode cJ1_charAt_3b067 14 = .ok (.ireturn, 1) := by decide +kernel
set_option maxRecDepth 20000 in
theorem ggJ2_getChar_3b067_J2_length_9d52b : GoodIn wsJ2_getChar_3b067 wsJ2_length_9d52b := goodIn_r _ [7] (by decide +kernel) (by decide +kernel)
set_option maxRecDepth 20000 in
theorem gJ2_getChar_3b067_J2_length_9d52b : GoodIn wsJ2_getChar_3b067 (va_wsS RJ2 48 yJ2_length_9d52b wsJ2_length_9d52b) := goodIn_app (goodIn_of _ (by decide +kernel)) ggJ2_getChar_3b067_J2_length_9d52b
theorem dJ2_getChar_3b067_0 : decode cJ2_getChar_3b067 0 = .ok (.getstatic 44, 3) := by decide +kernel
theorem dJ2_getChar_3b067_3 : decode cJ2_getChar_3b067 3 = .ok (.ifCond .ne 25, 3) := by decide +kernel
theorem dJ2_getChar_3b067_6 : decode cJ2_getChar_3b067 6 = .ok (.iload_n 1, 1) := by decide +kernel
theorem dJ2_getChar_3b067_7 : decode cJ2_getChar_3b067 7 = .ok (.ifCond .lt 11, 3) := by decide +kernel
theorem dJ2_getChar_3b067_10 : decode cJ2_getChar_3b067 10 = .ok (.iload_n 1, 1) := by decide +kernel
theorem dJ2_getChar_3b067_11 : decode cJ2_getChar_3b067 11 = .ok (.aload_n 0, 1) := by decide +kernel
theorem dJ2_getChar_3b067_12 : decode cJ2_getChar_3b067 12 = .ok (.invokestatic 48, 3) := by decide +kernel
theorem dJ2_getChar_3b067_15 : decode cJ2_getChar_3b067 15 = .ok (.if_icmp .lt 13, 3) := by decide +kernel
theorem dJ2_getChar_3b067_18 : decode cJ2_getChar_3b067 18 = .ok (.new 52, 3) := by decide +kernel
theorem dJ2_getChar_3b067_21 : decode cJ2_getChar_3b067 21 = .ok (.dup, 1) := by decide +kernel
theorem dJ2_getChar_3b067_22 : decode cJ2_getChar_3b067 22 = .ok (.ldc 54, 2) := by decide +kernel
theorem dJ2_getChar_3b067_24 : decode cJ2_getChar_3b067 24 = .ok (.invokespecial 56, 3) := by decide +kernel
theorem dJ2_getChar_3b067_27 : decode cJ2_getChar_3b067 27 = .ok (.athrow, 1) := by decide +kernel
theorem dJ2_getChar_3b067_28 : decode cJ2_getChar_3b067 28 = .ok (.iload_n 1, 1) := by decide +kernel
theorem dJ2_getChar_3b067_29 : decode cJ2_getChar_3b067 29 = .ok (.iconst 1, 1) := by decide +kernel
theorem dJ2_getChar_3b067_30 : decode cJ2_getChar_3b067 30 = .ok (.ishl, 1) := by decide +kernel
theorem dJ2_getChar_3b067_31 : decode cJ2_getChar_3b067 31 = .ok (.istore_n 1, 1) := by decide +kernel
theorem dJ2_getChar_3b067_32 : decode cJ2_getChar_3b067 32 = .ok (.aload_n 0, 1) := by decide +kernel
theorem dJ2_getChar_3b067_33 : decode cJ2_getChar_3b067 33 = .ok (.iload_n 1, 1) := by decide +kernel
theorem dJ2_getChar_3b067_34 : decode cJ2_getChar_3b067 34 = .ok (.iinc 1 1, 3) := by decide +kernel
theorem dJ2_getChar_3b067_37 : decode cJ2_getChar_3b067 37 = .ok (.baload, 1) := by decide +kernel
theorem dJ2_getChar_3b067_38 : decode cJ2_getChar_3b067 38 = .ok (.sipush 255, 3) := by decide +kernel
theorem dJ2_getChar_3b067_41 : decode cJ2_getChar_3b067 41 = .ok (.iand, 1) := by decide +kernel
theorem dJ2_getChar_3b067_42 : decode cJ2_getChar_3b067 42 = .ok (.getstatic 59, 3) := by decide +kernel
theorem dJ2_getChar_3b067_45 : decode cJ2_getChar_3b067 45 = .ok (.ishl, 1) := by decide +kernel
theorem dJ2_getChar_3b067_46 : decode cJ2_getChar_3b067 46 = .ok (.aload_n 0, 1) := by decide +kernel
theorem dJ2_getChar_3b067_47 : decode cJ2_getChar_3b067 47 = .ok (.iload_n 1, 1) := by decide +kernel
theorem dJ2_getChar_3b067_48 : decode cJ2_getChar_3b067 48 = .ok (.baload, 1) := by decide +kernel
theorem dJ2_getChar_3b067_49 : decode cJ2_getChar_3b067 49 = .ok (.sipush 255, 3) := by decide +kernel
theorem dJ2_getChar_3b067_52 : decode cJ2_getChar_3b067 52 = .ok (.iand, 1) := by decide +kernel
theorem dJ2_getChar_3b067_53 : decode cJ2_getChar_3b067 53 = .ok (.getstatic 63, 3) := by decide +kernel
theorem dJ2_getChar_3b067_56 : decode cJ2_getChar_3b067 56 = .ok (.ishl, 1) := by decide +kernel
theorem dJ2_getChar_3b067_57 : decode cJ2_getChar_3b067 57 = .ok (.ior, 1) := by decide +kernel
theorem dJ2_getChar_3b067_58 : decode cJ2_getChar_3b067 58 = .ok (.i2c, 1) := by decide +kernel
theorem dJ2_getChar_3b067_59 : decode cJ2_getChar_3b067 59 = .ok (.ireturn, 1) := by decide +kernel
theorem dJ2_length_9d52b_0 : decode cJ2_length_9d52b 0 = .ok (.aload_n 0, 1) := by decide +kernel
theorem dJ2_length_9d52b_1 : decode cJ2_length_9d52b 1 = .ok (.arraylength, 1) := by decide +kernel
theorem dJ2_length_9d52b_2 : decode cJ2_length_9d52b 2 = .ok (.iconst 1, 1) := by decide +kernel
theorem dJ2_length_9d52b_3 : decode cJ2_length_9d52b 3 = .ok (.ishr, 1) := by decide +kernel
theorem dJ2_length_9d52b_4 : decode cJ2_length_9d52b 4 = .ok (.ireturn, 1) := by decide +kernel
set_option maxRecDepth 20000 in
theorem ggJ2_charAt_3b067_J2_checkIndex_2214a : GoodIn wsJ2_charAt_3b067 wsJ2_checkIndex_2214a := goodIn_r _ [4, 5, 6, 3, 7, 8, 9, 10, 11, 12, 13, 14, 15, 16] (by decide +kernel) (by decide +kernel)
set_option maxRecDepth 20000 in
theorem gJ2_charAt_3b067_J2_checkIndex_2214a : GoodIn wsJ2_charAt_3b067 (va_wsS RJ2 67 yJ2_checkIndex_2214a wsJ2_checkIndex_2214a) := goodIn_app (goodIn_of _ (by decide +kernel)) ggJ2_charAt_3b067_J2_checkIndex_2214a
set_option maxRecDepth 20000 in
theorem ggJ2_charAt_3b067_J2_getChar_3b067 : GoodIn wsJ2_charAt_3b067 wsJ2_getChar_3b067 := goodIn_r _ [19, 20, 21, 22, 5, 6, 3, 7] (by decide +kernel) (by decide +kernel)
set_option maxRecDepth 20000 in
theorem gJ2_charAt_3b067_J2_getChar_3b067 : GoodIn wsJ2_charAt_3b067 (va_wsS RJ2 71 yJ2_getChar_3b067 wsJ2_getChar_3b067) := goodIn_app (goodIn_of _ (by decide +kernel)) ggJ2_charAt_3b067_J2_getChar_3b067
theorem dJ2_charAt_3b067_0 : decode cJ2_charAt_3b067 0 = .ok (.iload_n 1, 1) := by decide +kernel
theorem dJ2_charAt_3b067_1 : decode cJ2_charAt_3b067 1 = .ok (.aload_n 0, 1) := by decide +kernel
theorem dJ2_charAt_3b067_2 : decode cJ2_charAt_3b067 2 = .ok (.invokestatic 67, 3) := by decide +kernel
theorem dJ2_charAt_3b067_5 : decode cJ2_charAt_3b067 5 = .ok (.aload_n 0, 1) := by decide +kernel
theorem dJ2_charAt_3b067_6 : decode cJ2_charAt_3b067 6 = .ok (.iload_n 1, 1) := by decide +kernel
theorem dJ2_charAt_3b067_7 : decode cJ2_charAt_3b067 7 = .ok (.invokestatic 71, 3) := by decide +kernel
theorem dJ2_charAt_3b067_10 : decode cJ2_charAt_3b067 10 = .ok (.ireturn, 1) := by decide +kernel
set_option maxRecDepth 20000 in
theorem ggJ2_checkIndex_2214a_J2_length_9d52b : GoodIn wsJ2_checkIndex_2214a wsJ2_length_9d52b := goodIn_r _ [4] (by decide +kernel) (by decide +kernel)
set_option maxRecDepth 20000 in
theorem gJ2_checkIndex_2214a_J2_length_9d52b : GoodIn wsJ2_checkIndex_2214a (va_wsS RJ2 48 yJ2_length_9d52b wsJ2_length_9d52b) := goodIn_app (goodIn_of _ (by decide +kernel)) ggJ2_checkIndex_2214a_J2_length_9d52b
set_option maxRecDepth 20000 in
theorem ggJ2_checkIndex_2214a_J0_checkIndex_df160 : GoodIn wsJ2_checkIndex_2214a wsJ0_checkIndex_df160 := goodIn_r _ [8, 9, 10, 11, 12, 13] (by decide +kernel) (by decide +kernel)
set_option maxRecDepth 20000 in
theorem gJ2_checkIndex_2214a_J0_checkIndex_df160 : GoodIn wsJ2_checkIndex_2214a (va_wsS RJ2 414 yJ0_checkIndex_df160 wsJ0_checkIndex_df160) := goodIn_app (goodIn_of _ (by decide +kernel)) ggJ2_checkIndex_2214a_J0_checkIndex_df160
theorem dJ2_checkIndex_2214a_0 : decode cJ2_checkIndex_2214a 0 = .ok (.iload_n 0, 1) := by decide +kernel
theorem dJ2_checkIndex_2214a_1 : decode cJ2_checkIndex_2214a 1 = .ok (.aload_n 1, 1) := by decide +kernel
theorem dJ2_checkIndex_2214a_2 : decode cJ2_checkIndex_2214a 2 = .ok (.invokestatic 48, 3) := by decide +kernel
theorem dJ2_checkIndex_2214a_5 : decode cJ2_checkIndex_2214a 5 = .ok (.invokestatic 414, 3) := by decide +kernel
theorem dJ2_checkIndex_2214a_8 : decode cJ2_checkIndex_2214a 8 = .ok (.return_, 1) := by decide +kernel
theorem dJ3_checkIndex_8e157_0 : decode cJ3_checkIndex_8e157 0 = .ok (.iload_n 0, 1) := by decide +kernel
theorem dJ3_checkIndex_8e157_1 : decode cJ3_checkIndex_8e157 1 = .ok (.ifCond .lt 8, 3) := by decide +kernel
theorem dJ3_checkIndex_8e157_4 : decode cJ3_checkIndex_8e157 4 = .ok (.iload_n 0, 1) := by decide +kernel
theorem dJ3_checkIndex_8e157_5 : decode cJ3_checkIndex_8e157 5 = .ok (.iload_n 1, 1) := by decide +kernel
theorem dJ3_checkIndex_8e157_6 : decode cJ3_checkIndex_8e157 6 = .ok (.if_icmp .lt 10, 3) := by decide +kernel
theorem dJ3_checkIndex_8e157_9 : decode cJ3_checkIndex_8e157 9 = .ok (.aload_n 2, 1) := by decide +kernel
theorem dJ3_checkIndex_8e157_10 : decode cJ3_checkIndex_8e157 10 = .ok (.iload_n 0, 1) := by decide +kernel
theorem dJ3_checkIndex_8e157_11 : decode cJ3_checkIndex_8e157 11 = .ok (.iload_n 1, 1) := by decide +kernel
theorem dJ3_checkIndex_8e157_12 : decode cJ3_checkIndex_8e157 12 = .ok (.invokestatic 95, 3) := by decide +kernel
theorem dJ3_checkIndex_8e157_15 : decode cJ3_checkIndex_8e157 15 = .ok (.athrow, 1) := by decide +kernel
theorem dJ3_checkIndex_8e157_16 : decode cJ3_checkIndex_8e157 16 = .ok (.iload_n 0, 1) := by decide +kernel
theorem dJ3_checkIndex_8e157_17 : decode cJ3_checkIndex_8e157 17 = .ok (.ireturn, 1) := by decide +kernel
