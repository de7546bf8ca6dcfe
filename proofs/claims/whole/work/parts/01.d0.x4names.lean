theorem dX4_init_0 : decode cX4_init 0 = .ok (.aload_n 0, 1) := by decide +kernel
theorem dX4_init_1 : decode cX4_init 1 = .ok (.invokespecial 1, 3) := by decide +kernel
theorem dX4_init_4 : decode cX4_init 4 = .ok (.aload_n 0, 1) := by decide +kernel
theorem dX4_init_5 : decode cX4_init 5 = .ok (.bipush 65, 2) := by decide +kernel
theorem dX4_init_7 : decode cX4_init 7 = .ok (.newarray .int, 2) := by decide +kernel
theorem dX4_init_9 : decode cX4_init 9 = .ok (.putfield 9, 3) := by decide +kernel
theorem dX4_init_12 : decode cX4_init 12 = .ok (.aload_n 0, 1) := by decide +kernel
theorem dX4_init_13 : decode cX4_init 13 = .ok (.bipush 65, 2) := by decide +kernel
theorem dX4_init_15 : decode cX4_init 15 = .ok (.newarray .int, 2) := by decide +kernel
theorem dX4_init_17 : decode cX4_init 17 = .ok (.putfield 13, 3) := by decide +kernel
theorem dX4_init_20 : decode cX4_init 20 = .ok (.aload_n 0, 1) := by decide +kernel
theorem dX4_init_21 : decode cX4_init 21 = .ok (.bipush 65, 2) := by decide +kernel
theorem dX4_init_23 : decode cX4_init 23 = .ok (.newarray .int, 2) := by decide +kernel
theorem dX4_init_25 : decode cX4_init 25 = .ok (.putfield 16, 3) := by decide +kernel
theorem dX4_init_28 : decode cX4_init 28 = .ok (.aload_n 0, 1) := by decide +kernel
theorem dX4_init_29 : decode cX4_init 29 = .ok (.bipush 8, 2) := by decide +kernel
theorem dX4_init_31 : decode cX4_init 31 = .ok (.newarray .int, 2) := by decide +kernel
theorem dX4_init_33 : decode cX4_init 33 = .ok (.putfield 19, 3) := by decide +kernel
theorem dX4_init_36 : decode cX4_init 36 = .ok (.aload_n 0, 1) := by decide +kernel
theorem dX4_init_37 : decode cX4_init 37 = .ok (.bipush 8, 2) := by decide +kernel
theorem dX4_init_39 : decode cX4_init 39 = .ok (.newarray .int, 2) := by decide +kernel
theorem dX4_init_41 : decode cX4_init 41 = .ok (.putfield 22, 3) := by decide +kernel
theorem dX4_init_44 : decode cX4_init 44 = .ok (.aload_n 0, 1) := by decide +kernel
theorem dX4_init_45 : decode cX4_init 45 = .ok (.sipush 192, 3) := by decide +kernel
theorem dX4_init_48 : decode cX4_init 48 = .ok (.newarray .int, 2) := by decide +kernel
theorem dX4_init_50 : decode cX4_init 50 = .ok (.putfield 25, 3) := by decide +kernel
theorem dX4_init_53 : decode cX4_init 53 = .ok (.aload_n 0, 1) := by decide +kernel
theorem dX4_init_54 : decode cX4_init 54 = .ok (.bipush 16, 2) := by decide +kernel
theorem dX4_init_56 : decode cX4_init 56 = .ok (.newarray .int, 2) := by decide +kernel
theorem dX4_init_58 : decode cX4_init 58 = .ok (.putfield 28, 3) := by decide +kernel
theorem dX4_init_61 : decode cX4_init 61 = .ok (.aload_n 0, 1) := by decide +kernel
theorem dX4_init_62 : decode cX4_init 62 = .ok (.bipush 8, 2) := by decide +kernel
theorem dX4_init_64 : decode cX4_init 64 = .ok (.newarray .int, 2) := by decide +kernel
theorem dX4_init_66 : decode cX4_init 66 = .ok (.putfield 31, 3) := by decide +kernel
theorem dX4_init_69 : decode cX4_init 69 = .ok (.aload_n 0, 1) := by decide +kernel
theorem dX4_init_70 : decode cX4_init 70 = .ok (.bipush 120, 2) := by decide +kernel
theorem dX4_init_72 : decode cX4_init 72 = .ok (.newarray .int, 2) := by decide +kernel
theorem dX4_init_74 : decode cX4_init 74 = .ok (.putfield 34, 3) := by decide +kernel
theorem dX4_init_77 : decode cX4_init 77 = .ok (.aload_n 0, 1) := by decide +kernel
theorem dX4_init_78 : decode cX4_init 78 = .ok (.bipush 7, 2) := by decide +kernel
theorem dX4_init_80 : decode cX4_init 80 = .ok (.anewarray 37, 3) := by decide +kernel
theorem dX4_init_83 : decode cX4_init 83 = .ok (.dup, 1) := by decide +kernel
theorem dX4_init_84 : decode cX4_init 84 = .ok (.iconst 0, 1) := by decide +kernel
theorem dX4_init_85 : decode cX4_init 85 = .ok (.ldc 39, 2) := by decide +kernel
theorem dX4_init_87 : decode cX4_init 87 = .ok (.aastore, 1) := by decide +kernel
theorem dX4_init_88 : decode cX4_init 88 = .ok (.dup, 1) := by decide +kernel
theorem dX4_init_89 : decode cX4_init 89 = .ok (.iconst 1, 1) := by decide +kernel
theorem dX4_init_90 : decode cX4_init 90 = .ok (.ldc 41, 2) := by decide +kernel
theorem dX4_init_92 : decode cX4_init 92 = .ok (.aastore, 1) := by decide +kernel
theorem dX4_init_93 : decode cX4_init 93 = .ok (.dup, 1) := by decide +kernel
theorem dX4_init_94 : decode cX4_init 94 = .ok (.iconst 2, 1) := by decide +kernel
theorem dX4_init_95 : decode cX4_init 95 = .ok (.ldc 43, 2) := by decide +kernel
theorem dX4_init_97 : decode cX4_init 97 = .ok (.aastore, 1) := by decide +kernel
theorem dX4_init_98 : decode cX4_init 98 = .ok (.dup, 1) := by decide +kernel
theorem dX4_init_99 : decode cX4_init 99 = .ok (.iconst 3, 1) := by decide +kernel
theorem dX4_init_100 : decode cX4_init 100 = .ok (.ldc 45, 2) := by decide +kernel
theorem dX4_init_102 : decode cX4_init 102 = .ok (.aastore, 1) := by decide +kernel
theorem dX4_init_103 : decode cX4_init 103 = .ok (.dup, 1) := by decide +kernel
theorem dX4_init_104 : decode cX4_init 104 = .ok (.iconst 4, 1) := by decide +kernel
theorem dX4_init_105 : decode cX4_init 105 = .ok (.ldc 47, 2) := by decide +kernel
theorem dX4_init_107 : decode cX4_init 107 = .ok (.aastore, 1) := by decide +kernel
theorem dX4_init_108 : decode cX4_init 108 = .ok (.dup, 1) := by decide +kernel
theorem dX4_init_109 : decode cX4_init 109 = .ok (.iconst 5, 1) := by decide +kernel
theorem dX4_init_110 : decode cX4_init 110 = .ok (.ldc 49, 2) := by decide +kernel
theorem dX4_init_112 : decode cX4_init 112 = .ok (.aastore, 1) := by decide +kernel
theorem dX4_init_113 : decode cX4_init 113 = .ok (.dup, 1) := by decide +kernel
theorem dX4_init_114 : decode cX4_init 114 = .ok (.bipush 6, 2) := by decide +kernel
theorem dX4_init_116 : decode cX4_init 116 = .ok (.ldc 51, 2) := by decide +kernel
theorem dX4_init_118 : decode cX4_init 118 = .ok (.aastore, 1) := by decide +kernel
theorem dX4_init_119 : decode cX4_init 119 = .ok (.putfield 53, 3) := by decide +kernel
theorem dX4_init_122 : decode cX4_init 122 = .ok (.aload_n 0, 1) := by decide +kernel
theorem dX4_init_123 : decode cX4_init 123 = .ok (.sipush 600, 3) := by decide +kernel
theorem dX4_init_126 : decode cX4_init 126 = .ok (.newarray .int, 2) := by decide +kernel
theorem dX4_init_128 : decode cX4_init 128 = .ok (.putfield 57, 3) := by decide +kernel
theorem dX4_init_131 : decode cX4_init 131 = .ok (.aload_n 0, 1) := by decide +kernel
theorem dX4_init_132 : decode cX4_init 132 = .ok (.iconst 4, 1) := by decide +kernel
theorem dX4_init_133 : decode cX4_init 133 = .ok (.newarray .int, 2) := by decide +kernel
theorem dX4_init_135 : decode cX4_init 135 = .ok (.putfield 60, 3) := by decide +kernel
theorem dX4_init_138 : decode cX4_init 138 = .ok (.aload_n 0, 1) := by decide +kernel
theorem dX4_init_139 : decode cX4_init 139 = .ok (.iconst 4, 1) := by decide +kernel
theorem dX4_init_140 : decode cX4_init 140 = .ok (.newarray .int, 2) := by decide +kernel
theorem dX4_init_142 : decode cX4_init 142 = .ok (.putfield 63, 3) := by decide +kernel
theorem dX4_init_145 : decode cX4_init 145 = .ok (.aload_n 0, 1) := by decide +kernel
theorem dX4_init_146 : decode cX4_init 146 = .ok (.sipush 160, 3) := by decide +kernel
theorem dX4_init_149 : decode cX4_init 149 = .ok (.newarray .int, 2) := by decide +kernel
theorem dX4_init_151 : decode cX4_init 151 = .ok (.putfield 66, 3) := by decide +kernel
theorem dX4_init_154 : decode cX4_init 154 = .ok (.aload_n 0, 1) := by decide +kernel
theorem dX4_init_155 : decode cX4_init 155 = .ok (.bipush 40, 2) := by decide +kernel
theorem dX4_init_157 : decode cX4_init 157 = .ok (.newarray .int, 2) := by decide +kernel
theorem dX4_init_159 : decode cX4_init 159 = .ok (.putfield 69, 3) := by decide +kernel
theorem dX4_init_162 : decode cX4_init 162 = .ok (.aload_n 0, 1) := by decide +kernel
theorem dX4_init_163 : decode cX4_init 163 = .ok (.getfield 9, 3) := by decide +kernel
theorem dX4_init_166 : decode cX4_init 166 = .ok (.iconst 2, 1) := by decide +kernel
theorem dX4_init_167 : decode cX4_init 167 = .ok (.iconst 1, 1) := by decide +kernel
theorem dX4_init_168 : decode cX4_init 168 = .ok (.iastore, 1) := by decide +kernel
theorem dX4_init_169 : decode cX4_init 169 = .ok (.iconst 0, 1) := by decide +kernel
theorem dX4_init_170 : decode cX4_init 170 = .ok (.istore_n 1, 1) := by decide +kernel
theorem dX4_init_171 : decode cX4_init 171 = .ok (.iload_n 1, 1) := by decide +kernel
theorem dX4_init_172 : decode cX4_init 172 = .ok (.bipush 12, 2) := by decide +kernel
theorem dX4_init_174 : decode cX4_init 174 = .ok (.if_icmp .ge 19, 3) := by decide +kernel
theorem dX4_init_177 : decode cX4_init 177 = .ok (.aload_n 0, 1) := by decide +kernel
theorem dX4_init_178 : decode cX4_init 178 = .ok (.getfield 9, 3) := by decide +kernel
theorem dX4_init_181 : decode cX4_init 181 = .ok (.iconst 3, 1) := by decide +kernel
theorem dX4_init_182 : decode cX4_init 182 = .ok (.iload_n 1, 1) := by decide +kernel
theorem dX4_init_183 : decode cX4_init 183 = .ok (.iadd, 1) := by decide +kernel
theorem dX4_init_184 : decode cX4_init 184 = .ok (.bipush 63, 2) := by decide +kernel
theorem dX4_init_186 : decode cX4_init 186 = .ok (.iastore, 1) := by decide +kernel
theorem dX4_init_187 : decode cX4_init 187 = .ok (.iinc 1 1, 3) := by decide +kernel
theorem dX4_init_190 : decode cX4_init 190 = .ok (.goto (-19), 3) := by decide +kernel
theorem dX4_init_193 : decode cX4_init 193 = .ok (.iconst 0, 1) := by decide +kernel
theorem dX4_init_194 : decode cX4_init 194 = .ok (.istore_n 1, 1) := by decide +kernel
theorem dX4_init_195 : decode cX4_init 195 = .ok (.iload_n 1, 1) := by decide +kernel
theorem dX4_init_196 : decode cX4_init 196 = .ok (.bipush 10, 2) := by decide +kernel
theorem dX4_init_198 : decode cX4_init 198 = .ok (.if_icmp .ge 19, 3) := by decide +kernel
theorem dX4_init_201 : decode cX4_init 201 = .ok (.aload_n 0, 1) := by decide +kernel
theorem dX4_init_202 : decode cX4_init 202 = .ok (.getfield 9, 3) := by decide +kernel
theorem dX4_init_205 : decode cX4_init 205 = .ok (.bipush 15, 2) := by decide +kernel
theorem dX4_init_207 : decode cX4_init 207 = .ok (.iload_n 1, 1) := by decide +kernel
theorem dX4_init_208 : decode cX4_init 208 = .ok (.iadd, 1) := by decide +kernel
theorem dX4_init_209 : decode cX4_init 209 = .ok (.iconst (-1), 1) := by decide +kernel
theorem dX4_init_210 : decode cX4_init 210 = .ok (.iastore, 1) := by decide +kernel
theorem dX4_init_211 : decode cX4_init 211 = .ok (.iinc 1 1, 3) := by decide +kernel
theorem dX4_init_214 : decode cX4_init 214 = .ok (.goto (-19), 3) := by decide +kernel
theorem dX4_init_217 : decode cX4_init 217 = .ok (.return_, 1) := by decide +kernel
theorem dX4_finding_0 : decode cX4_finding 0 = .ok (.aload_n 0, 1) := by decide +kernel
theorem dX4_finding_1 : decode cX4_finding 1 = .ok (.getfield 19, 3) := by decide +kernel
theorem dX4_finding_4 : decode cX4_finding 4 = .ok (.ldc 72, 2) := by decide +kernel
theorem dX4_finding_6 : decode cX4_finding 6 = .ok (.iload_n 1, 1) := by decide +kernel
theorem dX4_finding_7 : decode cX4_finding 7 = .ok (.isub, 1) := by decide +kernel
theorem dX4_finding_8 : decode cX4_finding 8 = .ok (.iconst 1, 1) := by decide +kernel
theorem dX4_finding_9 : decode cX4_finding 9 = .ok (.iadd, 1) := by decide +kernel
theorem dX4_finding_10 : decode cX4_finding 10 = .ok (.dup2, 1) := by decide +kernel
theorem dX4_finding_11 : decode cX4_finding 11 = .ok (.iaload, 1) := by decide +kernel
theorem dX4_finding_12 : decode cX4_finding 12 = .ok (.iconst 1, 1) := by decide +kernel
theorem dX4_finding_13 : decode cX4_finding 13 = .ok (.iadd, 1) := by decide +kernel
theorem dX4_finding_14 : decode cX4_finding 14 = .ok (.iastore, 1) := by decide +kernel
theorem dX4_finding_15 : decode cX4_finding 15 = .ok (.aload_n 0, 1) := by decide +kernel
theorem dX4_finding_16 : decode cX4_finding 16 = .ok (.getfield 19, 3) := by decide +kernel
theorem dX4_finding_19 : decode cX4_finding 19 = .ok (.iconst 0, 1) := by decide +kernel
theorem dX4_finding_20 : decode cX4_finding 20 = .ok (.dup2, 1) := by decide +kernel
theorem dX4_finding_21 : decode cX4_finding 21 = .ok (.iaload, 1) := by decide +kernel
theorem dX4_finding_22 : decode cX4_finding 22 = .ok (.iconst 1, 1) := by decide +kernel
theorem dX4_finding_23 : decode cX4_finding 23 = .ok (.iadd, 1) := by decide +kernel
theorem dX4_finding_24 : decode cX4_finding 24 = .ok (.iastore, 1) := by decide +kernel
theorem dX4_finding_25 : decode cX4_finding 25 = .ok (.iload_n 1, 1) := by decide +kernel
theorem dX4_finding_26 : decode cX4_finding 26 = .ok (.ireturn, 1) := by decide +kernel
theorem dX4_within_0 : decode cX4_within 0 = .ok (.iload_n 0, 1) := by decide +kernel
theorem dX4_within_1 : decode cX4_within 1 = .ok (.iload_n 1, 1) := by decide +kernel
theorem dX4_within_2 : decode cX4_within 2 = .ok (.if_icmp .lt 12, 3) := by decide +kernel
theorem dX4_within_5 : decode cX4_within 5 = .ok (.iload_n 0, 1) := by decide +kernel
theorem dX4_within_6 : decode cX4_within 6 = .ok (.iload_n 2, 1) := by decide +kernel
theorem dX4_within_7 : decode cX4_within 7 = .ok (.if_icmp .gt 7, 3) := by decide +kernel
theorem dX4_within_10 : decode cX4_within 10 = .ok (.iconst 1, 1) := by decide +kernel
theorem dX4_within_11 : decode cX4_within 11 = .ok (.goto 4, 3) := by decide +kernel
theorem dX4_within_14 : decode cX4_within 14 = .ok (.iconst 0, 1) := by decide +kernel
theorem dX4_within_15 : decode cX4_within 15 = .ok (.ireturn, 1) := by decide +kernel
theorem dX4_become_0 : decode cX4_become 0 = .ok (.aload_n 0, 1) := by decide +kernel
theorem dX4_become_1 : decode cX4_become 1 = .ok (.getfield 9, 3) := by decide +kernel
theorem dX4_become_4 : decode cX4_become 4 = .ok (.iload_n 1, 1) := by decide +kernel
theorem dX4_become_5 : decode cX4_become 5 = .ok (.iaload, 1) := by decide +kernel
theorem dX4_become_6 : decode cX4_become 6 = .ok (.istore_n 3, 1) := by decide +kernel
theorem dX4_become_7 : decode cX4_become 7 = .ok (.aload_n 0, 1) := by decide +kernel
theorem dX4_become_8 : decode cX4_become 8 = .ok (.getfield 9, 3) := by decide +kernel
theorem dX4_become_11 : decode cX4_become 11 = .ok (.iload_n 1, 1) := by decide +kernel
theorem dX4_become_12 : decode cX4_become 12 = .ok (.iload_n 2, 1) := by decide +kernel
theorem dX4_become_13 : decode cX4_become 13 = .ok (.iastore, 1) := by decide +kernel
theorem dX4_become_14 : decode cX4_become 14 = .ok (.iload_n 3, 1) := by decide +kernel
theorem dX4_become_15 : decode cX4_become 15 = .ok (.ireturn, 1) := by decide +kernel
theorem dX4_copyRow_0 : decode cX4_copyRow 0 = .ok (.iconst 0, 1) := by decide +kernel
theorem dX4_copyRow_1 : decode cX4_copyRow 1 = .ok (.istore_n 2, 1) := by decide +kernel
theorem dX4_copyRow_2 : decode cX4_copyRow 2 = .ok (.iload_n 2, 1) := by decide +kernel
theorem dX4_copyRow_3 : decode cX4_copyRow 3 = .ok (.bipush 65, 2) := by decide +kernel
theorem dX4_copyRow_5 : decode cX4_copyRow 5 = .ok (.if_icmp .ge 15, 3) := by decide +kernel
theorem dX4_copyRow_8 : decode cX4_copyRow 8 = .ok (.aload_n 1, 1) := by decide +kernel
theorem dX4_copyRow_9 : decode cX4_copyRow 9 = .ok (.iload_n 2, 1) := by decide +kernel
theorem dX4_copyRow_10 : decode cX4_copyRow 10 = .ok (.aload_n 0, 1) := by decide +kernel
theorem dX4_copyRow_11 : decode cX4_copyRow 11 = .ok (.iload_n 2, 1) := by decide +kernel
theorem dX4_copyRow_12 : decode cX4_copyRow 12 = .ok (.iaload, 1) := by decide +kernel
theorem dX4_copyRow_13 : decode cX4_copyRow 13 = .ok (.iastore, 1) := by decide +kernel
theorem dX4_copyRow_14 : decode cX4_copyRow 14 = .ok (.iinc 2 1, 3) := by decide +kernel
theorem dX4_copyRow_17 : decode cX4_copyRow 17 = .ok (.goto (-15), 3) := by decide +kernel
theorem dX4_copyRow_20 : decode cX4_copyRow 20 = .ok (.return_, 1) := by decide +kernel
set_option maxRecDepth 20000 in
theorem ggX4_putBack_X4_copyRow : GoodIn wsX4_putBack wsX4_copyRow := goodIn_r _ [6] (by decide +kernel) (by decide +kernel)
set_option maxRecDepth 20000 in
theorem gX4_putBack_X4_copyRow : GoodIn wsX4_putBack (va_wsS RX4 73 yX4_copyRow wsX4_copyRow) := goodIn_app (goodIn_of _ (by decide +kernel)) ggX4_putBack_X4_copyRow
theorem dX4_putBack_0 : decode cX4_putBack 0 = .ok (.aload_n 0, 1) := by decide +kernel
theorem dX4_putBack_1 : decode cX4_putBack 1 = .ok (.getfield 16, 3) := by decide +kernel
theorem dX4_putBack_4 : decode cX4_putBack 4 = .ok (.aload_n 0, 1) := by decide +kernel
theorem dX4_putBack_5 : decode cX4_putBack 5 = .ok (.getfield 9, 3) := by decide +kernel
theorem dX4_putBack_8 : decode cX4_putBack 8 = .ok (.invokestatic 73, 3) := by decide +kernel
theorem dX4_putBack_11 : decode cX4_putBack 11 = .ok (.iload_n 1, 1) := by decide +kernel
theorem dX4_putBack_12 : decode cX4_putBack 12 = .ok (.ireturn, 1) := by decide +kernel
set_option maxRecDepth 20000 in
theorem ggX4_orNone_X4_finding : GoodIn wsX4_orNone wsX4_finding := goodIn_r _ [6, 7, 8, 9, 10, 11, 12, 13, 14, 15, 16, 17, 18, 19, 20, 21, 22, 23, 24, 25, 26, 27, 28, 29, 30, 31, 32] (by decide +kernel) (by decide +kernel)
set_option maxRecDepth 20000 in
theorem gX4_orNone_X4_finding : GoodIn wsX4_orNone (wsV RX4 78 RX4 yX4_finding wsX4_finding) := goodIn_app (goodIn_of _ (by decide +kernel)) ggX4_orNone_X4_finding
theorem dX4_orNone_0 : decode cX4_orNone 0 = .ok (.iload_n 1, 1) := by decide +kernel
theorem dX4_orNone_1 : decode cX4_orNone 1 = .ok (.ifCond .ge 12, 3) := by decide +kernel
theorem dX4_orNone_4 : decode cX4_orNone 4 = .ok (.aload_n 0, 1) := by decide +kernel
theorem dX4_orNone_5 : decode cX4_orNone 5 = .ok (.ldc 77, 2) := by decide +kernel
theorem dX4_orNone_7 : decode cX4_orNone 7 = .ok (.invokevirtual 78, 3) := by decide +kernel
theorem dX4_orNone_10 : decode cX4_orNone 10 = .ok (.goto 4, 3) := by decide +kernel
theorem dX4_orNone_13 : decode cX4_orNone 13 = .ok (.iload_n 1, 1) := by decide +kernel
theorem dX4_orNone_14 : decode cX4_orNone 14 = .ok (.ireturn, 1) := by decide +kernel
theorem dX4_has_0 : decode cX4_has 0 = .ok (.iload_n 0, 1) := by decide +kernel
theorem dX4_has_1 : decode cX4_has 1 = .ok (.iload_n 1, 1) := by decide +kernel
theorem dX4_has_2 : decode cX4_has 2 = .ok (.ishr, 1) := by decide +kernel
theorem dX4_has_3 : decode cX4_has 3 = .ok (.iconst 1, 1) := by decide +kernel
theorem dX4_has_4 : decode cX4_has 4 = .ok (.iand, 1) := by decide +kernel
theorem dX4_has_5 : decode cX4_has 5 = .ok (.iconst 1, 1) := by decide +kernel
theorem dX4_has_6 : decode cX4_has 6 = .ok (.if_icmp .ne 7, 3) := by decide +kernel
theorem dX4_has_9 : decode cX4_has 9 = .ok (.iconst 1, 1) := by decide +kernel
theorem dX4_has_10 : decode cX4_has 10 = .ok (.goto 4, 3) := by decide +kernel
theorem dX4_has_13 : decode cX4_has 13 = .ok (.iconst 0, 1) := by decide +kernel
theorem dX4_has_14 : decode cX4_has 14 = .ok (.ireturn, 1) := by decide +kernel
theorem dX4_bits_0 : decode cX4_bits 0 = .ok (.iconst 0, 1) := by decide +kernel
theorem dX4_bits_1 : decode cX4_bits 1 = .ok (.istore_n 1, 1) := by decide +kernel
theorem dX4_bits_2 : decode cX4_bits 2 = .ok (.iload_n 0, 1) := by decide +kernel
theorem dX4_bits_3 : decode cX4_bits 3 = .ok (.istore_n 2, 1) := by decide +kernel
theorem dX4_bits_4 : decode cX4_bits 4 = .ok (.iload_n 2, 1) := by decide +kernel
theorem dX4_bits_5 : decode cX4_bits 5 = .ok (.ifCond .eq 15, 3) := by decide +kernel
theorem dX4_bits_8 : decode cX4_bits 8 = .ok (.iinc 1 1, 3) := by decide +kernel
theorem dX4_bits_11 : decode cX4_bits 11 = .ok (.iload_n 2, 1) := by decide +kernel
theorem dX4_bits_12 : decode cX4_bits 12 = .ok (.iload_n 2, 1) := by decide +kernel
theorem dX4_bits_13 : decode cX4_bits 13 = .ok (.iconst 1, 1) := by decide +kernel
theorem dX4_bits_14 : decode cX4_bits 14 = .ok (.isub, 1) := by decide +kernel
theorem dX4_bits_15 : decode cX4_bits 15 = .ok (.iand, 1) := by decide +kernel
theorem dX4_bits_16 : decode cX4_bits 16 = .ok (.istore_n 2, 1) := by decide +kernel
theorem dX4_bits_17 : decode cX4_bits 17 = .ok (.goto (-13), 3) := by decide +kernel
theorem dX4_bits_20 : decode cX4_bits 20 = .ok (.iload_n 1, 1) := by decide +kernel
theorem dX4_bits_21 : decode cX4_bits 21 = .ok (.ireturn, 1) := by decide +kernel
set_option maxRecDepth 20000 in
theorem ggX4_isBar_X4_within : GoodIn wsX4_isBar wsX4_within := goodIn_r _ [4] (by decide +kernel) (by decide +kernel)
set_option maxRecDepth 20000 in
theorem gX4_isBar_X4_within : GoodIn wsX4_isBar (va_wsS RX4 82 yX4_within wsX4_within) := goodIn_app (goodIn_of _ (by decide +kernel)) ggX4_isBar_X4_within
theorem dX4_isBar_0 : decode cX4_isBar 0 = .ok (.iload_n 0, 1) := by decide +kernel
theorem dX4_isBar_1 : decode cX4_isBar 1 = .ok (.iconst 0, 1) := by decide +kernel
theorem dX4_isBar_2 : decode cX4_isBar 2 = .ok (.bipush 11, 2) := by decide +kernel
theorem dX4_isBar_4 : decode cX4_isBar 4 = .ok (.invokestatic 82, 3) := by decide +kernel
theorem dX4_isBar_7 : decode cX4_isBar 7 = .ok (.ireturn, 1) := by decide +kernel
set_option maxRecDepth 20000 in
theorem ggX4_isSeat_X4_within : GoodIn wsX4_isSeat wsX4_within := goodIn_r _ [4] (by decide +kernel) (by decide +kernel)
set_option maxRecDepth 20000 in
theorem gX4_isSeat_X4_within : GoodIn wsX4_isSeat (va_wsS RX4 82 yX4_within wsX4_within) := goodIn_app (goodIn_of _ (by decide +kernel)) ggX4_isSeat_X4_within
theorem dX4_isSeat_0 : decode cX4_isSeat 0 = .ok (.iload_n 0, 1) := by decide +kernel
theorem dX4_isSeat_1 : decode cX4_isSeat 1 = .ok (.iconst 0, 1) := by decide +kernel
theorem dX4_isSeat_2 : decode cX4_isSeat 2 = .ok (.bipush 15, 2) := by decide +kernel
theorem dX4_isSeat_4 : decode cX4_isSeat 4 = .ok (.invokestatic 82, 3) := by decide +kernel
theorem dX4_isSeat_7 : decode cX4_isSeat 7 = .ok (.ireturn, 1) := by decide +kernel
set_option maxRecDepth 20000 in
theorem ggX4_isPlayer_X4_within : GoodIn wsX4_isPlayer wsX4_within := goodIn_r _ [5] (by decide +kernel) (by decide +kernel)
set_option maxRecDepth 20000 in
theorem gX4_isPlayer_X4_within : GoodIn wsX4_isPlayer (va_wsS RX4 82 yX4_within wsX4_within) := goodIn_app (goodIn_of _ (by decide +kernel)) ggX4_isPlayer_X4_within
theorem dX4_isPlayer_0 : decode cX4_isPlayer 0 = .ok (.iload_n 1, 1) := by decide +kernel
theorem dX4_isPlayer_1 : decode cX4_isPlayer 1 = .ok (.iconst 0, 1) := by decide +kernel
theorem dX4_isPlayer_2 : decode cX4_isPlayer 2 = .ok (.aload_n 0, 1) := by decide +kernel
theorem dX4_isPlayer_3 : decode cX4_isPlayer 3 = .ok (.getfield 9, 3) := by decide +kernel
theorem dX4_isPlayer_6 : decode cX4_isPlayer 6 = .ok (.iconst 1, 1) := by decide +kernel
theorem dX4_isPlayer_7 : decode cX4_isPlayer 7 = .ok (.iaload, 1) := by decide +kernel
theorem dX4_isPlayer_8 : decode cX4_isPlayer 8 = .ok (.iconst 1, 1) := by decide +kernel
theorem dX4_isPlayer_9 : decode cX4_isPlayer 9 = .ok (.isub, 1) := by decide +kernel
theorem dX4_isPlayer_10 : decode cX4_isPlayer 10 = .ok (.invokestatic 82, 3) := by decide +kernel
theorem dX4_isPlayer_13 : decode cX4_isPlayer 13 = .ok (.ireturn, 1) := by decide +kernel
set_option maxRecDepth 20000 in
theorem ggX4_isKind_X4_within : GoodIn wsX4_isKind wsX4_within := goodIn_r _ [4] (by decide +kernel) (by decide +kernel)
set_option maxRecDepth 20000 in
theorem gX4_isKind_X4_within : GoodIn wsX4_isKind (va_wsS RX4 82 yX4_within wsX4_within) := goodIn_app (goodIn_of _ (by decide +kernel)) ggX4_isKind_X4_within
theorem dX4_isKind_0 : decode cX4_isKind 0 = .ok (.iload_n 0, 1) := by decide +kernel
theorem dX4_isKind_1 : decode cX4_isKind 1 = .ok (.iconst 0, 1) := by decide +kernel
theorem dX4_isKind_2 : decode cX4_isKind 2 = .ok (.bipush 6, 2) := by decide +kernel
theorem dX4_isKind_4 : decode cX4_isKind 4 = .ok (.invokestatic 82, 3) := by decide +kernel
theorem dX4_isKind_7 : decode cX4_isKind 7 = .ok (.ireturn, 1) := by decide +kernel
set_option maxRecDepth 20000 in
theorem ggX4_areParts_X4_within : GoodIn wsX4_areParts wsX4_within := goodIn_r _ [4] (by decide +kernel) (by decide +kernel)
set_option maxRecDepth 20000 in
theorem gX4_areParts_X4_within : GoodIn wsX4_areParts (va_wsS RX4 82 yX4_within wsX4_within) := goodIn_app (goodIn_of _ (by decide +kernel)) ggX4_areParts_X4_within
theorem dX4_areParts_0 : decode cX4_areParts 0 = .ok (.iload_n 0, 1) := by decide +kernel
theorem dX4_areParts_1 : decode cX4_areParts 1 = .ok (.iconst 0, 1) := by decide +kernel
theorem dX4_areParts_2 : decode cX4_areParts 2 = .ok (.bipush 63, 2) := by decide +kernel
theorem dX4_areParts_4 : decode cX4_areParts 4 = .ok (.invokestatic 82, 3) := by decide +kernel
theorem dX4_areParts_7 : decode cX4_areParts 7 = .ok (.ireturn, 1) := by decide +kernel
theorem dX4_at_0 : decode cX4_at 0 = .ok (.bipush 25, 2) := by decide +kernel
theorem dX4_at_2 : decode cX4_at 2 = .ok (.iconst 5, 1) := by decide +kernel
theorem dX4_at_3 : decode cX4_at 3 = .ok (.iload_n 0, 1) := by decide +kernel
theorem dX4_at_4 : decode cX4_at 4 = .ok (.imul, 1) := by decide +kernel
theorem dX4_at_5 : decode cX4_at 5 = .ok (.iadd, 1) := by decide +kernel
theorem dX4_at_6 : decode cX4_at 6 = .ok (.iload_n 1, 1) := by decide +kernel
theorem dX4_at_7 : decode cX4_at 7 = .ok (.iadd, 1) := by decide +kernel
theorem dX4_at_8 : decode cX4_at 8 = .ok (.ireturn, 1) := by decide +kernel
set_option maxRecDepth 20000 in
theorem ggX4_playerIs_X4_at : GoodIn wsX4_playerIs wsX4_at := goodIn_r _ [5] (by decide +kernel) (by decide +kernel)
set_option maxRecDepth 20000 in
theorem gX4_playerIs_X4_at : GoodIn wsX4_playerIs (va_wsS RX4 86 yX4_at wsX4_at) := goodIn_app (goodIn_of _ (by decide +kernel)) ggX4_playerIs_X4_at
theorem dX4_playerIs_0 : decode cX4_playerIs 0 = .ok (.aload_n 0, 1) := by decide +kernel
theorem dX4_playerIs_1 : decode cX4_playerIs 1 = .ok (.getfield 9, 3) := by decide +kernel
theorem dX4_playerIs_4 : decode cX4_playerIs 4 = .ok (.iload_n 1, 1) := by decide +kernel
theorem dX4_playerIs_5 : decode cX4_playerIs 5 = .ok (.iload_n 2, 1) := by decide +kernel
theorem dX4_playerIs_6 : decode cX4_playerIs 6 = .ok (.invokestatic 86, 3) := by decide +kernel
theorem dX4_playerIs_9 : decode cX4_playerIs 9 = .ok (.iaload, 1) := by decide +kernel
theorem dX4_playerIs_10 : decode cX4_playerIs 10 = .ok (.ireturn, 1) := by decide +kernel
set_option maxRecDepth 20000 in
theorem ggX4_bar_X4_isBar : GoodIn wsX4_bar wsX4_isBar := goodIn_r _ [5, 6, 7, 4, 8] (by decide +kernel) (by decide +kernel)
set_option maxRecDepth 20000 in
theorem gX4_bar_X4_isBar : GoodIn wsX4_bar (va_wsS RX4 90 yX4_isBar wsX4_isBar) := goodIn_app (goodIn_of _ (by decide +kernel)) ggX4_bar_X4_isBar
set_option maxRecDepth 20000 in
theorem ggX4_bar_X4_areParts : GoodIn wsX4_bar wsX4_areParts := goodIn_r _ [11, 6, 7, 4, 8] (by decide +kernel) (by decide +kernel)
set_option maxRecDepth 20000 in
theorem gX4_bar_X4_areParts : GoodIn wsX4_bar (va_wsS RX4 94 yX4_areParts wsX4_areParts) := goodIn_app (goodIn_of _ (by decide +kernel)) ggX4_bar_X4_areParts
set_option maxRecDepth 20000 in
theorem ggX4_bar_X4_become : GoodIn wsX4_bar wsX4_become := goodIn_r _ [15, 16, 22, 23, 24, 25, 26, 27, 28, 29, 30, 31, 32, 33, 34, 35, 36, 37, 38, 39, 40, 41, 42, 43, 44, 45] (by decide +kernel) (by decide +kernel)
set_option maxRecDepth 20000 in
theorem gX4_bar_X4_become : GoodIn wsX4_bar (wsV RX4 97 RX4 yX4_become wsX4_become) := goodIn_app (goodIn_of _ (by decide +kernel)) ggX4_bar_X4_become
set_option maxRecDepth 20000 in
theorem ggX4_bar_X4_finding : GoodIn wsX4_bar wsX4_finding := goodIn_r _ [20, 21, 1, 22, 23, 24, 25, 26, 27, 28, 29, 30, 31, 32, 33, 34, 35, 36, 37, 38, 39, 40, 41, 42, 43, 44, 45] (by decide +kernel) (by decide +kernel)
set_option maxRecDepth 20000 in
theorem gX4_bar_X4_finding : GoodIn wsX4_bar (wsV RX4 78 RX4 yX4_finding wsX4_finding) := goodIn_app (goodIn_of _ (by decide +kernel)) ggX4_bar_X4_finding
theorem dX4_bar_0 : decode cX4_bar 0 = .ok (.iload_n 1, 1) := by decide +kernel
theorem dX4_bar_1 : decode cX4_bar 1 = .ok (.invokestatic 90, 3) := by decide +kernel
theorem dX4_bar_4 : decode cX4_bar 4 = .ok (.ifCond .eq 21, 3) := by decide +kernel
theorem dX4_bar_7 : decode cX4_bar 7 = .ok (.iload_n 2, 1) := by decide +kernel
theorem dX4_bar_8 : decode cX4_bar 8 = .ok (.invokestatic 94, 3) := by decide +kernel
theorem dX4_bar_11 : decode cX4_bar 11 = .ok (.ifCond .eq 14, 3) := by decide +kernel
theorem dX4_bar_14 : decode cX4_bar 14 = .ok (.aload_n 0, 1) := by decide +kernel
theorem dX4_bar_15 : decode cX4_bar 15 = .ok (.iconst 3, 1) := by decide +kernel
theorem dX4_bar_16 : decode cX4_bar 16 = .ok (.iload_n 1, 1) := by decide +kernel
theorem dX4_bar_17 : decode cX4_bar 17 = .ok (.iadd, 1) := by decide +kernel
theorem dX4_bar_18 : decode cX4_bar 18 = .ok (.iload_n 2, 1) := by decide +kernel
theorem dX4_bar_19 : decode cX4_bar 19 = .ok (.invokevirtual 97, 3) := by decide +kernel
theorem dX4_bar_22 : decode cX4_bar 22 = .ok (.goto 9, 3) := by decide +kernel
theorem dX4_bar_25 : decode cX4_bar 25 = .ok (.aload_n 0, 1) := by decide +kernel
theorem dX4_bar_26 : decode cX4_bar 26 = .ok (.ldc 72, 2) := by decide +kernel
theorem dX4_bar_28 : decode cX4_bar 28 = .ok (.invokevirtual 78, 3) := by decide +kernel
theorem dX4_bar_31 : decode cX4_bar 31 = .ok (.ireturn, 1) := by decide +kernel
set_option maxRecDepth 20000 in
theorem ggX4_isAnotherFirst_X4_playerIs : GoodIn wsX4_isAnotherFirst wsX4_playerIs := goodIn_r _ [6, 1, 7, 8, 5, 9, 10, 11, 12, 13, 14, 15, 16, 17, 18, 19, 20, 21, 22, 23, 24, 25, 26, 27, 28, 29, 30, 31, 32, 33] (by decide +kernel) (by decide +kernel)
set_option maxRecDepth 20000 in
theorem gX4_isAnotherFirst_X4_playerIs : GoodIn wsX4_isAnotherFirst (wsV RX4 100 RX4 yX4_playerIs wsX4_playerIs) := goodIn_app (goodIn_of _ (by decide +kernel)) ggX4_isAnotherFirst_X4_playerIs
theorem dX4_isAnotherFirst_0 : decode cX4_isAnotherFirst 0 = .ok (.iconst 0, 1) := by decide +kernel
theorem dX4_isAnotherFirst_1 : decode cX4_isAnotherFirst 1 = .ok (.istore_n 2, 1) := by decide +kernel
theorem dX4_isAnotherFirst_2 : decode cX4_isAnotherFirst 2 = .ok (.iconst 0, 1) := by decide +kernel
theorem dX4_isAnotherFirst_3 : decode cX4_isAnotherFirst 3 = .ok (.istore_n 3, 1) := by decide +kernel
theorem dX4_isAnotherFirst_4 : decode cX4_isAnotherFirst 4 = .ok (.iload_n 3, 1) := by decide +kernel
theorem dX4_isAnotherFirst_5 : decode cX4_isAnotherFirst 5 = .ok (.aload_n 0, 1) := by decide +kernel
theorem dX4_isAnotherFirst_6 : decode cX4_isAnotherFirst 6 = .ok (.getfield 9, 3) := by decide +kernel
theorem dX4_isAnotherFirst_9 : decode cX4_isAnotherFirst 9 = .ok (.iconst 1, 1) := by decide +kernel
theorem dX4_isAnotherFirst_10 : decode cX4_isAnotherFirst 10 = .ok (.iaload, 1) := by decide +kernel
theorem dX4_isAnotherFirst_11 : decode cX4_isAnotherFirst 11 = .ok (.if_icmp .ge 33, 3) := by decide +kernel
theorem dX4_isAnotherFirst_14 : decode cX4_isAnotherFirst 14 = .ok (.iload_n 2, 1) := by decide +kernel
theorem dX4_isAnotherFirst_15 : decode cX4_isAnotherFirst 15 = .ok (.ifCond .ne 17, 3) := by decide +kernel
theorem dX4_isAnotherFirst_18 : decode cX4_isAnotherFirst 18 = .ok (.iload_n 3, 1) := by decide +kernel
theorem dX4_isAnotherFirst_19 : decode cX4_isAnotherFirst 19 = .ok (.iload_n 1, 1) := by decide +kernel
theorem dX4_isAnotherFirst_20 : decode cX4_isAnotherFirst 20 = .ok (.if_icmp .eq 16, 3) := by decide +kernel
theorem dX4_isAnotherFirst_23 : decode cX4_isAnotherFirst 23 = .ok (.aload_n 0, 1) := by decide +kernel
theorem dX4_isAnotherFirst_24 : decode cX4_isAnotherFirst 24 = .ok (.iload_n 3, 1) := by decide +kernel
theorem dX4_isAnotherFirst_25 : decode cX4_isAnotherFirst 25 = .ok (.iconst 2, 1) := by decide +kernel
theorem dX4_isAnotherFirst_26 : decode cX4_isAnotherFirst 26 = .ok (.invokevirtual 100, 3) := by decide +kernel
theorem dX4_isAnotherFirst_29 : decode cX4_isAnotherFirst 29 = .ok (.ifCond .ne 7, 3) := by decide +kernel
theorem dX4_isAnotherFirst_32 : decode cX4_isAnotherFirst 32 = .ok (.iconst 1, 1) := by decide +kernel
theorem dX4_isAnotherFirst_33 : decode cX4_isAnotherFirst 33 = .ok (.goto 4, 3) := by decide +kernel
theorem dX4_isAnotherFirst_36 : decode cX4_isAnotherFirst 36 = .ok (.iconst 0, 1) := by decide +kernel
theorem dX4_isAnotherFirst_37 : decode cX4_isAnotherFirst 37 = .ok (.istore_n 2, 1) := by decide +kernel
theorem dX4_isAnotherFirst_38 : decode cX4_isAnotherFirst 38 = .ok (.iinc 3 1, 3) := by decide +kernel
theorem dX4_isAnotherFirst_41 : decode cX4_isAnotherFirst 41 = .ok (.goto (-37), 3) := by decide +kernel
theorem dX4_isAnotherFirst_44 : decode cX4_isAnotherFirst 44 = .ok (.iload_n 2, 1) := by decide +kernel
theorem dX4_isAnotherFirst_45 : decode cX4_isAnotherFirst 45 = .ok (.ireturn, 1) := by decide +kernel
set_option maxRecDepth 20000 in
theorem ggX4_plays_X4_playerIs : GoodIn wsX4_plays wsX4_playerIs := goodIn_r _ [6, 1, 7, 8, 5, 9, 17, 18, 19, 20, 21, 22, 23, 24, 25, 26, 27, 28, 29, 30, 31, 32, 33, 34, 35, 36, 37, 38, 39, 40] (by decide +kernel) (by decide +kernel)
set_option maxRecDepth 20000 in
theorem gX4_plays_X4_playerIs : GoodIn wsX4_plays (wsV RX4 100 RX4 yX4_playerIs wsX4_playerIs) := goodIn_app (goodIn_of _ (by decide +kernel)) ggX4_plays_X4_playerIs
set_option maxRecDepth 20000 in
theorem ggX4_plays_X4_has : GoodIn wsX4_plays wsX4_has := goodIn_r _ [12] (by decide +kernel) (by decide +kernel)
set_option maxRecDepth 20000 in
theorem gX4_plays_X4_has : GoodIn wsX4_plays (va_wsS RX4 103 yX4_has wsX4_has) := goodIn_app (goodIn_of _ (by decide +kernel)) ggX4_plays_X4_has
set_option maxRecDepth 20000 in
theorem ggX4_plays_X4_isAnotherFirst : GoodIn wsX4_plays wsX4_isAnotherFirst := goodIn_r _ [16, 1, 2, 3, 4, 5, 6, 7, 8, 9, 17, 18, 19, 20, 21, 22, 23, 24, 25, 26, 27, 28, 29, 30, 31, 32, 33, 34, 35, 36, 37, 38, 39, 40] (by decide +kernel) (by decide +kernel)
set_option maxRecDepth 20000 in
theorem gX4_plays_X4_isAnotherFirst : GoodIn wsX4_plays (wsV RX4 107 RX4 yX4_isAnotherFirst wsX4_isAnotherFirst) := goodIn_app (goodIn_of _ (by decide +kernel)) ggX4_plays_X4_isAnotherFirst
theorem dX4_plays_0 : decode cX4_plays 0 = .ok (.aload_n 0, 1) := by decide +kernel
theorem dX4_plays_1 : decode cX4_plays 1 = .ok (.iload_n 1, 1) := by decide +kernel
theorem dX4_plays_2 : decode cX4_plays 2 = .ok (.iconst 2, 1) := by decide +kernel
theorem dX4_plays_3 : decode cX4_plays 3 = .ok (.invokevirtual 100, 3) := by decide +kernel
theorem dX4_plays_6 : decode cX4_plays 6 = .ok (.istore_n 3, 1) := by decide +kernel
theorem dX4_plays_7 : decode cX4_plays 7 = .ok (.aload_n 0, 1) := by decide +kernel
theorem dX4_plays_8 : decode cX4_plays 8 = .ok (.getfield 9, 3) := by decide +kernel
theorem dX4_plays_11 : decode cX4_plays 11 = .ok (.iconst 3, 1) := by decide +kernel
theorem dX4_plays_12 : decode cX4_plays 12 = .ok (.iload_n 2, 1) := by decide +kernel
theorem dX4_plays_13 : decode cX4_plays 13 = .ok (.iadd, 1) := by decide +kernel
theorem dX4_plays_14 : decode cX4_plays 14 = .ok (.iaload, 1) := by decide +kernel
theorem dX4_plays_15 : decode cX4_plays 15 = .ok (.iload_n 3, 1) := by decide +kernel
theorem dX4_plays_16 : decode cX4_plays 16 = .ok (.invokestatic 103, 3) := by decide +kernel
theorem dX4_plays_19 : decode cX4_plays 19 = .ok (.istore 4, 2) := by decide +kernel
theorem dX4_plays_21 : decode cX4_plays 21 = .ok (.iload 4, 2) := by decide +kernel
theorem dX4_plays_23 : decode cX4_plays 23 = .ok (.ifCond .ne 23, 3) := by decide +kernel
theorem dX4_plays_26 : decode cX4_plays 26 = .ok (.aload_n 0, 1) := by decide +kernel
theorem dX4_plays_27 : decode cX4_plays 27 = .ok (.getfield 9, 3) := by decide +kernel
theorem dX4_plays_30 : decode cX4_plays 30 = .ok (.iconst 3, 1) := by decide +kernel
theorem dX4_plays_31 : decode cX4_plays 31 = .ok (.iload_n 2, 1) := by decide +kernel
theorem dX4_plays_32 : decode cX4_plays 32 = .ok (.iadd, 1) := by decide +kernel
theorem dX4_plays_33 : decode cX4_plays 33 = .ok (.iaload, 1) := by decide +kernel
theorem dX4_plays_34 : decode cX4_plays 34 = .ok (.iload_n 3, 1) := by decide +kernel
theorem dX4_plays_35 : decode cX4_plays 35 = .ok (.iconst 1, 1) := by decide +kernel
theorem dX4_plays_36 : decode cX4_plays 36 = .ok (.iadd, 1) := by decide +kernel
theorem dX4_plays_37 : decode cX4_plays 37 = .ok (.bipush 6, 2) := by decide +kernel
theorem dX4_plays_39 : decode cX4_plays 39 = .ok (.irem, 1) := by decide +kernel
theorem dX4_plays_40 : decode cX4_plays 40 = .ok (.invokestatic 103, 3) := by decide +kernel
theorem dX4_plays_43 : decode cX4_plays 43 = .ok (.ifCond .eq 7, 3) := by decide +kernel
theorem dX4_plays_46 : decode cX4_plays 46 = .ok (.iconst 1, 1) := by decide +kernel
theorem dX4_plays_47 : decode cX4_plays 47 = .ok (.goto 4, 3) := by decide +kernel
theorem dX4_plays_50 : decode cX4_plays 50 = .ok (.iconst 0, 1) := by decide +kernel
theorem dX4_plays_51 : decode cX4_plays 51 = .ok (.istore 5, 2) := by decide +kernel
theorem dX4_plays_53 : decode cX4_plays 53 = .ok (.aload_n 0, 1) := by decide +kernel
theorem dX4_plays_54 : decode cX4_plays 54 = .ok (.iload_n 1, 1) := by decide +kernel
theorem dX4_plays_55 : decode cX4_plays 55 = .ok (.iconst 0, 1) := by decide +kernel
theorem dX4_plays_56 : decode cX4_plays 56 = .ok (.invokevirtual 100, 3) := by decide +kernel
theorem dX4_plays_59 : decode cX4_plays 59 = .ok (.tableswitch 128 1 6 #[37, 76, 79, 98, 128, 53], 37) := by decide +kernel
theorem dX4_plays_96 : decode cX4_plays 96 = .ok (.iload 4, 2) := by decide +kernel
theorem dX4_plays_98 : decode cX4_plays 98 = .ok (.ifCond .eq 12, 3) := by decide +kernel
theorem dX4_plays_101 : decode cX4_plays 101 = .ok (.iload_n 2, 1) := by decide +kernel
theorem dX4_plays_102 : decode cX4_plays 102 = .ok (.iconst 2, 1) := by decide +kernel
theorem dX4_plays_103 : decode cX4_plays 103 = .ok (.if_icmp .le 7, 3) := by decide +kernel
theorem dX4_plays_106 : decode cX4_plays 106 = .ok (.iconst 1, 1) := by decide +kernel
theorem dX4_plays_107 : decode cX4_plays 107 = .ok (.goto 4, 3) := by decide +kernel
theorem dX4_plays_110 : decode cX4_plays 110 = .ok (.iconst 0, 1) := by decide +kernel
theorem dX4_plays_111 : decode cX4_plays 111 = .ok (.ireturn, 1) := by decide +kernel
theorem dX4_plays_112 : decode cX4_plays 112 = .ok (.iload 4, 2) := by decide +kernel
theorem dX4_plays_114 : decode cX4_plays 114 = .ok (.ifCond .eq 19, 3) := by decide +kernel
theorem dX4_plays_117 : decode cX4_plays 117 = .ok (.iload_n 2, 1) := by decide +kernel
theorem dX4_plays_118 : decode cX4_plays 118 = .ok (.iconst 2, 1) := by decide +kernel
theorem dX4_plays_119 : decode cX4_plays 119 = .ok (.if_icmp .le 14, 3) := by decide +kernel
theorem dX4_plays_122 : decode cX4_plays 122 = .ok (.iload_n 2, 1) := by decide +kernel
theorem dX4_plays_123 : decode cX4_plays 123 = .ok (.iconst 2, 1) := by decide +kernel
theorem dX4_plays_124 : decode cX4_plays 124 = .ok (.irem, 1) := by decide +kernel
theorem dX4_plays_125 : decode cX4_plays 125 = .ok (.iconst 1, 1) := by decide +kernel
theorem dX4_plays_126 : decode cX4_plays 126 = .ok (.if_icmp .ne 7, 3) := by decide +kernel
theorem dX4_plays_129 : decode cX4_plays 129 = .ok (.iconst 1, 1) := by decide +kernel
theorem dX4_plays_130 : decode cX4_plays 130 = .ok (.goto 4, 3) := by decide +kernel
theorem dX4_plays_133 : decode cX4_plays 133 = .ok (.iconst 0, 1) := by decide +kernel
theorem dX4_plays_134 : decode cX4_plays 134 = .ok (.ireturn, 1) := by decide +kernel
theorem dX4_plays_135 : decode cX4_plays 135 = .ok (.iload 5, 2) := by decide +kernel
theorem dX4_plays_137 : decode cX4_plays 137 = .ok (.ireturn, 1) := by decide +kernel
theorem dX4_plays_138 : decode cX4_plays 138 = .ok (.iload 5, 2) := by decide +kernel
theorem dX4_plays_140 : decode cX4_plays 140 = .ok (.ifCond .eq 15, 3) := by decide +kernel
theorem dX4_plays_143 : decode cX4_plays 143 = .ok (.aload_n 0, 1) := by decide +kernel
theorem dX4_plays_144 : decode cX4_plays 144 = .ok (.iload_n 1, 1) := by decide +kernel
theorem dX4_plays_145 : decode cX4_plays 145 = .ok (.invokevirtual 107, 3) := by decide +kernel
theorem dX4_plays_148 : decode cX4_plays 148 = .ok (.ifCond .eq 7, 3) := by decide +kernel
theorem dX4_plays_151 : decode cX4_plays 151 = .ok (.iconst 1, 1) := by decide +kernel
theorem dX4_plays_152 : decode cX4_plays 152 = .ok (.goto 4, 3) := by decide +kernel
theorem dX4_plays_155 : decode cX4_plays 155 = .ok (.iconst 0, 1) := by decide +kernel
theorem dX4_plays_156 : decode cX4_plays 156 = .ok (.ireturn, 1) := by decide +kernel
theorem dX4_plays_157 : decode cX4_plays 157 = .ok (.iload 5, 2) := by decide +kernel
theorem dX4_plays_159 : decode cX4_plays 159 = .ok (.ifCond .eq 11, 3) := by decide +kernel
theorem dX4_plays_162 : decode cX4_plays 162 = .ok (.aload_n 0, 1) := by decide +kernel
theorem dX4_plays_163 : decode cX4_plays 163 = .ok (.iload_n 1, 1) := by decide +kernel
theorem dX4_plays_164 : decode cX4_plays 164 = .ok (.invokevirtual 107, 3) := by decide +kernel
theorem dX4_plays_167 : decode cX4_plays 167 = .ok (.ifCond .ne 14, 3) := by decide +kernel
theorem dX4_plays_170 : decode cX4_plays 170 = .ok (.aload_n 0, 1) := by decide +kernel
theorem dX4_plays_171 : decode cX4_plays 171 = .ok (.iload_n 1, 1) := by decide +kernel
theorem dX4_plays_172 : decode cX4_plays 172 = .ok (.iconst 4, 1) := by decide +kernel
theorem dX4_plays_173 : decode cX4_plays 173 = .ok (.invokevirtual 100, 3) := by decide +kernel
theorem dX4_plays_176 : decode cX4_plays 176 = .ok (.bipush 80, 2) := by decide +kernel
theorem dX4_plays_178 : decode cX4_plays 178 = .ok (.if_icmp .lt 7, 3) := by decide +kernel
theorem dX4_plays_181 : decode cX4_plays 181 = .ok (.iconst 1, 1) := by decide +kernel
theorem dX4_plays_182 : decode cX4_plays 182 = .ok (.goto 4, 3) := by decide +kernel
theorem dX4_plays_185 : decode cX4_plays 185 = .ok (.iconst 0, 1) := by decide +kernel
theorem dX4_plays_186 : decode cX4_plays 186 = .ok (.ireturn, 1) := by decide +kernel
theorem dX4_plays_187 : decode cX4_plays 187 = .ok (.iload 4, 2) := by decide +kernel
theorem dX4_plays_189 : decode cX4_plays 189 = .ok (.ireturn, 1) := by decide +kernel
set_option maxRecDepth 20000 in
theorem ggX4_playsIn_X4_plays : GoodIn wsX4_playsIn wsX4_plays := goodIn_r _ [6, 1, 7, 8, 9, 5, 10, 11, 12, 13, 14, 15, 16, 17, 18, 19, 20, 21, 22, 23, 24, 25, 26, 27, 28, 29, 30, 31, 32, 33, 34, 35, 36, 37, 38, 39, 40, 41, 42, 43, 44] (by decide +kernel) (by decide +kernel)
set_option maxRecDepth 20000 in
theorem gX4_playsIn_X4_plays : GoodIn wsX4_playsIn (wsV RX4 110 RX4 yX4_plays wsX4_plays) := goodIn_app (goodIn_of _ (by decide +kernel)) ggX4_playsIn_X4_plays
theorem dX4_playsIn_0 : decode cX4_playsIn 0 = .ok (.iconst 0, 1) := by decide +kernel
theorem dX4_playsIn_1 : decode cX4_playsIn 1 = .ok (.istore_n 2, 1) := by decide +kernel
theorem dX4_playsIn_2 : decode cX4_playsIn 2 = .ok (.iconst 0, 1) := by decide +kernel
theorem dX4_playsIn_3 : decode cX4_playsIn 3 = .ok (.istore_n 3, 1) := by decide +kernel
theorem dX4_playsIn_4 : decode cX4_playsIn 4 = .ok (.iload_n 3, 1) := by decide +kernel
theorem dX4_playsIn_5 : decode cX4_playsIn 5 = .ok (.aload_n 0, 1) := by decide +kernel
theorem dX4_playsIn_6 : decode cX4_playsIn 6 = .ok (.getfield 9, 3) := by decide +kernel
theorem dX4_playsIn_9 : decode cX4_playsIn 9 = .ok (.iconst 1, 1) := by decide +kernel
theorem dX4_playsIn_10 : decode cX4_playsIn 10 = .ok (.iaload, 1) := by decide +kernel
theorem dX4_playsIn_11 : decode cX4_playsIn 11 = .ok (.if_icmp .ge 28, 3) := by decide +kernel
theorem dX4_playsIn_14 : decode cX4_playsIn 14 = .ok (.iload_n 2, 1) := by decide +kernel
theorem dX4_playsIn_15 : decode cX4_playsIn 15 = .ok (.aload_n 0, 1) := by decide +kernel
theorem dX4_playsIn_16 : decode cX4_playsIn 16 = .ok (.iload_n 3, 1) := by decide +kernel
theorem dX4_playsIn_17 : decode cX4_playsIn 17 = .ok (.iload_n 1, 1) := by decide +kernel
theorem dX4_playsIn_18 : decode cX4_playsIn 18 = .ok (.invokevirtual 110, 3) := by decide +kernel
theorem dX4_playsIn_21 : decode cX4_playsIn 21 = .ok (.ifCond .eq 9, 3) := by decide +kernel
theorem dX4_playsIn_24 : decode cX4_playsIn 24 = .ok (.iconst 1, 1) := by decide +kernel
theorem dX4_playsIn_25 : decode cX4_playsIn 25 = .ok (.iload_n 3, 1) := by decide +kernel
theorem dX4_playsIn_26 : decode cX4_playsIn 26 = .ok (.ishl, 1) := by decide +kernel
theorem dX4_playsIn_27 : decode cX4_playsIn 27 = .ok (.goto 4, 3) := by decide +kernel
theorem dX4_playsIn_30 : decode cX4_playsIn 30 = .ok (.iconst 0, 1) := by decide +kernel
theorem dX4_playsIn_31 : decode cX4_playsIn 31 = .ok (.ior, 1) := by decide +kernel
theorem dX4_playsIn_32 : decode cX4_playsIn 32 = .ok (.istore_n 2, 1) := by decide +kernel
theorem dX4_playsIn_33 : decode cX4_playsIn 33 = .ok (.iinc 3 1, 3) := by decide +kernel
theorem dX4_playsIn_36 : decode cX4_playsIn 36 = .ok (.goto (-32), 3) := by decide +kernel
theorem dX4_playsIn_39 : decode cX4_playsIn 39 = .ok (.iload_n 2, 1) := by decide +kernel
theorem dX4_playsIn_40 : decode cX4_playsIn 40 = .ok (.ireturn, 1) := by decide +kernel
set_option maxRecDepth 20000 in
theorem ggX4_barsOf_X4_plays : GoodIn wsX4_barsOf wsX4_plays := goodIn_r _ [5, 6, 7, 8, 9, 4, 10, 11, 12, 13, 14, 15, 16, 17, 18, 19, 20, 21, 22, 23, 24, 25, 26, 27, 28, 29, 30, 31, 32, 33, 34, 35, 36, 37, 38, 39, 40, 41, 42, 43, 44] (by decide +kernel) (by decide +kernel)
set_option maxRecDepth 20000 in
theorem gX4_barsOf_X4_plays : GoodIn wsX4_barsOf (wsV RX4 110 RX4 yX4_plays wsX4_plays) := goodIn_app (goodIn_of _ (by decide +kernel)) ggX4_barsOf_X4_plays
theorem dX4_barsOf_0 : decode cX4_barsOf 0 = .ok (.iconst 0, 1) := by decide +kernel
theorem dX4_barsOf_1 : decode cX4_barsOf 1 = .ok (.istore_n 2, 1) := by decide +kernel
theorem dX4_barsOf_2 : decode cX4_barsOf 2 = .ok (.iconst 0, 1) := by decide +kernel
theorem dX4_barsOf_3 : decode cX4_barsOf 3 = .ok (.istore_n 3, 1) := by decide +kernel
theorem dX4_barsOf_4 : decode cX4_barsOf 4 = .ok (.iload_n 3, 1) := by decide +kernel
theorem dX4_barsOf_5 : decode cX4_barsOf 5 = .ok (.bipush 12, 2) := by decide +kernel
theorem dX4_barsOf_7 : decode cX4_barsOf 7 = .ok (.if_icmp .ge 28, 3) := by decide +kernel
theorem dX4_barsOf_10 : decode cX4_barsOf 10 = .ok (.iload_n 2, 1) := by decide +kernel
theorem dX4_barsOf_11 : decode cX4_barsOf 11 = .ok (.aload_n 0, 1) := by decide +kernel
theorem dX4_barsOf_12 : decode cX4_barsOf 12 = .ok (.iload_n 1, 1) := by decide +kernel
theorem dX4_barsOf_13 : decode cX4_barsOf 13 = .ok (.iload_n 3, 1) := by decide +kernel
theorem dX4_barsOf_14 : decode cX4_barsOf 14 = .ok (.invokevirtual 110, 3) := by decide +kernel
theorem dX4_barsOf_17 : decode cX4_barsOf 17 = .ok (.ifCond .eq 9, 3) := by decide +kernel
theorem dX4_barsOf_20 : decode cX4_barsOf 20 = .ok (.iconst 1, 1) := by decide +kernel
theorem dX4_barsOf_21 : decode cX4_barsOf 21 = .ok (.iload_n 3, 1) := by decide +kernel
theorem dX4_barsOf_22 : decode cX4_barsOf 22 = .ok (.ishl, 1) := by decide +kernel
theorem dX4_barsOf_23 : decode cX4_barsOf 23 = .ok (.goto 4, 3) := by decide +kernel
theorem dX4_barsOf_26 : decode cX4_barsOf 26 = .ok (.iconst 0, 1) := by decide +kernel
theorem dX4_barsOf_27 : decode cX4_barsOf 27 = .ok (.ior, 1) := by decide +kernel
theorem dX4_barsOf_28 : decode cX4_barsOf 28 = .ok (.istore_n 2, 1) := by decide +kernel
theorem dX4_barsOf_29 : decode cX4_barsOf 29 = .ok (.iinc 3 1, 3) := by decide +kernel
theorem dX4_barsOf_32 : decode cX4_barsOf 32 = .ok (.goto (-28), 3) := by decide +kernel
theorem dX4_barsOf_35 : decode cX4_barsOf 35 = .ok (.iload_n 2, 1) := by decide +kernel
theorem dX4_barsOf_36 : decode cX4_barsOf 36 = .ok (.ireturn, 1) := by decide +kernel
set_option maxRecDepth 20000 in
theorem ggX4_soundOf_X4_plays : GoodIn wsX4_soundOf wsX4_plays := goodIn_r _ [12, 13, 14, 15, 16, 11, 17, 18, 19, 20, 21, 22, 23, 24, 25, 26, 27, 28, 29, 30, 31, 32, 33, 34, 35, 36, 37, 38, 39, 40, 41, 42, 43, 44, 45, 46, 47, 48, 49, 50, 51] (by decide +kernel) (by decide +kernel)
set_option maxRecDepth 20000 in
theorem gX4_soundOf_X4_plays : GoodIn wsX4_soundOf (wsV RX4 110 RX4 yX4_plays wsX4_plays) := goodIn_app (goodIn_of _ (by decide +kernel)) ggX4_soundOf_X4_plays
set_option maxRecDepth 20000 in
theorem ggX4_soundOf_X4_playerIs : GoodIn wsX4_soundOf wsX4_playerIs := goodIn_r _ [17, 13, 18, 19, 11, 20, 28, 29, 30, 31, 32, 33, 34, 35, 36, 37, 38, 39, 40, 41, 42, 43, 44, 45, 46, 47, 48, 49, 50, 51] (by decide +kernel) (by decide +kernel)
set_option maxRecDepth 20000 in
theorem gX4_soundOf_X4_playerIs : GoodIn wsX4_soundOf (wsV RX4 100 RX4 yX4_playerIs wsX4_playerIs) := goodIn_app (goodIn_of _ (by decide +kernel)) ggX4_soundOf_X4_playerIs
theorem dX4_soundOf_0 : decode cX4_soundOf 0 = .ok (.aload_n 0, 1) := by decide +kernel
theorem dX4_soundOf_1 : decode cX4_soundOf 1 = .ok (.iload_n 1, 1) := by decide +kernel
theorem dX4_soundOf_2 : decode cX4_soundOf 2 = .ok (.iload_n 3, 1) := by decide +kernel
theorem dX4_soundOf_3 : decode cX4_soundOf 3 = .ok (.invokevirtual 110, 3) := by decide +kernel
theorem dX4_soundOf_6 : decode cX4_soundOf 6 = .ok (.ifCond .eq 28, 3) := by decide +kernel
theorem dX4_soundOf_9 : decode cX4_soundOf 9 = .ok (.iconst 0, 1) := by decide +kernel
theorem dX4_soundOf_10 : decode cX4_soundOf 10 = .ok (.aload_n 0, 1) := by decide +kernel
theorem dX4_soundOf_11 : decode cX4_soundOf 11 = .ok (.iload_n 1, 1) := by decide +kernel
theorem dX4_soundOf_12 : decode cX4_soundOf 12 = .ok (.iconst 3, 1) := by decide +kernel
theorem dX4_soundOf_13 : decode cX4_soundOf 13 = .ok (.invokevirtual 100, 3) := by decide +kernel
theorem dX4_soundOf_16 : decode cX4_soundOf 16 = .ok (.aload_n 0, 1) := by decide +kernel
theorem dX4_soundOf_17 : decode cX4_soundOf 17 = .ok (.iload_n 1, 1) := by decide +kernel
theorem dX4_soundOf_18 : decode cX4_soundOf 18 = .ok (.iconst 1, 1) := by decide +kernel
theorem dX4_soundOf_19 : decode cX4_soundOf 19 = .ok (.invokevirtual 100, 3) := by decide +kernel
theorem dX4_soundOf_22 : decode cX4_soundOf 22 = .ok (.iload_n 2, 1) := by decide +kernel
theorem dX4_soundOf_23 : decode cX4_soundOf 23 = .ok (.isub, 1) := by decide +kernel
theorem dX4_soundOf_24 : decode cX4_soundOf 24 = .ok (.invokestatic 113, 3) := by decide +kernel
theorem dX4_soundOf_27 : decode cX4_soundOf 27 = .ok (.isub, 1) := by decide +kernel
theorem dX4_soundOf_28 : decode cX4_soundOf 28 = .ok (.invokestatic 118, 3) := by decide +kernel
theorem dX4_soundOf_31 : decode cX4_soundOf 31 = .ok (.goto 4, 3) := by decide +kernel
theorem dX4_soundOf_34 : decode cX4_soundOf 34 = .ok (.iconst 0, 1) := by decide +kernel
theorem dX4_soundOf_35 : decode cX4_soundOf 35 = .ok (.ireturn, 1) := by decide +kernel
set_option maxRecDepth 20000 in
theorem ggX4_heardOf_X4_has : GoodIn wsX4_heardOf wsX4_has := goodIn_r _ [9] (by decide +kernel) (by decide +kernel)
set_option maxRecDepth 20000 in
theorem gX4_heardOf_X4_has : GoodIn wsX4_heardOf (va_wsS RX4 103 yX4_has wsX4_has) := goodIn_app (goodIn_of _ (by decide +kernel)) ggX4_heardOf_X4_has
set_option maxRecDepth 20000 in
theorem ggX4_heardOf_X4_soundOf : GoodIn wsX4_heardOf wsX4_soundOf := goodIn_r _ [13, 14, 15, 4, 16, 2, 3, 5, 17, 18, 19, 8, 20, 1, 21, 22, 23, 24, 25, 26, 27, 6, 7, 9, 28, 29, 30, 31, 32, 33, 34, 35, 36, 37, 38, 39, 40, 41, 42, 43, 44, 45, 46, 47, 48, 49, 50, 51, 52, 53, 54, 55] (by decide +kernel) (by decide +kernel)
set_option maxRecDepth 20000 in
theorem gX4_heardOf_X4_soundOf : GoodIn wsX4_heardOf (wsV RX4 121 RX4 yX4_soundOf wsX4_soundOf) := goodIn_app (goodIn_of _ (by decide +kernel)) ggX4_heardOf_X4_soundOf
theorem dX4_heardOf_0 : decode cX4_heardOf 0 = .ok (.iconst 0, 1) := by decide +kernel
theorem dX4_heardOf_1 : decode cX4_heardOf 1 = .ok (.istore 4, 2) := by decide +kernel
theorem dX4_heardOf_3 : decode cX4_heardOf 3 = .ok (.iconst 0, 1) := by decide +kernel
theorem dX4_heardOf_4 : decode cX4_heardOf 4 = .ok (.istore 5, 2) := by decide +kernel
theorem dX4_heardOf_6 : decode cX4_heardOf 6 = .ok (.iload 5, 2) := by decide +kernel
theorem dX4_heardOf_8 : decode cX4_heardOf 8 = .ok (.aload_n 0, 1) := by decide +kernel
theorem dX4_heardOf_9 : decode cX4_heardOf 9 = .ok (.getfield 9, 3) := by decide +kernel
theorem dX4_heardOf_12 : decode cX4_heardOf 12 = .ok (.iconst 1, 1) := by decide +kernel
theorem dX4_heardOf_13 : decode cX4_heardOf 13 = .ok (.iaload, 1) := by decide +kernel
theorem dX4_heardOf_14 : decode cX4_heardOf 14 = .ok (.if_icmp .ge 38, 3) := by decide +kernel
theorem dX4_heardOf_17 : decode cX4_heardOf 17 = .ok (.iload_n 1, 1) := by decide +kernel
theorem dX4_heardOf_18 : decode cX4_heardOf 18 = .ok (.iload 5, 2) := by decide +kernel
theorem dX4_heardOf_20 : decode cX4_heardOf 20 = .ok (.invokestatic 103, 3) := by decide +kernel
theorem dX4_heardOf_23 : decode cX4_heardOf 23 = .ok (.ifCond .eq 19, 3) := by decide +kernel
theorem dX4_heardOf_26 : decode cX4_heardOf 26 = .ok (.iload 4, 2) := by decide +kernel
theorem dX4_heardOf_28 : decode cX4_heardOf 28 = .ok (.aload_n 0, 1) := by decide +kernel
theorem dX4_heardOf_29 : decode cX4_heardOf 29 = .ok (.iload 5, 2) := by decide +kernel
theorem dX4_heardOf_31 : decode cX4_heardOf 31 = .ok (.iload_n 2, 1) := by decide +kernel
theorem dX4_heardOf_32 : decode cX4_heardOf 32 = .ok (.iload_n 3, 1) := by decide +kernel
theorem dX4_heardOf_33 : decode cX4_heardOf 33 = .ok (.invokevirtual 121, 3) := by decide +kernel
theorem dX4_heardOf_36 : decode cX4_heardOf 36 = .ok (.invokestatic 118, 3) := by decide +kernel
theorem dX4_heardOf_39 : decode cX4_heardOf 39 = .ok (.goto 5, 3) := by decide +kernel
theorem dX4_heardOf_42 : decode cX4_heardOf 42 = .ok (.iload 4, 2) := by decide +kernel
theorem dX4_heardOf_44 : decode cX4_heardOf 44 = .ok (.istore 4, 2) := by decide +kernel
theorem dX4_heardOf_46 : decode cX4_heardOf 46 = .ok (.iinc 5 1, 3) := by decide +kernel
theorem dX4_heardOf_49 : decode cX4_heardOf 49 = .ok (.goto (-43), 3) := by decide +kernel
theorem dX4_heardOf_52 : decode cX4_heardOf 52 = .ok (.iload 4, 2) := by decide +kernel
theorem dX4_heardOf_54 : decode cX4_heardOf 54 = .ok (.ireturn, 1) := by decide +kernel
theorem dX4_everybody_0 : decode cX4_everybody 0 = .ok (.iconst 1, 1) := by decide +kernel
theorem dX4_everybody_1 : decode cX4_everybody 1 = .ok (.aload_n 0, 1) := by decide +kernel
theorem dX4_everybody_2 : decode cX4_everybody 2 = .ok (.getfield 9, 3) := by decide +kernel
theorem dX4_everybody_5 : decode cX4_everybody 5 = .ok (.iconst 1, 1) := by decide +kernel
theorem dX4_everybody_6 : decode cX4_everybody 6 = .ok (.iaload, 1) := by decide +kernel
theorem dX4_everybody_7 : decode cX4_everybody 7 = .ok (.ishl, 1) := by decide +kernel
theorem dX4_everybody_8 : decode cX4_everybody 8 = .ok (.iconst 1, 1) := by decide +kernel
theorem dX4_everybody_9 : decode cX4_everybody 9 = .ok (.isub, 1) := by decide +kernel
theorem dX4_everybody_10 : decode cX4_everybody 10 = .ok (.ireturn, 1) := by decide +kernel
set_option maxRecDepth 20000 in
theorem ggX4_barOf_X4_isBar : GoodIn wsX4_barOf wsX4_isBar := goodIn_r _ [6, 7, 8, 5, 9] (by decide +kernel) (by decide +kernel)
set_option maxRecDepth 20000 in
theorem gX4_barOf_X4_isBar : GoodIn wsX4_barOf (va_wsS RX4 90 yX4_isBar wsX4_isBar) := goodIn_app (goodIn_of _ (by decide +kernel)) ggX4_barOf_X4_isBar
set_option maxRecDepth 20000 in
theorem ggX4_barOf_X4_within : GoodIn wsX4_barOf wsX4_within := goodIn_r _ [9] (by decide +kernel) (by decide +kernel)
set_option maxRecDepth 20000 in
theorem gX4_barOf_X4_within : GoodIn wsX4_barOf (va_wsS RX4 82 yX4_within wsX4_within) := goodIn_app (goodIn_of _ (by decide +kernel)) ggX4_barOf_X4_within
set_option maxRecDepth 20000 in
theorem ggX4_barOf_X4_finding : GoodIn wsX4_barOf wsX4_finding := goodIn_r _ [13, 14, 1, 56, 57, 58, 59, 60, 61, 62, 63, 64, 65, 66, 67, 68, 69, 70, 71, 72, 73, 74, 75, 76, 77, 78, 79] (by decide +kernel) (by decide +kernel)
set_option maxRecDepth 20000 in
theorem gX4_barOf_X4_finding : GoodIn wsX4_barOf (wsV RX4 78 RX4 yX4_finding wsX4_finding) := goodIn_app (goodIn_of _ (by decide +kernel)) ggX4_barOf_X4_finding
set_option maxRecDepth 20000 in
theorem ggX4_barOf_X4_playsIn : GoodIn wsX4_barOf wsX4_playsIn := goodIn_r _ [18, 2, 19, 20, 21, 5, 22, 23, 24, 25, 26, 27, 28, 29, 30, 31, 32, 33, 34, 35, 36, 56, 57, 58, 59, 60, 61, 62, 63, 64, 65, 66, 67, 68, 69, 70, 71, 72, 73, 74, 75, 76, 77, 78, 79] (by decide +kernel) (by decide +kernel)
set_option maxRecDepth 20000 in
theorem gX4_barOf_X4_playsIn : GoodIn wsX4_barOf (wsV RX4 125 RX4 yX4_playsIn wsX4_playsIn) := goodIn_app (goodIn_of _ (by decide +kernel)) ggX4_barOf_X4_playsIn
set_option maxRecDepth 20000 in
theorem ggX4_barOf_X4_everybody : GoodIn wsX4_barOf wsX4_everybody := goodIn_r _ [40, 2, 56, 57, 58, 59, 60, 61, 62, 63, 64, 65, 66, 67, 68, 69, 70, 71, 72, 73, 74, 75, 76, 77, 78, 79] (by decide +kernel) (by decide +kernel)
set_option maxRecDepth 20000 in
theorem gX4_barOf_X4_everybody : GoodIn wsX4_barOf (wsV RX4 128 RX4 yX4_everybody wsX4_everybody) := goodIn_app (goodIn_of _ (by decide +kernel)) ggX4_barOf_X4_everybody
set_option maxRecDepth 20000 in
theorem ggX4_barOf_X4_heardOf : GoodIn wsX4_barOf wsX4_heardOf := goodIn_r _ [44, 2, 45, 46, 47, 48, 30, 31, 5, 32, 49, 50, 51, 52, 53, 54, 55, 19, 20, 21, 22, 23, 24, 25, 26, 27, 28, 29, 33, 34, 35, 36, 56, 57, 58, 59, 60, 61, 62, 63, 64, 65, 66, 67, 68, 69, 70, 71, 72, 73, 74, 75, 76, 77, 78, 79] (by decide +kernel) (by decide +kernel)
set_option maxRecDepth 20000 in
theorem gX4_barOf_X4_heardOf : GoodIn wsX4_barOf (wsV RX4 132 RX4 yX4_heardOf wsX4_heardOf) := goodIn_app (goodIn_of _ (by decide +kernel)) ggX4_barOf_X4_heardOf
theorem dX4_barOf_0 : decode cX4_barOf 0 = .ok (.iload_n 1, 1) := by decide +kernel
theorem dX4_barOf_1 : decode cX4_barOf 1 = .ok (.invokestatic 90, 3) := by decide +kernel
theorem dX4_barOf_4 : decode cX4_barOf 4 = .ok (.ifCond .eq 12, 3) := by decide +kernel
theorem dX4_barOf_7 : decode cX4_barOf 7 = .ok (.iload_n 2, 1) := by decide +kernel
theorem dX4_barOf_8 : decode cX4_barOf 8 = .ok (.iconst 0, 1) := by decide +kernel
theorem dX4_barOf_9 : decode cX4_barOf 9 = .ok (.iconst 2, 1) := by decide +kernel
theorem dX4_barOf_10 : decode cX4_barOf 10 = .ok (.invokestatic 82, 3) := by decide +kernel
theorem dX4_barOf_13 : decode cX4_barOf 13 = .ok (.ifCond .ne 10, 3) := by decide +kernel
theorem dX4_barOf_16 : decode cX4_barOf 16 = .ok (.aload_n 0, 1) := by decide +kernel
theorem dX4_barOf_17 : decode cX4_barOf 17 = .ok (.ldc 72, 2) := by decide +kernel
theorem dX4_barOf_19 : decode cX4_barOf 19 = .ok (.invokevirtual 78, 3) := by decide +kernel
theorem dX4_barOf_22 : decode cX4_barOf 22 = .ok (.ireturn, 1) := by decide +kernel
theorem dX4_barOf_23 : decode cX4_barOf 23 = .ok (.iload_n 2, 1) := by decide +kernel
theorem dX4_barOf_24 : decode cX4_barOf 24 = .ok (.iconst 2, 1) := by decide +kernel
theorem dX4_barOf_25 : decode cX4_barOf 25 = .ok (.if_icmp .ge 24, 3) := by decide +kernel
theorem dX4_barOf_28 : decode cX4_barOf 28 = .ok (.iload_n 2, 1) := by decide +kernel
theorem dX4_barOf_29 : decode cX4_barOf 29 = .ok (.ifCond .ne 14, 3) := by decide +kernel
theorem dX4_barOf_32 : decode cX4_barOf 32 = .ok (.aload_n 0, 1) := by decide +kernel
theorem dX4_barOf_33 : decode cX4_barOf 33 = .ok (.getfield 9, 3) := by decide +kernel
theorem dX4_barOf_36 : decode cX4_barOf 36 = .ok (.iconst 3, 1) := by decide +kernel
theorem dX4_barOf_37 : decode cX4_barOf 37 = .ok (.iload_n 1, 1) := by decide +kernel
theorem dX4_barOf_38 : decode cX4_barOf 38 = .ok (.iadd, 1) := by decide +kernel
theorem dX4_barOf_39 : decode cX4_barOf 39 = .ok (.iaload, 1) := by decide +kernel
theorem dX4_barOf_40 : decode cX4_barOf 40 = .ok (.goto 8, 3) := by decide +kernel
theorem dX4_barOf_43 : decode cX4_barOf 43 = .ok (.aload_n 0, 1) := by decide +kernel
theorem dX4_barOf_44 : decode cX4_barOf 44 = .ok (.iload_n 1, 1) := by decide +kernel
theorem dX4_barOf_45 : decode cX4_barOf 45 = .ok (.invokevirtual 125, 3) := by decide +kernel
theorem dX4_barOf_48 : decode cX4_barOf 48 = .ok (.ireturn, 1) := by decide +kernel
theorem dX4_barOf_49 : decode cX4_barOf 49 = .ok (.iconst 0, 1) := by decide +kernel
theorem dX4_barOf_50 : decode cX4_barOf 50 = .ok (.istore_n 3, 1) := by decide +kernel
theorem dX4_barOf_51 : decode cX4_barOf 51 = .ok (.iconst 0, 1) := by decide +kernel
theorem dX4_barOf_52 : decode cX4_barOf 52 = .ok (.istore 4, 2) := by decide +kernel
theorem dX4_barOf_54 : decode cX4_barOf 54 = .ok (.iload 4, 2) := by decide +kernel
theorem dX4_barOf_56 : decode cX4_barOf 56 = .ok (.bipush 16, 2) := by decide +kernel
theorem dX4_barOf_58 : decode cX4_barOf 58 = .ok (.if_icmp .ge 31, 3) := by decide +kernel
theorem dX4_barOf_61 : decode cX4_barOf 61 = .ok (.iload_n 3, 1) := by decide +kernel
theorem dX4_barOf_62 : decode cX4_barOf 62 = .ok (.aload_n 0, 1) := by decide +kernel
theorem dX4_barOf_63 : decode cX4_barOf 63 = .ok (.aload_n 0, 1) := by decide +kernel
theorem dX4_barOf_64 : decode cX4_barOf 64 = .ok (.invokevirtual 128, 3) := by decide +kernel
theorem dX4_barOf_67 : decode cX4_barOf 67 = .ok (.iload 4, 2) := by decide +kernel
theorem dX4_barOf_69 : decode cX4_barOf 69 = .ok (.iload_n 1, 1) := by decide +kernel
theorem dX4_barOf_70 : decode cX4_barOf 70 = .ok (.invokevirtual 132, 3) := by decide +kernel
theorem dX4_barOf_73 : decode cX4_barOf 73 = .ok (.ifCond .le 7, 3) := by decide +kernel
theorem dX4_barOf_76 : decode cX4_barOf 76 = .ok (.iconst 1, 1) := by decide +kernel
theorem dX4_barOf_77 : decode cX4_barOf 77 = .ok (.goto 4, 3) := by decide +kernel
theorem dX4_barOf_80 : decode cX4_barOf 80 = .ok (.iconst 0, 1) := by decide +kernel
theorem dX4_barOf_81 : decode cX4_barOf 81 = .ok (.iadd, 1) := by decide +kernel
theorem dX4_barOf_82 : decode cX4_barOf 82 = .ok (.istore_n 3, 1) := by decide +kernel
theorem dX4_barOf_83 : decode cX4_barOf 83 = .ok (.iinc 4 1, 3) := by decide +kernel
theorem dX4_barOf_86 : decode cX4_barOf 86 = .ok (.goto (-32), 3) := by decide +kernel
theorem dX4_barOf_89 : decode cX4_barOf 89 = .ok (.iload_n 3, 1) := by decide +kernel
theorem dX4_barOf_90 : decode cX4_barOf 90 = .ok (.ireturn, 1) := by decide +kernel
set_option maxRecDepth 20000 in
theorem ggX4_comes_X4_at : GoodIn wsX4_comes wsX4_at := goodIn_r _ [5] (by decide +kernel) (by decide +kernel)
set_option maxRecDepth 20000 in
theorem gX4_comes_X4_at : GoodIn wsX4_comes (va_wsS RX4 86 yX4_at wsX4_at) := goodIn_app (goodIn_of _ (by decide +kernel)) ggX4_comes_X4_at
theorem dX4_comes_0 : decode cX4_comes 0 = .ok (.aload_n 0, 1) := by decide +kernel
theorem dX4_comes_1 : decode cX4_comes 1 = .ok (.getfield 9, 3) := by decide +kernel
theorem dX4_comes_4 : decode cX4_comes 4 = .ok (.iconst 1, 1) := by decide +kernel
theorem dX4_comes_5 : decode cX4_comes 5 = .ok (.iaload, 1) := by decide +kernel
theorem dX4_comes_6 : decode cX4_comes 6 = .ok (.istore 6, 2) := by decide +kernel
theorem dX4_comes_8 : decode cX4_comes 8 = .ok (.aload_n 0, 1) := by decide +kernel
theorem dX4_comes_9 : decode cX4_comes 9 = .ok (.getfield 9, 3) := by decide +kernel
theorem dX4_comes_12 : decode cX4_comes 12 = .ok (.iload 6, 2) := by decide +kernel
theorem dX4_comes_14 : decode cX4_comes 14 = .ok (.iconst 0, 1) := by decide +kernel
theorem dX4_comes_15 : decode cX4_comes 15 = .ok (.invokestatic 86, 3) := by decide +kernel
theorem dX4_comes_18 : decode cX4_comes 18 = .ok (.iload_n 1, 1) := by decide +kernel
theorem dX4_comes_19 : decode cX4_comes 19 = .ok (.iastore, 1) := by decide +kernel
theorem dX4_comes_20 : decode cX4_comes 20 = .ok (.aload_n 0, 1) := by decide +kernel
theorem dX4_comes_21 : decode cX4_comes 21 = .ok (.getfield 9, 3) := by decide +kernel
theorem dX4_comes_24 : decode cX4_comes 24 = .ok (.iload 6, 2) := by decide +kernel
theorem dX4_comes_26 : decode cX4_comes 26 = .ok (.iconst 1, 1) := by decide +kernel
theorem dX4_comes_27 : decode cX4_comes 27 = .ok (.invokestatic 86, 3) := by decide +kernel
theorem dX4_comes_30 : decode cX4_comes 30 = .ok (.iload_n 2, 1) := by decide +kernel
theorem dX4_comes_31 : decode cX4_comes 31 = .ok (.iastore, 1) := by decide +kernel
theorem dX4_comes_32 : decode cX4_comes 32 = .ok (.aload_n 0, 1) := by decide +kernel
theorem dX4_comes_33 : decode cX4_comes 33 = .ok (.getfield 9, 3) := by decide +kernel
theorem dX4_comes_36 : decode cX4_comes 36 = .ok (.iload 6, 2) := by decide +kernel
theorem dX4_comes_38 : decode cX4_comes 38 = .ok (.iconst 2, 1) := by decide +kernel
theorem dX4_comes_39 : decode cX4_comes 39 = .ok (.invokestatic 86, 3) := by decide +kernel
theorem dX4_comes_42 : decode cX4_comes 42 = .ok (.iload_n 3, 1) := by decide +kernel
theorem dX4_comes_43 : decode cX4_comes 43 = .ok (.iastore, 1) := by decide +kernel
theorem dX4_comes_44 : decode cX4_comes 44 = .ok (.aload_n 0, 1) := by decide +kernel
theorem dX4_comes_45 : decode cX4_comes 45 = .ok (.getfield 9, 3) := by decide +kernel
theorem dX4_comes_48 : decode cX4_comes 48 = .ok (.iload 6, 2) := by decide +kernel
theorem dX4_comes_50 : decode cX4_comes 50 = .ok (.iconst 3, 1) := by decide +kernel
theorem dX4_comes_51 : decode cX4_comes 51 = .ok (.invokestatic 86, 3) := by decide +kernel
theorem dX4_comes_54 : decode cX4_comes 54 = .ok (.iload 4, 2) := by decide +kernel
theorem dX4_comes_56 : decode cX4_comes 56 = .ok (.iastore, 1) := by decide +kernel
theorem dX4_comes_57 : decode cX4_comes 57 = .ok (.aload_n 0, 1) := by decide +kernel
theorem dX4_comes_58 : decode cX4_comes 58 = .ok (.getfield 9, 3) := by decide +kernel
theorem dX4_comes_61 : decode cX4_comes 61 = .ok (.iload 6, 2) := by decide +kernel
theorem dX4_comes_63 : decode cX4_comes 63 = .ok (.iconst 4, 1) := by decide +kernel
theorem dX4_comes_64 : decode cX4_comes 64 = .ok (.invokestatic 86, 3) := by decide +kernel
theorem dX4_comes_67 : decode cX4_comes 67 = .ok (.iload 5, 2) := by decide +kernel
theorem dX4_comes_69 : decode cX4_comes 69 = .ok (.iastore, 1) := by decide +kernel
theorem dX4_comes_70 : decode cX4_comes 70 = .ok (.aload_n 0, 1) := by decide +kernel
theorem dX4_comes_71 : decode cX4_comes 71 = .ok (.getfield 9, 3) := by decide +kernel
theorem dX4_comes_74 : decode cX4_comes 74 = .ok (.iconst 1, 1) := by decide +kernel
theorem dX4_comes_75 : decode cX4_comes 75 = .ok (.dup2, 1) := by decide +kernel
theorem dX4_comes_76 : decode cX4_comes 76 = .ok (.iaload, 1) := by decide +kernel
theorem dX4_comes_77 : decode cX4_comes 77 = .ok (.iconst 1, 1) := by decide +kernel
theorem dX4_comes_78 : decode cX4_comes 78 = .ok (.iadd, 1) := by decide +kernel
theorem dX4_comes_79 : decode cX4_comes 79 = .ok (.iastore, 1) := by decide +kernel
theorem dX4_comes_80 : decode cX4_comes 80 = .ok (.iload 6, 2) := by decide +kernel
theorem dX4_comes_82 : decode cX4_comes 82 = .ok (.ireturn, 1) := by decide +kernel
set_option maxRecDepth 20000 in
theorem ggX4_player_X4_isKind : GoodIn wsX4_player wsX4_isKind := goodIn_r _ [7, 8, 9, 6, 10] (by decide +kernel) (by decide +kernel)
set_option maxRecDepth 20000 in
theorem gX4_player_X4_isKind : GoodIn wsX4_player (va_wsS RX4 135 yX4_isKind wsX4_isKind) := goodIn_app (goodIn_of _ (by decide +kernel)) ggX4_player_X4_isKind
set_option maxRecDepth 20000 in
theorem ggX4_player_X4_isSeat : GoodIn wsX4_player wsX4_isSeat := goodIn_r _ [13, 8, 9, 6, 10] (by decide +kernel) (by decide +kernel)
set_option maxRecDepth 20000 in
theorem gX4_player_X4_isSeat : GoodIn wsX4_player (va_wsS RX4 138 yX4_isSeat wsX4_isSeat) := goodIn_app (goodIn_of _ (by decide +kernel)) ggX4_player_X4_isSeat
set_option maxRecDepth 20000 in
theorem ggX4_player_X4_finding : GoodIn wsX4_player wsX4_finding := goodIn_r _ [17, 18, 1, 26, 27, 28, 29, 30, 31, 32, 33, 34, 35, 36, 37, 38, 39, 40, 41, 42, 43, 44, 45, 46, 47, 48, 49] (by decide +kernel) (by decide +kernel)
set_option maxRecDepth 20000 in
theorem gX4_player_X4_finding : GoodIn wsX4_player (wsV RX4 78 RX4 yX4_finding wsX4_finding) := goodIn_app (goodIn_of _ (by decide +kernel)) ggX4_player_X4_finding
set_option maxRecDepth 20000 in
theorem ggX4_player_X4_comes : GoodIn wsX4_player wsX4_comes := goodIn_r _ [22, 2, 23, 24, 6, 25, 26, 27, 28, 29, 30, 31, 32, 33, 34, 35, 36, 37, 38, 39, 40, 41, 42, 43, 44, 45, 46, 47, 48, 49] (by decide +kernel) (by decide +kernel)
set_option maxRecDepth 20000 in
theorem gX4_player_X4_comes : GoodIn wsX4_player (wsV RX4 142 RX4 yX4_comes wsX4_comes) := goodIn_app (goodIn_of _ (by decide +kernel)) ggX4_player_X4_comes
theorem dX4_player_0 : decode cX4_player 0 = .ok (.iload_n 1, 1) := by decide +kernel
theorem dX4_player_1 : decode cX4_player 1 = .ok (.invokestatic 135, 3) := by decide +kernel
theorem dX4_player_4 : decode cX4_player 4 = .ok (.ifCond .eq 10, 3) := by decide +kernel
theorem dX4_player_7 : decode cX4_player 7 = .ok (.iload_n 2, 1) := by decide +kernel
theorem dX4_player_8 : decode cX4_player 8 = .ok (.invokestatic 138, 3) := by decide +kernel
theorem dX4_player_11 : decode cX4_player 11 = .ok (.ifCond .ne 10, 3) := by decide +kernel
theorem dX4_player_14 : decode cX4_player 14 = .ok (.aload_n 0, 1) := by decide +kernel
theorem dX4_player_15 : decode cX4_player 15 = .ok (.ldc 72, 2) := by decide +kernel
theorem dX4_player_17 : decode cX4_player 17 = .ok (.invokevirtual 78, 3) := by decide +kernel
theorem dX4_player_20 : decode cX4_player 20 = .ok (.ireturn, 1) := by decide +kernel
theorem dX4_player_21 : decode cX4_player 21 = .ok (.aload_n 0, 1) := by decide +kernel
theorem dX4_player_22 : decode cX4_player 22 = .ok (.getfield 9, 3) := by decide +kernel
theorem dX4_player_25 : decode cX4_player 25 = .ok (.iconst 1, 1) := by decide +kernel
theorem dX4_player_26 : decode cX4_player 26 = .ok (.iaload, 1) := by decide +kernel
theorem dX4_player_27 : decode cX4_player 27 = .ok (.bipush 8, 2) := by decide +kernel
theorem dX4_player_29 : decode cX4_player 29 = .ok (.if_icmp .ne 12, 3) := by decide +kernel
theorem dX4_player_32 : decode cX4_player 32 = .ok (.aload_n 0, 1) := by decide +kernel
theorem dX4_player_33 : decode cX4_player 33 = .ok (.ldc 141, 2) := by decide +kernel
theorem dX4_player_35 : decode cX4_player 35 = .ok (.invokevirtual 78, 3) := by decide +kernel
theorem dX4_player_38 : decode cX4_player 38 = .ok (.goto 13, 3) := by decide +kernel
theorem dX4_player_41 : decode cX4_player 41 = .ok (.aload_n 0, 1) := by decide +kernel
theorem dX4_player_42 : decode cX4_player 42 = .ok (.iload_n 1, 1) := by decide +kernel
theorem dX4_player_43 : decode cX4_player 43 = .ok (.iload_n 2, 1) := by decide +kernel
theorem dX4_player_44 : decode cX4_player 44 = .ok (.iconst 0, 1) := by decide +kernel
theorem dX4_player_45 : decode cX4_player 45 = .ok (.iconst 5, 1) := by decide +kernel
theorem dX4_player_46 : decode cX4_player 46 = .ok (.bipush 50, 2) := by decide +kernel
theorem dX4_player_48 : decode cX4_player 48 = .ok (.invokevirtual 142, 3) := by decide +kernel
theorem dX4_player_51 : decode cX4_player 51 = .ok (.ireturn, 1) := by decide +kernel
set_option maxRecDepth 20000 in
theorem ggX4_doesHear_X4_playerIs : GoodIn wsX4_doesHear wsX4_playerIs := goodIn_r _ [5, 6, 7, 8, 4, 9, 32, 33, 34, 35, 36, 37, 38, 39, 40, 41, 42, 43, 44, 45, 46, 47, 48, 49, 50, 51, 52, 53, 54, 55] (by decide +kernel) (by decide +kernel)
set_option maxRecDepth 20000 in
theorem gX4_doesHear_X4_playerIs : GoodIn wsX4_doesHear (wsV RX4 100 RX4 yX4_playerIs wsX4_playerIs) := goodIn_app (goodIn_of _ (by decide +kernel)) ggX4_doesHear_X4_playerIs
set_option maxRecDepth 20000 in
theorem ggX4_doesHear_X4_soundOf : GoodIn wsX4_doesHear wsX4_soundOf := goodIn_r _ [13, 14, 15, 16, 17, 18, 19, 20, 21, 22, 23, 4, 24, 6, 1, 2, 3, 5, 7, 8, 9, 25, 26, 27, 28, 29, 30, 31, 32, 33, 34, 35, 36, 37, 38, 39, 40, 41, 42, 43, 44, 45, 46, 47, 48, 49, 50, 51, 52, 53, 54, 55] (by decide +kernel) (by decide +kernel)
set_option maxRecDepth 20000 in
theorem gX4_doesHear_X4_soundOf : GoodIn wsX4_doesHear (wsV RX4 121 RX4 yX4_soundOf wsX4_soundOf) := goodIn_app (goodIn_of _ (by decide +kernel)) ggX4_doesHear_X4_soundOf
theorem dX4_doesHear_0 : decode cX4_doesHear 0 = .ok (.aload_n 0, 1) := by decide +kernel
theorem dX4_doesHear_1 : decode cX4_doesHear 1 = .ok (.iload_n 1, 1) := by decide +kernel
theorem dX4_doesHear_2 : decode cX4_doesHear 2 = .ok (.iconst 0, 1) := by decide +kernel
theorem dX4_doesHear_3 : decode cX4_doesHear 3 = .ok (.invokevirtual 100, 3) := by decide +kernel
theorem dX4_doesHear_6 : decode cX4_doesHear 6 = .ok (.iconst 5, 1) := by decide +kernel
theorem dX4_doesHear_7 : decode cX4_doesHear 7 = .ok (.if_icmp .ne 22, 3) := by decide +kernel
theorem dX4_doesHear_10 : decode cX4_doesHear 10 = .ok (.aload_n 0, 1) := by decide +kernel
theorem dX4_doesHear_11 : decode cX4_doesHear 11 = .ok (.iload_n 2, 1) := by decide +kernel
theorem dX4_doesHear_12 : decode cX4_doesHear 12 = .ok (.iconst 1, 1) := by decide +kernel
theorem dX4_doesHear_13 : decode cX4_doesHear 13 = .ok (.invokevirtual 100, 3) := by decide +kernel
theorem dX4_doesHear_16 : decode cX4_doesHear 16 = .ok (.aload_n 0, 1) := by decide +kernel
theorem dX4_doesHear_17 : decode cX4_doesHear 17 = .ok (.iload_n 1, 1) := by decide +kernel
theorem dX4_doesHear_18 : decode cX4_doesHear 18 = .ok (.iconst 1, 1) := by decide +kernel
theorem dX4_doesHear_19 : decode cX4_doesHear 19 = .ok (.invokevirtual 100, 3) := by decide +kernel
theorem dX4_doesHear_22 : decode cX4_doesHear 22 = .ok (.if_icmp .ge 7, 3) := by decide +kernel
theorem dX4_doesHear_25 : decode cX4_doesHear 25 = .ok (.iconst 1, 1) := by decide +kernel
theorem dX4_doesHear_26 : decode cX4_doesHear 26 = .ok (.goto 4, 3) := by decide +kernel
theorem dX4_doesHear_29 : decode cX4_doesHear 29 = .ok (.iconst 0, 1) := by decide +kernel
theorem dX4_doesHear_30 : decode cX4_doesHear 30 = .ok (.istore 4, 2) := by decide +kernel
theorem dX4_doesHear_32 : decode cX4_doesHear 32 = .ok (.iload 4, 2) := by decide +kernel
theorem dX4_doesHear_34 : decode cX4_doesHear 34 = .ok (.ifCond .ne 22, 3) := by decide +kernel
theorem dX4_doesHear_37 : decode cX4_doesHear 37 = .ok (.aload_n 0, 1) := by decide +kernel
theorem dX4_doesHear_38 : decode cX4_doesHear 38 = .ok (.iload_n 2, 1) := by decide +kernel
theorem dX4_doesHear_39 : decode cX4_doesHear 39 = .ok (.aload_n 0, 1) := by decide +kernel
theorem dX4_doesHear_40 : decode cX4_doesHear 40 = .ok (.iload_n 1, 1) := by decide +kernel
theorem dX4_doesHear_41 : decode cX4_doesHear 41 = .ok (.iconst 1, 1) := by decide +kernel
theorem dX4_doesHear_42 : decode cX4_doesHear 42 = .ok (.invokevirtual 100, 3) := by decide +kernel
theorem dX4_doesHear_45 : decode cX4_doesHear 45 = .ok (.iload_n 3, 1) := by decide +kernel
theorem dX4_doesHear_46 : decode cX4_doesHear 46 = .ok (.invokevirtual 121, 3) := by decide +kernel
theorem dX4_doesHear_49 : decode cX4_doesHear 49 = .ok (.ifCond .le 7, 3) := by decide +kernel
theorem dX4_doesHear_52 : decode cX4_doesHear 52 = .ok (.iconst 1, 1) := by decide +kernel
theorem dX4_doesHear_53 : decode cX4_doesHear 53 = .ok (.goto 4, 3) := by decide +kernel
theorem dX4_doesHear_56 : decode cX4_doesHear 56 = .ok (.iconst 0, 1) := by decide +kernel
theorem dX4_doesHear_57 : decode cX4_doesHear 57 = .ok (.ireturn, 1) := by decide +kernel
set_option maxRecDepth 20000 in
theorem ggX4_hearingOf_X4_doesHear : GoodIn wsX4_hearingOf wsX4_doesHear := goodIn_r _ [6, 7, 8, 9, 5, 10, 1, 11, 12, 13, 14, 15, 16, 17, 18, 19, 20, 21, 22, 23, 24, 25, 26, 27, 28, 29, 30, 31, 32, 33, 34, 35, 36, 37, 38, 39, 40, 41, 42, 43, 44, 45, 46, 47, 48, 49, 50, 51, 52, 53, 54, 55, 56, 57, 58, 59] (by decide +kernel) (by decide +kernel)
set_option maxRecDepth 20000 in
theorem gX4_hearingOf_X4_doesHear : GoodIn wsX4_hearingOf (wsV RX4 146 RX4 yX4_doesHear wsX4_doesHear) := goodIn_app (goodIn_of _ (by decide +kernel)) ggX4_hearingOf_X4_doesHear
theorem dX4_hearingOf_0 : decode cX4_hearingOf 0 = .ok (.iconst 0, 1) := by decide +kernel
theorem dX4_hearingOf_1 : decode cX4_hearingOf 1 = .ok (.istore_n 3, 1) := by decide +kernel
theorem dX4_hearingOf_2 : decode cX4_hearingOf 2 = .ok (.iconst 0, 1) := by decide +kernel
theorem dX4_hearingOf_3 : decode cX4_hearingOf 3 = .ok (.istore 4, 2) := by decide +kernel
theorem dX4_hearingOf_5 : decode cX4_hearingOf 5 = .ok (.iload 4, 2) := by decide +kernel
theorem dX4_hearingOf_7 : decode cX4_hearingOf 7 = .ok (.aload_n 0, 1) := by decide +kernel
theorem dX4_hearingOf_8 : decode cX4_hearingOf 8 = .ok (.getfield 9, 3) := by decide +kernel
theorem dX4_hearingOf_11 : decode cX4_hearingOf 11 = .ok (.iconst 1, 1) := by decide +kernel
theorem dX4_hearingOf_12 : decode cX4_hearingOf 12 = .ok (.iaload, 1) := by decide +kernel
theorem dX4_hearingOf_13 : decode cX4_hearingOf 13 = .ok (.if_icmp .ge 37, 3) := by decide +kernel
theorem dX4_hearingOf_16 : decode cX4_hearingOf 16 = .ok (.iload_n 3, 1) := by decide +kernel
theorem dX4_hearingOf_17 : decode cX4_hearingOf 17 = .ok (.iload 4, 2) := by decide +kernel
theorem dX4_hearingOf_19 : decode cX4_hearingOf 19 = .ok (.iload_n 1, 1) := by decide +kernel
theorem dX4_hearingOf_20 : decode cX4_hearingOf 20 = .ok (.if_icmp .eq 21, 3) := by decide +kernel
theorem dX4_hearingOf_23 : decode cX4_hearingOf 23 = .ok (.aload_n 0, 1) := by decide +kernel
theorem dX4_hearingOf_24 : decode cX4_hearingOf 24 = .ok (.iload_n 1, 1) := by decide +kernel
theorem dX4_hearingOf_25 : decode cX4_hearingOf 25 = .ok (.iload 4, 2) := by decide +kernel
theorem dX4_hearingOf_27 : decode cX4_hearingOf 27 = .ok (.iload_n 2, 1) := by decide +kernel
theorem dX4_hearingOf_28 : decode cX4_hearingOf 28 = .ok (.invokevirtual 146, 3) := by decide +kernel
theorem dX4_hearingOf_31 : decode cX4_hearingOf 31 = .ok (.ifCond .eq 10, 3) := by decide +kernel
theorem dX4_hearingOf_34 : decode cX4_hearingOf 34 = .ok (.iconst 1, 1) := by decide +kernel
theorem dX4_hearingOf_35 : decode cX4_hearingOf 35 = .ok (.iload 4, 2) := by decide +kernel
theorem dX4_hearingOf_37 : decode cX4_hearingOf 37 = .ok (.ishl, 1) := by decide +kernel
theorem dX4_hearingOf_38 : decode cX4_hearingOf 38 = .ok (.goto 4, 3) := by decide +kernel
theorem dX4_hearingOf_41 : decode cX4_hearingOf 41 = .ok (.iconst 0, 1) := by decide +kernel
theorem dX4_hearingOf_42 : decode cX4_hearingOf 42 = .ok (.ior, 1) := by decide +kernel
theorem dX4_hearingOf_43 : decode cX4_hearingOf 43 = .ok (.istore_n 3, 1) := by decide +kernel
theorem dX4_hearingOf_44 : decode cX4_hearingOf 44 = .ok (.iinc 4 1, 3) := by decide +kernel
theorem dX4_hearingOf_47 : decode cX4_hearingOf 47 = .ok (.goto (-42), 3) := by decide +kernel
theorem dX4_hearingOf_50 : decode cX4_hearingOf 50 = .ok (.iload_n 3, 1) := by decide +kernel
theorem dX4_hearingOf_51 : decode cX4_hearingOf 51 = .ok (.ireturn, 1) := by decide +kernel
set_option maxRecDepth 20000 in
theorem ggX4_aloneIn_X4_plays : GoodIn wsX4_aloneIn wsX4_plays := goodIn_r _ [5, 6, 7, 8, 9, 4, 10, 11, 12, 13, 14, 15, 16, 17, 18, 19, 20, 40, 41, 42, 43, 44, 45, 46, 47, 48, 49, 50, 51, 52, 53, 54, 55, 56, 57, 58, 59, 60, 61, 62, 63] (by decide +kernel) (by decide +kernel)
set_option maxRecDepth 20000 in
theorem gX4_aloneIn_X4_plays : GoodIn wsX4_aloneIn (wsV RX4 110 RX4 yX4_plays wsX4_plays) := goodIn_app (goodIn_of _ (by decide +kernel)) ggX4_aloneIn_X4_plays
set_option maxRecDepth 20000 in
theorem ggX4_aloneIn_X4_hearingOf : GoodIn wsX4_aloneIn wsX4_hearingOf := goodIn_r _ [24, 6, 25, 26, 27, 4, 28, 7, 8, 9, 10, 11, 12, 13, 29, 30, 31, 32, 33, 34, 35, 36, 37, 38, 39, 1, 2, 3, 5, 14, 15, 16, 17, 18, 19, 20, 40, 41, 42, 43, 44, 45, 46, 47, 48, 49, 50, 51, 52, 53, 54, 55, 56, 57, 58, 59, 60, 61, 62, 63] (by decide +kernel) (by decide +kernel)
set_option maxRecDepth 20000 in
theorem gX4_aloneIn_X4_hearingOf : GoodIn wsX4_aloneIn (wsV RX4 149 RX4 yX4_hearingOf wsX4_hearingOf) := goodIn_app (goodIn_of _ (by decide +kernel)) ggX4_aloneIn_X4_hearingOf
theorem dX4_aloneIn_0 : decode cX4_aloneIn 0 = .ok (.iconst 0, 1) := by decide +kernel
theorem dX4_aloneIn_1 : decode cX4_aloneIn 1 = .ok (.istore_n 2, 1) := by decide +kernel
theorem dX4_aloneIn_2 : decode cX4_aloneIn 2 = .ok (.iconst 0, 1) := by decide +kernel
theorem dX4_aloneIn_3 : decode cX4_aloneIn 3 = .ok (.istore_n 3, 1) := by decide +kernel
theorem dX4_aloneIn_4 : decode cX4_aloneIn 4 = .ok (.iload_n 3, 1) := by decide +kernel
theorem dX4_aloneIn_5 : decode cX4_aloneIn 5 = .ok (.bipush 12, 2) := by decide +kernel
theorem dX4_aloneIn_7 : decode cX4_aloneIn 7 = .ok (.if_icmp .ge 37, 3) := by decide +kernel
theorem dX4_aloneIn_10 : decode cX4_aloneIn 10 = .ok (.iload_n 2, 1) := by decide +kernel
theorem dX4_aloneIn_11 : decode cX4_aloneIn 11 = .ok (.aload_n 0, 1) := by decide +kernel
theorem dX4_aloneIn_12 : decode cX4_aloneIn 12 = .ok (.iload_n 1, 1) := by decide +kernel
theorem dX4_aloneIn_13 : decode cX4_aloneIn 13 = .ok (.iload_n 3, 1) := by decide +kernel
theorem dX4_aloneIn_14 : decode cX4_aloneIn 14 = .ok (.invokevirtual 110, 3) := by decide +kernel
theorem dX4_aloneIn_17 : decode cX4_aloneIn 17 = .ok (.ifCond .eq 18, 3) := by decide +kernel
theorem dX4_aloneIn_20 : decode cX4_aloneIn 20 = .ok (.aload_n 0, 1) := by decide +kernel
theorem dX4_aloneIn_21 : decode cX4_aloneIn 21 = .ok (.iload_n 1, 1) := by decide +kernel
theorem dX4_aloneIn_22 : decode cX4_aloneIn 22 = .ok (.iload_n 3, 1) := by decide +kernel
theorem dX4_aloneIn_23 : decode cX4_aloneIn 23 = .ok (.invokevirtual 149, 3) := by decide +kernel
theorem dX4_aloneIn_26 : decode cX4_aloneIn 26 = .ok (.ifCond .ne 9, 3) := by decide +kernel
theorem dX4_aloneIn_29 : decode cX4_aloneIn 29 = .ok (.iconst 1, 1) := by decide +kernel
theorem dX4_aloneIn_30 : decode cX4_aloneIn 30 = .ok (.iload_n 3, 1) := by decide +kernel
theorem dX4_aloneIn_31 : decode cX4_aloneIn 31 = .ok (.ishl, 1) := by decide +kernel
theorem dX4_aloneIn_32 : decode cX4_aloneIn 32 = .ok (.goto 4, 3) := by decide +kernel
theorem dX4_aloneIn_35 : decode cX4_aloneIn 35 = .ok (.iconst 0, 1) := by decide +kernel
theorem dX4_aloneIn_36 : decode cX4_aloneIn 36 = .ok (.ior, 1) := by decide +kernel
theorem dX4_aloneIn_37 : decode cX4_aloneIn 37 = .ok (.istore_n 2, 1) := by decide +kernel
theorem dX4_aloneIn_38 : decode cX4_aloneIn 38 = .ok (.iinc 3 1, 3) := by decide +kernel
theorem dX4_aloneIn_41 : decode cX4_aloneIn 41 = .ok (.goto (-37), 3) := by decide +kernel
theorem dX4_aloneIn_44 : decode cX4_aloneIn 44 = .ok (.iload_n 2, 1) := by decide +kernel
theorem dX4_aloneIn_45 : decode cX4_aloneIn 45 = .ok (.ireturn, 1) := by decide +kernel
set_option maxRecDepth 20000 in
theorem ggX4_of_X4_isPlayer : GoodIn wsX4_of wsX4_isPlayer := goodIn_r _ [6, 7, 8, 9, 5, 10, 61, 62, 63, 64, 65, 66, 67, 68, 69, 70, 71, 72, 73, 74, 75, 76, 77, 78, 79, 80, 81, 82, 83, 84] (by decide +kernel) (by decide +kernel)
set_option maxRecDepth 20000 in
theorem gX4_of_X4_isPlayer : GoodIn wsX4_of (wsV RX4 152 RX4 yX4_isPlayer wsX4_isPlayer) := goodIn_app (goodIn_of _ (by decide +kernel)) ggX4_of_X4_isPlayer
set_option maxRecDepth 20000 in
theorem ggX4_of_X4_within : GoodIn wsX4_of wsX4_within := goodIn_r _ [10] (by decide +kernel) (by decide +kernel)
set_option maxRecDepth 20000 in
theorem gX4_of_X4_within : GoodIn wsX4_of (va_wsS RX4 82 yX4_within wsX4_within) := goodIn_app (goodIn_of _ (by decide +kernel)) ggX4_of_X4_within
set_option maxRecDepth 20000 in
theorem ggX4_of_X4_finding : GoodIn wsX4_of wsX4_finding := goodIn_r _ [14, 15, 1, 61, 62, 63, 64, 65, 66, 67, 68, 69, 70, 71, 72, 73, 74, 75, 76, 77, 78, 79, 80, 81, 82, 83, 84] (by decide +kernel) (by decide +kernel)
set_option maxRecDepth 20000 in
theorem gX4_of_X4_finding : GoodIn wsX4_of (wsV RX4 78 RX4 yX4_finding wsX4_finding) := goodIn_app (goodIn_of _ (by decide +kernel)) ggX4_of_X4_finding
set_option maxRecDepth 20000 in
theorem ggX4_of_X4_barsOf : GoodIn wsX4_of wsX4_barsOf := goodIn_r _ [19, 20, 21, 22, 5, 23, 7, 24, 25, 26, 27, 28, 29, 30, 31, 32, 33, 34, 35, 36, 37, 61, 62, 63, 64, 65, 66, 67, 68, 69, 70, 71, 72, 73, 74, 75, 76, 77, 78, 79, 80, 81, 82, 83, 84] (by decide +kernel) (by decide +kernel)
set_option maxRecDepth 20000 in
theorem gX4_of_X4_barsOf : GoodIn wsX4_of (wsV RX4 155 RX4 yX4_barsOf wsX4_barsOf) := goodIn_app (goodIn_of _ (by decide +kernel)) ggX4_of_X4_barsOf
set_option maxRecDepth 20000 in
theorem ggX4_of_X4_aloneIn : GoodIn wsX4_of wsX4_aloneIn := goodIn_r _ [41, 20, 21, 22, 5, 23, 7, 24, 25, 26, 27, 28, 29, 30, 31, 32, 33, 34, 35, 36, 37, 42, 43, 44, 45, 46, 47, 48, 49, 50, 51, 52, 53, 54, 55, 56, 57, 58, 59, 60, 61, 62, 63, 64, 65, 66, 67, 68, 69, 70, 71, 72, 73, 74, 75, 76, 77, 78, 79, 80, 81, 82, 83, 84] (by decide +kernel) (by decide +kernel)
set_option maxRecDepth 20000 in
theorem gX4_of_X4_aloneIn : GoodIn wsX4_of (wsV RX4 158 RX4 yX4_aloneIn wsX4_aloneIn) := goodIn_app (goodIn_of _ (by decide +kernel)) ggX4_of_X4_aloneIn
set_option maxRecDepth 20000 in
theorem ggX4_of_X4_playerIs : GoodIn wsX4_of wsX4_playerIs := goodIn_r _ [27, 7, 28, 29, 5, 30, 61, 62, 63, 64, 65, 66, 67, 68, 69, 70, 71, 72, 73, 74, 75, 76, 77, 78, 79, 80, 81, 82, 83, 84] (by decide +kernel) (by decide +kernel)
set_option maxRecDepth 20000 in
theorem gX4_of_X4_playerIs : GoodIn wsX4_of (wsV RX4 100 RX4 yX4_playerIs wsX4_playerIs) := goodIn_app (goodIn_of _ (by decide +kernel)) ggX4_of_X4_playerIs
theorem dX4_of_0 : decode cX4_of 0 = .ok (.aload_n 0, 1) := by decide +kernel
theorem dX4_of_1 : decode cX4_of 1 = .ok (.iload_n 1, 1) := by decide +kernel
theorem dX4_of_2 : decode cX4_of 2 = .ok (.invokevirtual 152, 3) := by decide +kernel
theorem dX4_of_5 : decode cX4_of 5 = .ok (.ifCond .eq 13, 3) := by decide +kernel
theorem dX4_of_8 : decode cX4_of 8 = .ok (.iload_n 2, 1) := by decide +kernel
theorem dX4_of_9 : decode cX4_of 9 = .ok (.iconst 0, 1) := by decide +kernel
theorem dX4_of_10 : decode cX4_of 10 = .ok (.bipush 6, 2) := by decide +kernel
theorem dX4_of_12 : decode cX4_of 12 = .ok (.invokestatic 82, 3) := by decide +kernel
theorem dX4_of_15 : decode cX4_of 15 = .ok (.ifCond .ne 10, 3) := by decide +kernel
theorem dX4_of_18 : decode cX4_of 18 = .ok (.aload_n 0, 1) := by decide +kernel
theorem dX4_of_19 : decode cX4_of 19 = .ok (.ldc 72, 2) := by decide +kernel
theorem dX4_of_21 : decode cX4_of 21 = .ok (.invokevirtual 78, 3) := by decide +kernel
theorem dX4_of_24 : decode cX4_of 24 = .ok (.ireturn, 1) := by decide +kernel
theorem dX4_of_25 : decode cX4_of 25 = .ok (.iload_n 2, 1) := by decide +kernel
theorem dX4_of_26 : decode cX4_of 26 = .ok (.iconst 5, 1) := by decide +kernel
theorem dX4_of_27 : decode cX4_of 27 = .ok (.if_icmp .ne 11, 3) := by decide +kernel
theorem dX4_of_30 : decode cX4_of 30 = .ok (.aload_n 0, 1) := by decide +kernel
theorem dX4_of_31 : decode cX4_of 31 = .ok (.iload_n 1, 1) := by decide +kernel
theorem dX4_of_32 : decode cX4_of 32 = .ok (.invokevirtual 155, 3) := by decide +kernel
theorem dX4_of_35 : decode cX4_of 35 = .ok (.goto 23, 3) := by decide +kernel
theorem dX4_of_38 : decode cX4_of 38 = .ok (.iload_n 2, 1) := by decide +kernel
theorem dX4_of_39 : decode cX4_of 39 = .ok (.bipush 6, 2) := by decide +kernel
theorem dX4_of_41 : decode cX4_of 41 = .ok (.if_icmp .ne 11, 3) := by decide +kernel
theorem dX4_of_44 : decode cX4_of 44 = .ok (.aload_n 0, 1) := by decide +kernel
theorem dX4_of_45 : decode cX4_of 45 = .ok (.iload_n 1, 1) := by decide +kernel
theorem dX4_of_46 : decode cX4_of 46 = .ok (.invokevirtual 158, 3) := by decide +kernel
theorem dX4_of_49 : decode cX4_of 49 = .ok (.goto 9, 3) := by decide +kernel
theorem dX4_of_52 : decode cX4_of 52 = .ok (.aload_n 0, 1) := by decide +kernel
theorem dX4_of_53 : decode cX4_of 53 = .ok (.iload_n 1, 1) := by decide +kernel
theorem dX4_of_54 : decode cX4_of 54 = .ok (.iload_n 2, 1) := by decide +kernel
theorem dX4_of_55 : decode cX4_of 55 = .ok (.invokevirtual 100, 3) := by decide +kernel
theorem dX4_of_58 : decode cX4_of 58 = .ok (.ireturn, 1) := by decide +kernel
set_option maxRecDepth 20000 in
theorem ggX4_mayBe_X4_isKind : GoodIn wsX4_mayBe wsX4_isKind := goodIn_r _ [4, 5, 6, 3, 7] (by decide +kernel) (by decide +kernel)
set_option maxRecDepth 20000 in
theorem gX4_mayBe_X4_isKind : GoodIn wsX4_mayBe (va_wsS RX4 135 yX4_isKind wsX4_isKind) := goodIn_app (goodIn_of _ (by decide +kernel)) ggX4_mayBe_X4_isKind
set_option maxRecDepth 20000 in
theorem ggX4_mayBe_X4_isSeat : GoodIn wsX4_mayBe wsX4_isSeat := goodIn_r _ [10, 5, 6, 3, 7] (by decide +kernel) (by decide +kernel)
set_option maxRecDepth 20000 in
theorem gX4_mayBe_X4_isSeat : GoodIn wsX4_mayBe (va_wsS RX4 138 yX4_isSeat wsX4_isSeat) := goodIn_app (goodIn_of _ (by decide +kernel)) ggX4_mayBe_X4_isSeat
set_option maxRecDepth 20000 in
theorem ggX4_mayBe_X4_within : GoodIn wsX4_mayBe wsX4_within := goodIn_r _ [7] (by decide +kernel) (by decide +kernel)
set_option maxRecDepth 20000 in
theorem gX4_mayBe_X4_within : GoodIn wsX4_mayBe (va_wsS RX4 82 yX4_within wsX4_within) := goodIn_app (goodIn_of _ (by decide +kernel)) ggX4_mayBe_X4_within
theorem dX4_mayBe_0 : decode cX4_mayBe 0 = .ok (.iload_n 0, 1) := by decide +kernel
theorem dX4_mayBe_1 : decode cX4_mayBe 1 = .ok (.tableswitch 68 0 4 #[35, 40, 45, 52, 60], 35) := by decide +kernel
theorem dX4_mayBe_36 : decode cX4_mayBe 36 = .ok (.iload_n 1, 1) := by decide +kernel
theorem dX4_mayBe_37 : decode cX4_mayBe 37 = .ok (.invokestatic 135, 3) := by decide +kernel
theorem dX4_mayBe_40 : decode cX4_mayBe 40 = .ok (.ireturn, 1) := by decide +kernel
theorem dX4_mayBe_41 : decode cX4_mayBe 41 = .ok (.iload_n 1, 1) := by decide +kernel
theorem dX4_mayBe_42 : decode cX4_mayBe 42 = .ok (.invokestatic 138, 3) := by decide +kernel
theorem dX4_mayBe_45 : decode cX4_mayBe 45 = .ok (.ireturn, 1) := by decide +kernel
theorem dX4_mayBe_46 : decode cX4_mayBe 46 = .ok (.iload_n 1, 1) := by decide +kernel
theorem dX4_mayBe_47 : decode cX4_mayBe 47 = .ok (.iconst 0, 1) := by decide +kernel
theorem dX4_mayBe_48 : decode cX4_mayBe 48 = .ok (.iconst 5, 1) := by decide +kernel
theorem dX4_mayBe_49 : decode cX4_mayBe 49 = .ok (.invokestatic 82, 3) := by decide +kernel
theorem dX4_mayBe_52 : decode cX4_mayBe 52 = .ok (.ireturn, 1) := by decide +kernel
theorem dX4_mayBe_53 : decode cX4_mayBe 53 = .ok (.iload_n 1, 1) := by decide +kernel
theorem dX4_mayBe_54 : decode cX4_mayBe 54 = .ok (.iconst 0, 1) := by decide +kernel
theorem dX4_mayBe_55 : decode cX4_mayBe 55 = .ok (.bipush 9, 2) := by decide +kernel
theorem dX4_mayBe_57 : decode cX4_mayBe 57 = .ok (.invokestatic 82, 3) := by decide +kernel
theorem dX4_mayBe_60 : decode cX4_mayBe 60 = .ok (.ireturn, 1) := by decide +kernel
theorem dX4_mayBe_61 : decode cX4_mayBe 61 = .ok (.iload_n 1, 1) := by decide +kernel
theorem dX4_mayBe_62 : decode cX4_mayBe 62 = .ok (.iconst 0, 1) := by decide +kernel
theorem dX4_mayBe_63 : decode cX4_mayBe 63 = .ok (.bipush 99, 2) := by decide +kernel
theorem dX4_mayBe_65 : decode cX4_mayBe 65 = .ok (.invokestatic 82, 3) := by decide +kernel
theorem dX4_mayBe_68 : decode cX4_mayBe 68 = .ok (.ireturn, 1) := by decide +kernel
theorem dX4_mayBe_69 : decode cX4_mayBe 69 = .ok (.iconst 0, 1) := by decide +kernel
theorem dX4_mayBe_70 : decode cX4_mayBe 70 = .ok (.ireturn, 1) := by decide +kernel
set_option maxRecDepth 20000 in
theorem ggX4_change_X4_isPlayer : GoodIn wsX4_change wsX4_isPlayer := goodIn_r _ [6, 7, 8, 9, 5, 10, 32, 33, 34, 35, 36, 37, 38, 39, 40, 41, 42, 43, 44, 45, 46, 47, 48, 49, 50, 51, 52, 53, 54, 55] (by decide +kernel) (by decide +kernel)
set_option maxRecDepth 20000 in
theorem gX4_change_X4_isPlayer : GoodIn wsX4_change (wsV RX4 152 RX4 yX4_isPlayer wsX4_isPlayer) := goodIn_app (goodIn_of _ (by decide +kernel)) ggX4_change_X4_isPlayer
set_option maxRecDepth 20000 in
theorem ggX4_change_X4_mayBe : GoodIn wsX4_change wsX4_mayBe := goodIn_r _ [13, 14, 15, 5, 16, 8, 9, 10, 17, 18, 19] (by decide +kernel) (by decide +kernel)
set_option maxRecDepth 20000 in
theorem gX4_change_X4_mayBe : GoodIn wsX4_change (va_wsS RX4 161 yX4_mayBe wsX4_mayBe) := goodIn_app (goodIn_of _ (by decide +kernel)) ggX4_change_X4_mayBe
set_option maxRecDepth 20000 in
theorem ggX4_change_X4_at : GoodIn wsX4_change wsX4_at := goodIn_r _ [22] (by decide +kernel) (by decide +kernel)
set_option maxRecDepth 20000 in
theorem gX4_change_X4_at : GoodIn wsX4_change (va_wsS RX4 86 yX4_at wsX4_at) := goodIn_app (goodIn_of _ (by decide +kernel)) ggX4_change_X4_at
set_option maxRecDepth 20000 in
theorem ggX4_change_X4_become : GoodIn wsX4_change wsX4_become := goodIn_r _ [26, 7, 32, 33, 34, 35, 36, 37, 38, 39, 40, 41, 42, 43, 44, 45, 46, 47, 48, 49, 50, 51, 52, 53, 54, 55] (by decide +kernel) (by decide +kernel)
set_option maxRecDepth 20000 in
theorem gX4_change_X4_become : GoodIn wsX4_change (wsV RX4 97 RX4 yX4_become wsX4_become) := goodIn_app (goodIn_of _ (by decide +kernel)) ggX4_change_X4_become
set_option maxRecDepth 20000 in
theorem ggX4_change_X4_finding : GoodIn wsX4_change wsX4_finding := goodIn_r _ [30, 31, 1, 32, 33, 34, 35, 36, 37, 38, 39, 40, 41, 42, 43, 44, 45, 46, 47, 48, 49, 50, 51, 52, 53, 54, 55] (by decide +kernel) (by decide +kernel)
set_option maxRecDepth 20000 in
theorem gX4_change_X4_finding : GoodIn wsX4_change (wsV RX4 78 RX4 yX4_finding wsX4_finding) := goodIn_app (goodIn_of _ (by decide +kernel)) ggX4_change_X4_finding
theorem dX4_change_0 : decode cX4_change 0 = .ok (.aload_n 0, 1) := by decide +kernel
theorem dX4_change_1 : decode cX4_change 1 = .ok (.iload_n 1, 1) := by decide +kernel
theorem dX4_change_2 : decode cX4_change 2 = .ok (.invokevirtual 152, 3) := by decide +kernel
theorem dX4_change_5 : decode cX4_change 5 = .ok (.ifCond .eq 24, 3) := by decide +kernel
theorem dX4_change_8 : decode cX4_change 8 = .ok (.iload_n 2, 1) := by decide +kernel
theorem dX4_change_9 : decode cX4_change 9 = .ok (.iload_n 3, 1) := by decide +kernel
theorem dX4_change_10 : decode cX4_change 10 = .ok (.invokestatic 161, 3) := by decide +kernel
theorem dX4_change_13 : decode cX4_change 13 = .ok (.ifCond .eq 16, 3) := by decide +kernel
theorem dX4_change_16 : decode cX4_change 16 = .ok (.aload_n 0, 1) := by decide +kernel
theorem dX4_change_17 : decode cX4_change 17 = .ok (.iload_n 1, 1) := by decide +kernel
theorem dX4_change_18 : decode cX4_change 18 = .ok (.iload_n 2, 1) := by decide +kernel
theorem dX4_change_19 : decode cX4_change 19 = .ok (.invokestatic 86, 3) := by decide +kernel
theorem dX4_change_22 : decode cX4_change 22 = .ok (.iload_n 3, 1) := by decide +kernel
theorem dX4_change_23 : decode cX4_change 23 = .ok (.invokevirtual 97, 3) := by decide +kernel
theorem dX4_change_26 : decode cX4_change 26 = .ok (.goto 9, 3) := by decide +kernel
theorem dX4_change_29 : decode cX4_change 29 = .ok (.aload_n 0, 1) := by decide +kernel
theorem dX4_change_30 : decode cX4_change 30 = .ok (.ldc 72, 2) := by decide +kernel
theorem dX4_change_32 : decode cX4_change 32 = .ok (.invokevirtual 78, 3) := by decide +kernel
theorem dX4_change_35 : decode cX4_change 35 = .ok (.ireturn, 1) := by decide +kernel
set_option maxRecDepth 20000 in
theorem ggX4_areTwo_X4_isPlayer : GoodIn wsX4_areTwo wsX4_isPlayer := goodIn_r _ [5, 6, 7, 8, 4, 9, 10, 11, 12, 13, 14, 15, 16, 17, 18, 19, 20, 21, 22, 23, 24, 25, 26, 27, 28, 29, 30, 31, 32, 33] (by decide +kernel) (by decide +kernel)
set_option maxRecDepth 20000 in
theorem gX4_areTwo_X4_isPlayer : GoodIn wsX4_areTwo (wsV RX4 152 RX4 yX4_isPlayer wsX4_isPlayer) := goodIn_app (goodIn_of _ (by decide +kernel)) ggX4_areTwo_X4_isPlayer
theorem dX4_areTwo_0 : decode cX4_areTwo 0 = .ok (.aload_n 0, 1) := by decide +kernel
theorem dX4_areTwo_1 : decode cX4_areTwo 1 = .ok (.iload_n 1, 1) := by decide +kernel
theorem dX4_areTwo_2 : decode cX4_areTwo 2 = .ok (.invokevirtual 152, 3) := by decide +kernel
theorem dX4_areTwo_5 : decode cX4_areTwo 5 = .ok (.ifCond .eq 20, 3) := by decide +kernel
theorem dX4_areTwo_8 : decode cX4_areTwo 8 = .ok (.aload_n 0, 1) := by decide +kernel
theorem dX4_areTwo_9 : decode cX4_areTwo 9 = .ok (.iload_n 2, 1) := by decide +kernel
theorem dX4_areTwo_10 : decode cX4_areTwo 10 = .ok (.invokevirtual 152, 3) := by decide +kernel
theorem dX4_areTwo_13 : decode cX4_areTwo 13 = .ok (.ifCond .eq 12, 3) := by decide +kernel
theorem dX4_areTwo_16 : decode cX4_areTwo 16 = .ok (.iload_n 1, 1) := by decide +kernel
theorem dX4_areTwo_17 : decode cX4_areTwo 17 = .ok (.iload_n 2, 1) := by decide +kernel
theorem dX4_areTwo_18 : decode cX4_areTwo 18 = .ok (.if_icmp .eq 7, 3) := by decide +kernel
theorem dX4_areTwo_21 : decode cX4_areTwo 21 = .ok (.iconst 1, 1) := by decide +kernel
theorem dX4_areTwo_22 : decode cX4_areTwo 22 = .ok (.goto 4, 3) := by decide +kernel
theorem dX4_areTwo_25 : decode cX4_areTwo 25 = .ok (.iconst 0, 1) := by decide +kernel
theorem dX4_areTwo_26 : decode cX4_areTwo 26 = .ok (.ireturn, 1) := by decide +kernel
set_option maxRecDepth 20000 in
theorem ggX4_swapped_X4_at : GoodIn wsX4_swapped wsX4_at := goodIn_r _ [4] (by decide +kernel) (by decide +kernel)
set_option maxRecDepth 20000 in
theorem gX4_swapped_X4_at : GoodIn wsX4_swapped (va_wsS RX4 86 yX4_at wsX4_at) := goodIn_app (goodIn_of _ (by decide +kernel)) ggX4_swapped_X4_at
set_option maxRecDepth 20000 in
theorem ggX4_swapped_X4_playerIs : GoodIn wsX4_swapped wsX4_playerIs := goodIn_r _ [8, 9, 1, 2, 3, 4, 14, 15, 16, 17, 18, 19, 20, 21, 22, 23, 24, 25, 26, 27, 28, 29, 30, 31, 32, 33, 34, 35, 36, 37] (by decide +kernel) (by decide +kernel)
set_option maxRecDepth 20000 in
theorem gX4_swapped_X4_playerIs : GoodIn wsX4_swapped (wsV RX4 100 RX4 yX4_playerIs wsX4_playerIs) := goodIn_app (goodIn_of _ (by decide +kernel)) ggX4_swapped_X4_playerIs
set_option maxRecDepth 20000 in
theorem ggX4_swapped_X4_become : GoodIn wsX4_swapped wsX4_become := goodIn_r _ [13, 9, 14, 15, 16, 17, 18, 19, 20, 21, 22, 23, 24, 25, 26, 27, 28, 29, 30, 31, 32, 33, 34, 35, 36, 37] (by decide +kernel) (by decide +kernel)
set_option maxRecDepth 20000 in
theorem gX4_swapped_X4_become : GoodIn wsX4_swapped (wsV RX4 97 RX4 yX4_become wsX4_become) := goodIn_app (goodIn_of _ (by decide +kernel)) ggX4_swapped_X4_become
theorem dX4_swapped_0 : decode cX4_swapped 0 = .ok (.aload_n 0, 1) := by decide +kernel
theorem dX4_swapped_1 : decode cX4_swapped 1 = .ok (.iload_n 1, 1) := by decide +kernel
theorem dX4_swapped_2 : decode cX4_swapped 2 = .ok (.iconst 1, 1) := by decide +kernel
theorem dX4_swapped_3 : decode cX4_swapped 3 = .ok (.invokestatic 86, 3) := by decide +kernel
theorem dX4_swapped_6 : decode cX4_swapped 6 = .ok (.aload_n 0, 1) := by decide +kernel
theorem dX4_swapped_7 : decode cX4_swapped 7 = .ok (.iload_n 2, 1) := by decide +kernel
theorem dX4_swapped_8 : decode cX4_swapped 8 = .ok (.iconst 1, 1) := by decide +kernel
theorem dX4_swapped_9 : decode cX4_swapped 9 = .ok (.invokevirtual 100, 3) := by decide +kernel
theorem dX4_swapped_12 : decode cX4_swapped 12 = .ok (.invokevirtual 97, 3) := by decide +kernel
theorem dX4_swapped_15 : decode cX4_swapped 15 = .ok (.istore_n 3, 1) := by decide +kernel
theorem dX4_swapped_16 : decode cX4_swapped 16 = .ok (.aload_n 0, 1) := by decide +kernel
theorem dX4_swapped_17 : decode cX4_swapped 17 = .ok (.iload_n 2, 1) := by decide +kernel
theorem dX4_swapped_18 : decode cX4_swapped 18 = .ok (.iconst 1, 1) := by decide +kernel
theorem dX4_swapped_19 : decode cX4_swapped 19 = .ok (.invokestatic 86, 3) := by decide +kernel
theorem dX4_swapped_22 : decode cX4_swapped 22 = .ok (.iload_n 3, 1) := by decide +kernel
theorem dX4_swapped_23 : decode cX4_swapped 23 = .ok (.invokevirtual 97, 3) := by decide +kernel
theorem dX4_swapped_26 : decode cX4_swapped 26 = .ok (.iload_n 3, 1) := by decide +kernel
theorem dX4_swapped_27 : decode cX4_swapped 27 = .ok (.if_icmp .ne 7, 3) := by decide +kernel
theorem dX4_swapped_30 : decode cX4_swapped 30 = .ok (.iconst 0, 1) := by decide +kernel
theorem dX4_swapped_31 : decode cX4_swapped 31 = .ok (.goto 4, 3) := by decide +kernel
theorem dX4_swapped_34 : decode cX4_swapped 34 = .ok (.iconst 1, 1) := by decide +kernel
theorem dX4_swapped_35 : decode cX4_swapped 35 = .ok (.ireturn, 1) := by decide +kernel
set_option maxRecDepth 20000 in
theorem ggX4_swap_X4_areTwo : GoodIn wsX4_swap wsX4_areTwo := goodIn_r _ [6, 7, 8, 9, 5, 10, 11, 12, 13, 14, 35, 36, 37, 38, 39, 40, 41, 42, 43, 44, 45, 46, 47, 48, 49, 50, 51, 52, 53, 54, 55, 56, 57, 58] (by decide +kernel) (by decide +kernel)
set_option maxRecDepth 20000 in
theorem gX4_swap_X4_areTwo : GoodIn wsX4_swap (wsV RX4 164 RX4 yX4_areTwo wsX4_areTwo) := goodIn_app (goodIn_of _ (by decide +kernel)) ggX4_swap_X4_areTwo
set_option maxRecDepth 20000 in
theorem ggX4_swap_X4_swapped : GoodIn wsX4_swap wsX4_swapped := goodIn_r _ [18, 19, 20, 5, 21, 22, 23, 24, 25, 11, 26, 27, 28, 29, 35, 36, 37, 38, 39, 40, 41, 42, 43, 44, 45, 46, 47, 48, 49, 50, 51, 52, 53, 54, 55, 56, 57, 58] (by decide +kernel) (by decide +kernel)
set_option maxRecDepth 20000 in
theorem gX4_swap_X4_swapped : GoodIn wsX4_swap (wsV RX4 167 RX4 yX4_swapped wsX4_swapped) := goodIn_app (goodIn_of _ (by decide +kernel)) ggX4_swap_X4_swapped
set_option maxRecDepth 20000 in
theorem ggX4_swap_X4_finding : GoodIn wsX4_swap wsX4_finding := goodIn_r _ [33, 34, 1, 35, 36, 37, 38, 39, 40, 41, 42, 43, 44, 45, 46, 47, 48, 49, 50, 51, 52, 53, 54, 55, 56, 57, 58] (by decide +kernel) (by decide +kernel)
set_option maxRecDepth 20000 in
theorem gX4_swap_X4_finding : GoodIn wsX4_swap (wsV RX4 78 RX4 yX4_finding wsX4_finding) := goodIn_app (goodIn_of _ (by decide +kernel)) ggX4_swap_X4_finding
theorem dX4_swap_0 : decode cX4_swap 0 = .ok (.aload_n 0, 1) := by decide +kernel
theorem dX4_swap_1 : decode cX4_swap 1 = .ok (.iload_n 1, 1) := by decide +kernel
theorem dX4_swap_2 : decode cX4_swap 2 = .ok (.iload_n 2, 1) := by decide +kernel
theorem dX4_swap_3 : decode cX4_swap 3 = .ok (.invokevirtual 164, 3) := by decide +kernel
theorem dX4_swap_6 : decode cX4_swap 6 = .ok (.ifCond .eq 12, 3) := by decide +kernel
theorem dX4_swap_9 : decode cX4_swap 9 = .ok (.aload_n 0, 1) := by decide +kernel
theorem dX4_swap_10 : decode cX4_swap 10 = .ok (.iload_n 1, 1) := by decide +kernel
theorem dX4_swap_11 : decode cX4_swap 11 = .ok (.iload_n 2, 1) := by decide +kernel
theorem dX4_swap_12 : decode cX4_swap 12 = .ok (.invokevirtual 167, 3) := by decide +kernel
theorem dX4_swap_15 : decode cX4_swap 15 = .ok (.goto 9, 3) := by decide +kernel
theorem dX4_swap_18 : decode cX4_swap 18 = .ok (.aload_n 0, 1) := by decide +kernel
theorem dX4_swap_19 : decode cX4_swap 19 = .ok (.ldc 72, 2) := by decide +kernel
theorem dX4_swap_21 : decode cX4_swap 21 = .ok (.invokevirtual 78, 3) := by decide +kernel
theorem dX4_swap_24 : decode cX4_swap 24 = .ok (.ireturn, 1) := by decide +kernel
set_option maxRecDepth 20000 in
theorem ggX4_sound_X4_isPlayer : GoodIn wsX4_sound wsX4_isPlayer := goodIn_r _ [6, 7, 8, 9, 5, 10, 51, 52, 53, 54, 55, 56, 57, 58, 59, 60, 61, 62, 63, 64, 65, 66, 67, 68, 69, 70, 71, 72, 73, 74] (by decide +kernel) (by decide +kernel)
set_option maxRecDepth 20000 in
theorem gX4_sound_X4_isPlayer : GoodIn wsX4_sound (wsV RX4 152 RX4 yX4_isPlayer wsX4_isPlayer) := goodIn_app (goodIn_of _ (by decide +kernel)) ggX4_sound_X4_isPlayer
set_option maxRecDepth 20000 in
theorem ggX4_sound_X4_isSeat : GoodIn wsX4_sound wsX4_isSeat := goodIn_r _ [13, 8, 9, 5, 10] (by decide +kernel) (by decide +kernel)
set_option maxRecDepth 20000 in
theorem gX4_sound_X4_isSeat : GoodIn wsX4_sound (va_wsS RX4 138 yX4_isSeat wsX4_isSeat) := goodIn_app (goodIn_of _ (by decide +kernel)) ggX4_sound_X4_isSeat
set_option maxRecDepth 20000 in
theorem ggX4_sound_X4_isBar : GoodIn wsX4_sound wsX4_isBar := goodIn_r _ [16, 8, 9, 5, 10] (by decide +kernel) (by decide +kernel)
set_option maxRecDepth 20000 in
theorem gX4_sound_X4_isBar : GoodIn wsX4_sound (va_wsS RX4 90 yX4_isBar wsX4_isBar) := goodIn_app (goodIn_of _ (by decide +kernel)) ggX4_sound_X4_isBar
set_option maxRecDepth 20000 in
theorem ggX4_sound_X4_soundOf : GoodIn wsX4_sound wsX4_soundOf := goodIn_r _ [20, 21, 22, 23, 24, 25, 26, 27, 28, 29, 30, 5, 31, 7, 32, 33, 34, 35, 36, 37, 38, 39, 40, 41, 42, 43, 44, 45, 51, 52, 53, 54, 55, 56, 57, 58, 59, 60, 61, 62, 63, 64, 65, 66, 67, 68, 69, 70, 71, 72, 73, 74] (by decide +kernel) (by decide +kernel)
set_option maxRecDepth 20000 in
theorem gX4_sound_X4_soundOf : GoodIn wsX4_sound (wsV RX4 121 RX4 yX4_soundOf wsX4_soundOf) := goodIn_app (goodIn_of _ (by decide +kernel)) ggX4_sound_X4_soundOf
set_option maxRecDepth 20000 in
theorem ggX4_sound_X4_finding : GoodIn wsX4_sound wsX4_finding := goodIn_r _ [49, 50, 1, 51, 52, 53, 54, 55, 56, 57, 58, 59, 60, 61, 62, 63, 64, 65, 66, 67, 68, 69, 70, 71, 72, 73, 74] (by decide +kernel) (by decide +kernel)
set_option maxRecDepth 20000 in
theorem gX4_sound_X4_finding : GoodIn wsX4_sound (wsV RX4 78 RX4 yX4_finding wsX4_finding) := goodIn_app (goodIn_of _ (by decide +kernel)) ggX4_sound_X4_finding
theorem dX4_sound_0 : decode cX4_sound 0 = .ok (.aload_n 0, 1) := by decide +kernel
theorem dX4_sound_1 : decode cX4_sound 1 = .ok (.iload_n 1, 1) := by decide +kernel
theorem dX4_sound_2 : decode cX4_sound 2 = .ok (.invokevirtual 152, 3) := by decide +kernel
theorem dX4_sound_5 : decode cX4_sound 5 = .ok (.ifCond .eq 27, 3) := by decide +kernel
theorem dX4_sound_8 : decode cX4_sound 8 = .ok (.iload_n 2, 1) := by decide +kernel
theorem dX4_sound_9 : decode cX4_sound 9 = .ok (.invokestatic 138, 3) := by decide +kernel
theorem dX4_sound_12 : decode cX4_sound 12 = .ok (.ifCond .eq 20, 3) := by decide +kernel
theorem dX4_sound_15 : decode cX4_sound 15 = .ok (.iload_n 3, 1) := by decide +kernel
theorem dX4_sound_16 : decode cX4_sound 16 = .ok (.invokestatic 90, 3) := by decide +kernel
theorem dX4_sound_19 : decode cX4_sound 19 = .ok (.ifCond .eq 13, 3) := by decide +kernel
theorem dX4_sound_22 : decode cX4_sound 22 = .ok (.aload_n 0, 1) := by decide +kernel
theorem dX4_sound_23 : decode cX4_sound 23 = .ok (.iload_n 1, 1) := by decide +kernel
theorem dX4_sound_24 : decode cX4_sound 24 = .ok (.iload_n 2, 1) := by decide +kernel
theorem dX4_sound_25 : decode cX4_sound 25 = .ok (.iload_n 3, 1) := by decide +kernel
theorem dX4_sound_26 : decode cX4_sound 26 = .ok (.invokevirtual 121, 3) := by decide +kernel
theorem dX4_sound_29 : decode cX4_sound 29 = .ok (.goto 9, 3) := by decide +kernel
theorem dX4_sound_32 : decode cX4_sound 32 = .ok (.aload_n 0, 1) := by decide +kernel
theorem dX4_sound_33 : decode cX4_sound 33 = .ok (.ldc 72, 2) := by decide +kernel
theorem dX4_sound_35 : decode cX4_sound 35 = .ok (.invokevirtual 78, 3) := by decide +kernel
theorem dX4_sound_38 : decode cX4_sound 38 = .ok (.ireturn, 1) := by decide +kernel
set_option maxRecDepth 20000 in
theorem ggX4_heard_X4_isSeat : GoodIn wsX4_heard wsX4_isSeat := goodIn_r _ [5, 6, 7, 4, 8] (by decide +kernel) (by decide +kernel)
set_option maxRecDepth 20000 in
theorem gX4_heard_X4_isSeat : GoodIn wsX4_heard (va_wsS RX4 138 yX4_isSeat wsX4_isSeat) := goodIn_app (goodIn_of _ (by decide +kernel)) ggX4_heard_X4_isSeat
set_option maxRecDepth 20000 in
theorem ggX4_heard_X4_isBar : GoodIn wsX4_heard wsX4_isBar := goodIn_r _ [11, 6, 7, 4, 8] (by decide +kernel) (by decide +kernel)
set_option maxRecDepth 20000 in
theorem gX4_heard_X4_isBar : GoodIn wsX4_heard (va_wsS RX4 90 yX4_isBar wsX4_isBar) := goodIn_app (goodIn_of _ (by decide +kernel)) ggX4_heard_X4_isBar
set_option maxRecDepth 20000 in
theorem ggX4_heard_X4_everybody : GoodIn wsX4_heard wsX4_everybody := goodIn_r _ [15, 16, 55, 56, 57, 58, 59, 60, 61, 62, 63, 64, 65, 66, 67, 68, 69, 70, 71, 72, 73, 74, 75, 76, 77, 78] (by decide +kernel) (by decide +kernel)
set_option maxRecDepth 20000 in
theorem gX4_heard_X4_everybody : GoodIn wsX4_heard (wsV RX4 128 RX4 yX4_everybody wsX4_everybody) := goodIn_app (goodIn_of _ (by decide +kernel)) ggX4_heard_X4_everybody
set_option maxRecDepth 20000 in
theorem ggX4_heard_X4_heardOf : GoodIn wsX4_heard wsX4_heardOf := goodIn_r _ [20, 16, 21, 22, 23, 24, 25, 26, 4, 27, 28, 29, 30, 31, 32, 33, 34, 35, 36, 37, 38, 39, 40, 41, 42, 43, 44, 45, 46, 47, 48, 49, 55, 56, 57, 58, 59, 60, 61, 62, 63, 64, 65, 66, 67, 68, 69, 70, 71, 72, 73, 74, 75, 76, 77, 78] (by decide +kernel) (by decide +kernel)
set_option maxRecDepth 20000 in
theorem gX4_heard_X4_heardOf : GoodIn wsX4_heard (wsV RX4 132 RX4 yX4_heardOf wsX4_heardOf) := goodIn_app (goodIn_of _ (by decide +kernel)) ggX4_heard_X4_heardOf
set_option maxRecDepth 20000 in
theorem ggX4_heard_X4_finding : GoodIn wsX4_heard wsX4_finding := goodIn_r _ [53, 54, 1, 55, 56, 57, 58, 59, 60, 61, 62, 63, 64, 65, 66, 67, 68, 69, 70, 71, 72, 73, 74, 75, 76, 77, 78] (by decide +kernel) (by decide +kernel)
set_option maxRecDepth 20000 in
theorem gX4_heard_X4_finding : GoodIn wsX4_heard (wsV RX4 78 RX4 yX4_finding wsX4_finding) := goodIn_app (goodIn_of _ (by decide +kernel)) ggX4_heard_X4_finding
theorem dX4_heard_0 : decode cX4_heard 0 = .ok (.iload_n 1, 1) := by decide +kernel
theorem dX4_heard_1 : decode cX4_heard 1 = .ok (.invokestatic 138, 3) := by decide +kernel
theorem dX4_heard_4 : decode cX4_heard 4 = .ok (.ifCond .eq 23, 3) := by decide +kernel
theorem dX4_heard_7 : decode cX4_heard 7 = .ok (.iload_n 2, 1) := by decide +kernel
theorem dX4_heard_8 : decode cX4_heard 8 = .ok (.invokestatic 90, 3) := by decide +kernel
theorem dX4_heard_11 : decode cX4_heard 11 = .ok (.ifCond .eq 16, 3) := by decide +kernel
theorem dX4_heard_14 : decode cX4_heard 14 = .ok (.aload_n 0, 1) := by decide +kernel
theorem dX4_heard_15 : decode cX4_heard 15 = .ok (.aload_n 0, 1) := by decide +kernel
theorem dX4_heard_16 : decode cX4_heard 16 = .ok (.invokevirtual 128, 3) := by decide +kernel
theorem dX4_heard_19 : decode cX4_heard 19 = .ok (.iload_n 1, 1) := by decide +kernel
theorem dX4_heard_20 : decode cX4_heard 20 = .ok (.iload_n 2, 1) := by decide +kernel
theorem dX4_heard_21 : decode cX4_heard 21 = .ok (.invokevirtual 132, 3) := by decide +kernel
theorem dX4_heard_24 : decode cX4_heard 24 = .ok (.goto 9, 3) := by decide +kernel
theorem dX4_heard_27 : decode cX4_heard 27 = .ok (.aload_n 0, 1) := by decide +kernel
theorem dX4_heard_28 : decode cX4_heard 28 = .ok (.ldc 72, 2) := by decide +kernel
theorem dX4_heard_30 : decode cX4_heard 30 = .ok (.invokevirtual 78, 3) := by decide +kernel
theorem dX4_heard_33 : decode cX4_heard 33 = .ok (.ireturn, 1) := by decide +kernel
set_option maxRecDepth 20000 in
theorem ggX4_hearsIn_X4_doesHear : GoodIn wsX4_hearsIn wsX4_doesHear := goodIn_r _ [5, 6, 7, 8, 4, 9, 10, 11, 12, 13, 14, 15, 16, 17, 18, 19, 20, 21, 22, 23, 24, 25, 26, 27, 28, 29, 30, 31, 32, 33, 34, 35, 36, 37, 38, 39, 40, 41, 42, 43, 44, 45, 46, 47, 48, 49, 50, 51, 52, 53, 54, 55, 56, 57, 58, 59] (by decide +kernel) (by decide +kernel)
set_option maxRecDepth 20000 in
theorem gX4_hearsIn_X4_doesHear : GoodIn wsX4_hearsIn (wsV RX4 146 RX4 yX4_doesHear wsX4_doesHear) := goodIn_app (goodIn_of _ (by decide +kernel)) ggX4_hearsIn_X4_doesHear
theorem dX4_hearsIn_0 : decode cX4_hearsIn 0 = .ok (.iconst 0, 1) := by decide +kernel
theorem dX4_hearsIn_1 : decode cX4_hearsIn 1 = .ok (.istore_n 3, 1) := by decide +kernel
theorem dX4_hearsIn_2 : decode cX4_hearsIn 2 = .ok (.iconst 0, 1) := by decide +kernel
theorem dX4_hearsIn_3 : decode cX4_hearsIn 3 = .ok (.istore 4, 2) := by decide +kernel
theorem dX4_hearsIn_5 : decode cX4_hearsIn 5 = .ok (.iload 4, 2) := by decide +kernel
theorem dX4_hearsIn_7 : decode cX4_hearsIn 7 = .ok (.bipush 12, 2) := by decide +kernel
theorem dX4_hearsIn_9 : decode cX4_hearsIn 9 = .ok (.if_icmp .ge 31, 3) := by decide +kernel
theorem dX4_hearsIn_12 : decode cX4_hearsIn 12 = .ok (.iload_n 3, 1) := by decide +kernel
theorem dX4_hearsIn_13 : decode cX4_hearsIn 13 = .ok (.aload_n 0, 1) := by decide +kernel
theorem dX4_hearsIn_14 : decode cX4_hearsIn 14 = .ok (.iload_n 1, 1) := by decide +kernel
theorem dX4_hearsIn_15 : decode cX4_hearsIn 15 = .ok (.iload_n 2, 1) := by decide +kernel
theorem dX4_hearsIn_16 : decode cX4_hearsIn 16 = .ok (.iload 4, 2) := by decide +kernel
theorem dX4_hearsIn_18 : decode cX4_hearsIn 18 = .ok (.invokevirtual 146, 3) := by decide +kernel
theorem dX4_hearsIn_21 : decode cX4_hearsIn 21 = .ok (.ifCond .eq 10, 3) := by decide +kernel
theorem dX4_hearsIn_24 : decode cX4_hearsIn 24 = .ok (.iconst 1, 1) := by decide +kernel
theorem dX4_hearsIn_25 : decode cX4_hearsIn 25 = .ok (.iload 4, 2) := by decide +kernel
theorem dX4_hearsIn_27 : decode cX4_hearsIn 27 = .ok (.ishl, 1) := by decide +kernel
theorem dX4_hearsIn_28 : decode cX4_hearsIn 28 = .ok (.goto 4, 3) := by decide +kernel
theorem dX4_hearsIn_31 : decode cX4_hearsIn 31 = .ok (.iconst 0, 1) := by decide +kernel
theorem dX4_hearsIn_32 : decode cX4_hearsIn 32 = .ok (.ior, 1) := by decide +kernel
theorem dX4_hearsIn_33 : decode cX4_hearsIn 33 = .ok (.istore_n 3, 1) := by decide +kernel
theorem dX4_hearsIn_34 : decode cX4_hearsIn 34 = .ok (.iinc 4 1, 3) := by decide +kernel
theorem dX4_hearsIn_37 : decode cX4_hearsIn 37 = .ok (.goto (-32), 3) := by decide +kernel
theorem dX4_hearsIn_40 : decode cX4_hearsIn 40 = .ok (.iload_n 3, 1) := by decide +kernel
theorem dX4_hearsIn_41 : decode cX4_hearsIn 41 = .ok (.ireturn, 1) := by decide +kernel
set_option maxRecDepth 20000 in
theorem ggX4_hears_X4_areTwo : GoodIn wsX4_hears wsX4_areTwo := goodIn_r _ [6, 7, 8, 9, 5, 10, 11, 12, 13, 14, 57, 58, 59, 60, 61, 62, 63, 64, 65, 66, 67, 68, 69, 70, 71, 72, 73, 74, 75, 76, 77, 78, 79, 80] (by decide +kernel) (by decide +kernel)
set_option maxRecDepth 20000 in
theorem gX4_hears_X4_areTwo : GoodIn wsX4_hears (wsV RX4 164 RX4 yX4_areTwo wsX4_areTwo) := goodIn_app (goodIn_of _ (by decide +kernel)) ggX4_hears_X4_areTwo
set_option maxRecDepth 20000 in
theorem ggX4_hears_X4_hearsIn : GoodIn wsX4_hears wsX4_hearsIn := goodIn_r _ [18, 19, 20, 21, 5, 22, 23, 24, 25, 26, 11, 27, 28, 29, 30, 31, 32, 33, 34, 35, 36, 37, 38, 39, 40, 41, 42, 43, 44, 45, 46, 47, 48, 49, 50, 51, 57, 58, 59, 60, 61, 62, 63, 64, 65, 66, 67, 68, 69, 70, 71, 72, 73, 74, 75, 76, 77, 78, 79, 80] (by decide +kernel) (by decide +kernel)
set_option maxRecDepth 20000 in
theorem gX4_hears_X4_hearsIn : GoodIn wsX4_hears (wsV RX4 170 RX4 yX4_hearsIn wsX4_hearsIn) := goodIn_app (goodIn_of _ (by decide +kernel)) ggX4_hears_X4_hearsIn
set_option maxRecDepth 20000 in
theorem ggX4_hears_X4_finding : GoodIn wsX4_hears wsX4_finding := goodIn_r _ [55, 56, 1, 57, 58, 59, 60, 61, 62, 63, 64, 65, 66, 67, 68, 69, 70, 71, 72, 73, 74, 75, 76, 77, 78, 79, 80] (by decide +kernel) (by decide +kernel)
set_option maxRecDepth 20000 in
theorem gX4_hears_X4_finding : GoodIn wsX4_hears (wsV RX4 78 RX4 yX4_finding wsX4_finding) := goodIn_app (goodIn_of _ (by decide +kernel)) ggX4_hears_X4_finding
theorem dX4_hears_0 : decode cX4_hears 0 = .ok (.aload_n 0, 1) := by decide +kernel
theorem dX4_hears_1 : decode cX4_hears 1 = .ok (.iload_n 1, 1) := by decide +kernel
theorem dX4_hears_2 : decode cX4_hears 2 = .ok (.iload_n 2, 1) := by decide +kernel
theorem dX4_hears_3 : decode cX4_hears 3 = .ok (.invokevirtual 164, 3) := by decide +kernel
theorem dX4_hears_6 : decode cX4_hears 6 = .ok (.ifCond .eq 12, 3) := by decide +kernel
theorem dX4_hears_9 : decode cX4_hears 9 = .ok (.aload_n 0, 1) := by decide +kernel
theorem dX4_hears_10 : decode cX4_hears 10 = .ok (.iload_n 1, 1) := by decide +kernel
theorem dX4_hears_11 : decode cX4_hears 11 = .ok (.iload_n 2, 1) := by decide +kernel
theorem dX4_hears_12 : decode cX4_hears 12 = .ok (.invokevirtual 170, 3) := by decide +kernel
theorem dX4_hears_15 : decode cX4_hears 15 = .ok (.goto 9, 3) := by decide +kernel
theorem dX4_hears_18 : decode cX4_hears 18 = .ok (.aload_n 0, 1) := by decide +kernel
theorem dX4_hears_19 : decode cX4_hears 19 = .ok (.ldc 72, 2) := by decide +kernel
theorem dX4_hears_21 : decode cX4_hears 21 = .ok (.invokevirtual 78, 3) := by decide +kernel
theorem dX4_hears_24 : decode cX4_hears 24 = .ok (.ireturn, 1) := by decide +kernel
set_option maxRecDepth 20000 in
theorem ggX4_hearing_X4_isPlayer : GoodIn wsX4_hearing wsX4_isPlayer := goodIn_r _ [6, 7, 8, 9, 5, 10, 56, 57, 58, 59, 60, 61, 62, 63, 64, 65, 66, 67, 68, 69, 70, 71, 72, 73, 74, 75, 76, 77, 78, 79] (by decide +kernel) (by decide +kernel)
set_option maxRecDepth 20000 in
theorem gX4_hearing_X4_isPlayer : GoodIn wsX4_hearing (wsV RX4 152 RX4 yX4_isPlayer wsX4_isPlayer) := goodIn_app (goodIn_of _ (by decide +kernel)) ggX4_hearing_X4_isPlayer
set_option maxRecDepth 20000 in
theorem ggX4_hearing_X4_isBar : GoodIn wsX4_hearing wsX4_isBar := goodIn_r _ [13, 8, 9, 5, 10] (by decide +kernel) (by decide +kernel)
set_option maxRecDepth 20000 in
theorem gX4_hearing_X4_isBar : GoodIn wsX4_hearing (va_wsS RX4 90 yX4_isBar wsX4_isBar) := goodIn_app (goodIn_of _ (by decide +kernel)) ggX4_hearing_X4_isBar
set_option maxRecDepth 20000 in
theorem ggX4_hearing_X4_hearingOf : GoodIn wsX4_hearing wsX4_hearingOf := goodIn_r _ [17, 7, 18, 19, 20, 5, 21, 22, 23, 24, 25, 26, 27, 28, 29, 30, 31, 32, 33, 34, 35, 36, 37, 38, 39, 40, 41, 42, 43, 44, 45, 46, 47, 48, 49, 50, 56, 57, 58, 59, 60, 61, 62, 63, 64, 65, 66, 67, 68, 69, 70, 71, 72, 73, 74, 75, 76, 77, 78, 79] (by decide +kernel) (by decide +kernel)
set_option maxRecDepth 20000 in
theorem gX4_hearing_X4_hearingOf : GoodIn wsX4_hearing (wsV RX4 149 RX4 yX4_hearingOf wsX4_hearingOf) := goodIn_app (goodIn_of _ (by decide +kernel)) ggX4_hearing_X4_hearingOf
set_option maxRecDepth 20000 in
theorem ggX4_hearing_X4_finding : GoodIn wsX4_hearing wsX4_finding := goodIn_r _ [54, 55, 1, 56, 57, 58, 59, 60, 61, 62, 63, 64, 65, 66, 67, 68, 69, 70, 71, 72, 73, 74, 75, 76, 77, 78, 79] (by decide +kernel) (by decide +kernel)
set_option maxRecDepth 20000 in
theorem gX4_hearing_X4_finding : GoodIn wsX4_hearing (wsV RX4 78 RX4 yX4_finding wsX4_finding) := goodIn_app (goodIn_of _ (by decide +kernel)) ggX4_hearing_X4_finding
theorem dX4_hearing_0 : decode cX4_hearing 0 = .ok (.aload_n 0, 1) := by decide +kernel
theorem dX4_hearing_1 : decode cX4_hearing 1 = .ok (.iload_n 1, 1) := by decide +kernel
theorem dX4_hearing_2 : decode cX4_hearing 2 = .ok (.invokevirtual 152, 3) := by decide +kernel
theorem dX4_hearing_5 : decode cX4_hearing 5 = .ok (.ifCond .eq 19, 3) := by decide +kernel
theorem dX4_hearing_8 : decode cX4_hearing 8 = .ok (.iload_n 2, 1) := by decide +kernel
theorem dX4_hearing_9 : decode cX4_hearing 9 = .ok (.invokestatic 90, 3) := by decide +kernel
theorem dX4_hearing_12 : decode cX4_hearing 12 = .ok (.ifCond .eq 12, 3) := by decide +kernel
theorem dX4_hearing_15 : decode cX4_hearing 15 = .ok (.aload_n 0, 1) := by decide +kernel
theorem dX4_hearing_16 : decode cX4_hearing 16 = .ok (.iload_n 1, 1) := by decide +kernel
theorem dX4_hearing_17 : decode cX4_hearing 17 = .ok (.iload_n 2, 1) := by decide +kernel
theorem dX4_hearing_18 : decode cX4_hearing 18 = .ok (.invokevirtual 149, 3) := by decide +kernel
theorem dX4_hearing_21 : decode cX4_hearing 21 = .ok (.goto 9, 3) := by decide +kernel
theorem dX4_hearing_24 : decode cX4_hearing 24 = .ok (.aload_n 0, 1) := by decide +kernel
theorem dX4_hearing_25 : decode cX4_hearing 25 = .ok (.ldc 72, 2) := by decide +kernel
theorem dX4_hearing_27 : decode cX4_hearing 27 = .ok (.invokevirtual 78, 3) := by decide +kernel
theorem dX4_hearing_30 : decode cX4_hearing 30 = .ok (.ireturn, 1) := by decide +kernel
set_option maxRecDepth 20000 in
theorem ggX4_playBar_X4_plays : GoodIn wsX4_playBar wsX4_plays := goodIn_r _ [14, 1, 15, 16, 17, 13, 18, 19, 20, 21, 22, 23, 24, 25, 26, 27, 28, 44, 45, 46, 47, 48, 49, 50, 51, 52, 53, 54, 55, 56, 57, 58, 59, 60, 61, 62, 63, 64, 65, 66, 67] (by decide +kernel) (by decide +kernel)
set_option maxRecDepth 20000 in
theorem gX4_playBar_X4_plays : GoodIn wsX4_playBar (wsV RX4 110 RX4 yX4_plays wsX4_plays) := goodIn_app (goodIn_of _ (by decide +kernel)) ggX4_playBar_X4_plays
set_option maxRecDepth 20000 in
theorem ggX4_playBar_X4_hearingOf : GoodIn wsX4_playBar wsX4_hearingOf := goodIn_r _ [32, 1, 33, 34, 35, 13, 36, 15, 16, 17, 18, 19, 20, 21, 37, 38, 39, 40, 41, 42, 5, 43, 7, 8, 9, 10, 11, 12, 14, 22, 23, 24, 25, 26, 27, 28, 44, 45, 46, 47, 48, 49, 50, 51, 52, 53, 54, 55, 56, 57, 58, 59, 60, 61, 62, 63, 64, 65, 66, 67] (by decide +kernel) (by decide +kernel)
set_option maxRecDepth 20000 in
theorem gX4_playBar_X4_hearingOf : GoodIn wsX4_playBar (wsV RX4 149 RX4 yX4_hearingOf wsX4_hearingOf) := goodIn_app (goodIn_of _ (by decide +kernel)) ggX4_playBar_X4_hearingOf
set_option maxRecDepth 20000 in
theorem ggX4_playBar_X4_playerIs : GoodIn wsX4_playBar wsX4_playerIs := goodIn_r _ [18, 1, 19, 20, 13, 21, 44, 45, 46, 47, 48, 49, 50, 51, 52, 53, 54, 55, 56, 57, 58, 59, 60, 61, 62, 63, 64, 65, 66, 67] (by decide +kernel) (by decide +kernel)
set_option maxRecDepth 20000 in
theorem gX4_playBar_X4_playerIs : GoodIn wsX4_playBar (wsV RX4 100 RX4 yX4_playerIs wsX4_playerIs) := goodIn_app (goodIn_of _ (by decide +kernel)) ggX4_playBar_X4_playerIs
set_option maxRecDepth 20000 in
theorem ggX4_playBar_X4_at : GoodIn wsX4_playBar wsX4_at := goodIn_r _ [21] (by decide +kernel) (by decide +kernel)
set_option maxRecDepth 20000 in
theorem gX4_playBar_X4_at : GoodIn wsX4_playBar (va_wsS RX4 86 yX4_at wsX4_at) := goodIn_app (goodIn_of _ (by decide +kernel)) ggX4_playBar_X4_at
theorem dX4_playBar_0 : decode cX4_playBar 0 = .ok (.iconst 0, 1) := by decide +kernel
theorem dX4_playBar_1 : decode cX4_playBar 1 = .ok (.istore_n 2, 1) := by decide +kernel
theorem dX4_playBar_2 : decode cX4_playBar 2 = .ok (.iload_n 2, 1) := by decide +kernel
theorem dX4_playBar_3 : decode cX4_playBar 3 = .ok (.aload_n 0, 1) := by decide +kernel
theorem dX4_playBar_4 : decode cX4_playBar 4 = .ok (.getfield 9, 3) := by decide +kernel
theorem dX4_playBar_7 : decode cX4_playBar 7 = .ok (.iconst 1, 1) := by decide +kernel
theorem dX4_playBar_8 : decode cX4_playBar 8 = .ok (.iaload, 1) := by decide +kernel
theorem dX4_playBar_9 : decode cX4_playBar 9 = .ok (.if_icmp .ge 61, 3) := by decide +kernel
theorem dX4_playBar_12 : decode cX4_playBar 12 = .ok (.aload_n 0, 1) := by decide +kernel
theorem dX4_playBar_13 : decode cX4_playBar 13 = .ok (.iload_n 2, 1) := by decide +kernel
theorem dX4_playBar_14 : decode cX4_playBar 14 = .ok (.iload_n 1, 1) := by decide +kernel
theorem dX4_playBar_15 : decode cX4_playBar 15 = .ok (.invokevirtual 110, 3) := by decide +kernel
theorem dX4_playBar_18 : decode cX4_playBar 18 = .ok (.ifCond .ne 7, 3) := by decide +kernel
theorem dX4_playBar_21 : decode cX4_playBar 21 = .ok (.iconst 0, 1) := by decide +kernel
theorem dX4_playBar_22 : decode cX4_playBar 22 = .ok (.goto 18, 3) := by decide +kernel
theorem dX4_playBar_25 : decode cX4_playBar 25 = .ok (.aload_n 0, 1) := by decide +kernel
theorem dX4_playBar_26 : decode cX4_playBar 26 = .ok (.iload_n 2, 1) := by decide +kernel
theorem dX4_playBar_27 : decode cX4_playBar 27 = .ok (.iload_n 1, 1) := by decide +kernel
theorem dX4_playBar_28 : decode cX4_playBar 28 = .ok (.invokevirtual 149, 3) := by decide +kernel
theorem dX4_playBar_31 : decode cX4_playBar 31 = .ok (.ifCond .eq 7, 3) := by decide +kernel
theorem dX4_playBar_34 : decode cX4_playBar 34 = .ok (.iconst 1, 1) := by decide +kernel
theorem dX4_playBar_35 : decode cX4_playBar 35 = .ok (.goto 5, 3) := by decide +kernel
theorem dX4_playBar_38 : decode cX4_playBar 38 = .ok (.bipush (-3), 2) := by decide +kernel
theorem dX4_playBar_40 : decode cX4_playBar 40 = .ok (.istore_n 3, 1) := by decide +kernel
theorem dX4_playBar_41 : decode cX4_playBar 41 = .ok (.aload_n 0, 1) := by decide +kernel
theorem dX4_playBar_42 : decode cX4_playBar 42 = .ok (.getfield 22, 3) := by decide +kernel
theorem dX4_playBar_45 : decode cX4_playBar 45 = .ok (.iload_n 2, 1) := by decide +kernel
theorem dX4_playBar_46 : decode cX4_playBar 46 = .ok (.iconst 0, 1) := by decide +kernel
theorem dX4_playBar_47 : decode cX4_playBar 47 = .ok (.bipush 99, 2) := by decide +kernel
theorem dX4_playBar_49 : decode cX4_playBar 49 = .ok (.aload_n 0, 1) := by decide +kernel
theorem dX4_playBar_50 : decode cX4_playBar 50 = .ok (.iload_n 2, 1) := by decide +kernel
theorem dX4_playBar_51 : decode cX4_playBar 51 = .ok (.iconst 4, 1) := by decide +kernel
theorem dX4_playBar_52 : decode cX4_playBar 52 = .ok (.invokevirtual 100, 3) := by decide +kernel
theorem dX4_playBar_55 : decode cX4_playBar 55 = .ok (.iload_n 3, 1) := by decide +kernel
theorem dX4_playBar_56 : decode cX4_playBar 56 = .ok (.iadd, 1) := by decide +kernel
theorem dX4_playBar_57 : decode cX4_playBar 57 = .ok (.invokestatic 173, 3) := by decide +kernel
theorem dX4_playBar_60 : decode cX4_playBar 60 = .ok (.invokestatic 118, 3) := by decide +kernel
theorem dX4_playBar_63 : decode cX4_playBar 63 = .ok (.iastore, 1) := by decide +kernel
theorem dX4_playBar_64 : decode cX4_playBar 64 = .ok (.iinc 2 1, 3) := by decide +kernel
theorem dX4_playBar_67 : decode cX4_playBar 67 = .ok (.goto (-65), 3) := by decide +kernel
theorem dX4_playBar_70 : decode cX4_playBar 70 = .ok (.iconst 0, 1) := by decide +kernel
theorem dX4_playBar_71 : decode cX4_playBar 71 = .ok (.istore_n 2, 1) := by decide +kernel
theorem dX4_playBar_72 : decode cX4_playBar 72 = .ok (.iload_n 2, 1) := by decide +kernel
theorem dX4_playBar_73 : decode cX4_playBar 73 = .ok (.aload_n 0, 1) := by decide +kernel
theorem dX4_playBar_74 : decode cX4_playBar 74 = .ok (.getfield 9, 3) := by decide +kernel
theorem dX4_playBar_77 : decode cX4_playBar 77 = .ok (.iconst 1, 1) := by decide +kernel
theorem dX4_playBar_78 : decode cX4_playBar 78 = .ok (.iaload, 1) := by decide +kernel
theorem dX4_playBar_79 : decode cX4_playBar 79 = .ok (.if_icmp .ge 25, 3) := by decide +kernel
theorem dX4_playBar_82 : decode cX4_playBar 82 = .ok (.aload_n 0, 1) := by decide +kernel
theorem dX4_playBar_83 : decode cX4_playBar 83 = .ok (.getfield 9, 3) := by decide +kernel
theorem dX4_playBar_86 : decode cX4_playBar 86 = .ok (.iload_n 2, 1) := by decide +kernel
theorem dX4_playBar_87 : decode cX4_playBar 87 = .ok (.iconst 4, 1) := by decide +kernel
theorem dX4_playBar_88 : decode cX4_playBar 88 = .ok (.invokestatic 86, 3) := by decide +kernel
theorem dX4_playBar_91 : decode cX4_playBar 91 = .ok (.aload_n 0, 1) := by decide +kernel
theorem dX4_playBar_92 : decode cX4_playBar 92 = .ok (.getfield 22, 3) := by decide +kernel
theorem dX4_playBar_95 : decode cX4_playBar 95 = .ok (.iload_n 2, 1) := by decide +kernel
theorem dX4_playBar_96 : decode cX4_playBar 96 = .ok (.iaload, 1) := by decide +kernel
theorem dX4_playBar_97 : decode cX4_playBar 97 = .ok (.iastore, 1) := by decide +kernel
theorem dX4_playBar_98 : decode cX4_playBar 98 = .ok (.iinc 2 1, 3) := by decide +kernel
theorem dX4_playBar_101 : decode cX4_playBar 101 = .ok (.goto (-29), 3) := by decide +kernel
theorem dX4_playBar_104 : decode cX4_playBar 104 = .ok (.return_, 1) := by decide +kernel
set_option maxRecDepth 20000 in
theorem ggX4_evening_X4_playBar : GoodIn wsX4_evening wsX4_playBar := goodIn_r _ [6, 1, 7, 8, 9, 10, 11, 12, 13, 14, 15, 16, 17, 5, 18, 19, 20, 21, 22, 23, 24, 25, 26, 27, 28, 29, 30, 31, 32, 33, 34, 35, 36, 37, 38, 39, 40, 41, 42, 43, 44, 45, 46, 47, 48, 49, 50, 51, 52, 53, 54, 55, 56, 57, 58, 59, 60, 61, 62, 63, 64, 65, 66, 67, 68, 69, 70, 71] (by decide +kernel) (by decide +kernel)
set_option maxRecDepth 20000 in
theorem gX4_evening_X4_playBar : GoodIn wsX4_evening (wsV RX4 176 RX4 yX4_playBar wsX4_playBar) := goodIn_app (goodIn_of _ (by decide +kernel)) ggX4_evening_X4_playBar
set_option maxRecDepth 20000 in
theorem ggX4_evening_X4_at : GoodIn wsX4_evening wsX4_at := goodIn_r _ [25] (by decide +kernel) (by decide +kernel)
set_option maxRecDepth 20000 in
theorem gX4_evening_X4_at : GoodIn wsX4_evening (va_wsS RX4 86 yX4_at wsX4_at) := goodIn_app (goodIn_of _ (by decide +kernel)) ggX4_evening_X4_at
set_option maxRecDepth 20000 in
theorem ggX4_evening_X4_playerIs : GoodIn wsX4_evening wsX4_playerIs := goodIn_r _ [22, 1, 23, 24, 5, 25, 48, 49, 50, 51, 52, 53, 54, 55, 56, 57, 58, 59, 60, 61, 62, 63, 64, 65, 66, 67, 68, 69, 70, 71] (by decide +kernel) (by decide +kernel)
set_option maxRecDepth 20000 in
theorem gX4_evening_X4_playerIs : GoodIn wsX4_evening (wsV RX4 100 RX4 yX4_playerIs wsX4_playerIs) := goodIn_app (goodIn_of _ (by decide +kernel)) ggX4_evening_X4_playerIs
theorem dX4_evening_0 : decode cX4_evening 0 = .ok (.iconst 0, 1) := by decide +kernel
theorem dX4_evening_1 : decode cX4_evening 1 = .ok (.istore_n 1, 1) := by decide +kernel
theorem dX4_evening_2 : decode cX4_evening 2 = .ok (.iload_n 1, 1) := by decide +kernel
theorem dX4_evening_3 : decode cX4_evening 3 = .ok (.bipush 12, 2) := by decide +kernel
theorem dX4_evening_5 : decode cX4_evening 5 = .ok (.if_icmp .ge 14, 3) := by decide +kernel
theorem dX4_evening_8 : decode cX4_evening 8 = .ok (.aload_n 0, 1) := by decide +kernel
theorem dX4_evening_9 : decode cX4_evening 9 = .ok (.iload_n 1, 1) := by decide +kernel
theorem dX4_evening_10 : decode cX4_evening 10 = .ok (.invokevirtual 176, 3) := by decide +kernel
theorem dX4_evening_13 : decode cX4_evening 13 = .ok (.iinc 1 1, 3) := by decide +kernel
theorem dX4_evening_16 : decode cX4_evening 16 = .ok (.goto (-14), 3) := by decide +kernel
theorem dX4_evening_19 : decode cX4_evening 19 = .ok (.iconst 0, 1) := by decide +kernel
theorem dX4_evening_20 : decode cX4_evening 20 = .ok (.istore_n 1, 1) := by decide +kernel
theorem dX4_evening_21 : decode cX4_evening 21 = .ok (.iload_n 1, 1) := by decide +kernel
theorem dX4_evening_22 : decode cX4_evening 22 = .ok (.aload_n 0, 1) := by decide +kernel
theorem dX4_evening_23 : decode cX4_evening 23 = .ok (.getfield 9, 3) := by decide +kernel
theorem dX4_evening_26 : decode cX4_evening 26 = .ok (.iconst 1, 1) := by decide +kernel
theorem dX4_evening_27 : decode cX4_evening 27 = .ok (.iaload, 1) := by decide +kernel
theorem dX4_evening_28 : decode cX4_evening 28 = .ok (.if_icmp .ge 45, 3) := by decide +kernel
theorem dX4_evening_31 : decode cX4_evening 31 = .ok (.aload_n 0, 1) := by decide +kernel
theorem dX4_evening_32 : decode cX4_evening 32 = .ok (.getfield 9, 3) := by decide +kernel
theorem dX4_evening_35 : decode cX4_evening 35 = .ok (.iload_n 1, 1) := by decide +kernel
theorem dX4_evening_36 : decode cX4_evening 36 = .ok (.iconst 3, 1) := by decide +kernel
theorem dX4_evening_37 : decode cX4_evening 37 = .ok (.invokestatic 86, 3) := by decide +kernel
theorem dX4_evening_40 : decode cX4_evening 40 = .ok (.dup2, 1) := by decide +kernel
theorem dX4_evening_41 : decode cX4_evening 41 = .ok (.iaload, 1) := by decide +kernel
theorem dX4_evening_42 : decode cX4_evening 42 = .ok (.aload_n 0, 1) := by decide +kernel
theorem dX4_evening_43 : decode cX4_evening 43 = .ok (.iload_n 1, 1) := by decide +kernel
theorem dX4_evening_44 : decode cX4_evening 44 = .ok (.iconst 4, 1) := by decide +kernel
theorem dX4_evening_45 : decode cX4_evening 45 = .ok (.invokevirtual 100, 3) := by decide +kernel
theorem dX4_evening_48 : decode cX4_evening 48 = .ok (.ifCond .ne 16, 3) := by decide +kernel
theorem dX4_evening_51 : decode cX4_evening 51 = .ok (.aload_n 0, 1) := by decide +kernel
theorem dX4_evening_52 : decode cX4_evening 52 = .ok (.iload_n 1, 1) := by decide +kernel
theorem dX4_evening_53 : decode cX4_evening 53 = .ok (.iconst 3, 1) := by decide +kernel
theorem dX4_evening_54 : decode cX4_evening 54 = .ok (.invokevirtual 100, 3) := by decide +kernel
theorem dX4_evening_57 : decode cX4_evening 57 = .ok (.ifCond .le 7, 3) := by decide +kernel
theorem dX4_evening_60 : decode cX4_evening 60 = .ok (.iconst 1, 1) := by decide +kernel
theorem dX4_evening_61 : decode cX4_evening 61 = .ok (.goto 4, 3) := by decide +kernel
theorem dX4_evening_64 : decode cX4_evening 64 = .ok (.iconst 0, 1) := by decide +kernel
theorem dX4_evening_65 : decode cX4_evening 65 = .ok (.isub, 1) := by decide +kernel
theorem dX4_evening_66 : decode cX4_evening 66 = .ok (.iastore, 1) := by decide +kernel
theorem dX4_evening_67 : decode cX4_evening 67 = .ok (.iinc 1 1, 3) := by decide +kernel
theorem dX4_evening_70 : decode cX4_evening 70 = .ok (.goto (-49), 3) := by decide +kernel
theorem dX4_evening_73 : decode cX4_evening 73 = .ok (.aload_n 0, 1) := by decide +kernel
theorem dX4_evening_74 : decode cX4_evening 74 = .ok (.getfield 9, 3) := by decide +kernel
theorem dX4_evening_77 : decode cX4_evening 77 = .ok (.iconst 0, 1) := by decide +kernel
theorem dX4_evening_78 : decode cX4_evening 78 = .ok (.dup2, 1) := by decide +kernel
theorem dX4_evening_79 : decode cX4_evening 79 = .ok (.iaload, 1) := by decide +kernel
theorem dX4_evening_80 : decode cX4_evening 80 = .ok (.iconst 1, 1) := by decide +kernel
theorem dX4_evening_81 : decode cX4_evening 81 = .ok (.iadd, 1) := by decide +kernel
theorem dX4_evening_82 : decode cX4_evening 82 = .ok (.iastore, 1) := by decide +kernel
theorem dX4_evening_83 : decode cX4_evening 83 = .ok (.return_, 1) := by decide +kernel
set_option maxRecDepth 20000 in
theorem ggX4_evenings_X4_evening : GoodIn wsX4_evenings wsX4_evening := goodIn_r _ [5, 6, 7, 8, 9, 4, 10, 11, 12, 13, 14, 15, 16, 17, 18, 19, 20, 21, 22, 23, 24, 25, 26, 27, 28, 29, 30, 31, 32, 33, 34, 35, 36, 37, 38, 39, 40, 41, 42, 43, 44, 45, 46, 47, 48, 49, 50, 51, 52, 53, 54, 55, 56, 57, 58, 59, 60, 61, 62, 63, 64, 65, 66, 67, 68, 69, 70, 71, 72, 73, 74, 75] (by decide +kernel) (by decide +kernel)
set_option maxRecDepth 20000 in
theorem gX4_evenings_X4_evening : GoodIn wsX4_evenings (wsV RX4 180 RX4 yX4_evening wsX4_evening) := goodIn_app (goodIn_of _ (by decide +kernel)) ggX4_evenings_X4_evening
theorem dX4_evenings_0 : decode cX4_evenings 0 = .ok (.iconst 0, 1) := by decide +kernel
theorem dX4_evenings_1 : decode cX4_evenings 1 = .ok (.istore_n 2, 1) := by decide +kernel
theorem dX4_evenings_2 : decode cX4_evenings 2 = .ok (.iload_n 2, 1) := by decide +kernel
theorem dX4_evenings_3 : decode cX4_evenings 3 = .ok (.iload_n 1, 1) := by decide +kernel
theorem dX4_evenings_4 : decode cX4_evenings 4 = .ok (.if_icmp .ge 13, 3) := by decide +kernel
theorem dX4_evenings_7 : decode cX4_evenings 7 = .ok (.aload_n 0, 1) := by decide +kernel
theorem dX4_evenings_8 : decode cX4_evenings 8 = .ok (.invokevirtual 180, 3) := by decide +kernel
theorem dX4_evenings_11 : decode cX4_evenings 11 = .ok (.iinc 2 1, 3) := by decide +kernel
theorem dX4_evenings_14 : decode cX4_evenings 14 = .ok (.goto (-12), 3) := by decide +kernel
theorem dX4_evenings_17 : decode cX4_evenings 17 = .ok (.return_, 1) := by decide +kernel
set_option maxRecDepth 20000 in
theorem ggX4_sumOf_X4_playerIs : GoodIn wsX4_sumOf wsX4_playerIs := goodIn_r _ [6, 1, 7, 8, 5, 9, 10, 11, 12, 13, 14, 15, 16, 17, 18, 19, 20, 21, 22, 23, 24, 25, 26, 27, 28, 29, 30, 31, 32, 33] (by decide +kernel) (by decide +kernel)
set_option maxRecDepth 20000 in
theorem gX4_sumOf_X4_playerIs : GoodIn wsX4_sumOf (wsV RX4 100 RX4 yX4_playerIs wsX4_playerIs) := goodIn_app (goodIn_of _ (by decide +kernel)) ggX4_sumOf_X4_playerIs
theorem dX4_sumOf_0 : decode cX4_sumOf 0 = .ok (.iconst 0, 1) := by decide +kernel
theorem dX4_sumOf_1 : decode cX4_sumOf 1 = .ok (.istore_n 2, 1) := by decide +kernel
theorem dX4_sumOf_2 : decode cX4_sumOf 2 = .ok (.iconst 0, 1) := by decide +kernel
theorem dX4_sumOf_3 : decode cX4_sumOf 3 = .ok (.istore_n 3, 1) := by decide +kernel
theorem dX4_sumOf_4 : decode cX4_sumOf 4 = .ok (.iload_n 3, 1) := by decide +kernel
theorem dX4_sumOf_5 : decode cX4_sumOf 5 = .ok (.aload_n 0, 1) := by decide +kernel
theorem dX4_sumOf_6 : decode cX4_sumOf 6 = .ok (.getfield 9, 3) := by decide +kernel
theorem dX4_sumOf_9 : decode cX4_sumOf 9 = .ok (.iconst 1, 1) := by decide +kernel
theorem dX4_sumOf_10 : decode cX4_sumOf 10 = .ok (.iaload, 1) := by decide +kernel
theorem dX4_sumOf_11 : decode cX4_sumOf 11 = .ok (.if_icmp .ge 18, 3) := by decide +kernel
theorem dX4_sumOf_14 : decode cX4_sumOf 14 = .ok (.iload_n 2, 1) := by decide +kernel
theorem dX4_sumOf_15 : decode cX4_sumOf 15 = .ok (.aload_n 0, 1) := by decide +kernel
theorem dX4_sumOf_16 : decode cX4_sumOf 16 = .ok (.iload_n 3, 1) := by decide +kernel
theorem dX4_sumOf_17 : decode cX4_sumOf 17 = .ok (.iload_n 1, 1) := by decide +kernel
theorem dX4_sumOf_18 : decode cX4_sumOf 18 = .ok (.invokevirtual 100, 3) := by decide +kernel
theorem dX4_sumOf_21 : decode cX4_sumOf 21 = .ok (.iadd, 1) := by decide +kernel
theorem dX4_sumOf_22 : decode cX4_sumOf 22 = .ok (.istore_n 2, 1) := by decide +kernel
theorem dX4_sumOf_23 : decode cX4_sumOf 23 = .ok (.iinc 3 1, 3) := by decide +kernel
theorem dX4_sumOf_26 : decode cX4_sumOf 26 = .ok (.goto (-22), 3) := by decide +kernel
theorem dX4_sumOf_29 : decode cX4_sumOf 29 = .ok (.iload_n 2, 1) := by decide +kernel
theorem dX4_sumOf_30 : decode cX4_sumOf 30 = .ok (.ireturn, 1) := by decide +kernel
set_option maxRecDepth 20000 in
theorem ggX4_go_X4_within : GoodIn wsX4_go wsX4_within := goodIn_r _ [8] (by decide +kernel) (by decide +kernel)
set_option maxRecDepth 20000 in
theorem gX4_go_X4_within : GoodIn wsX4_go (va_wsS RX4 82 yX4_within wsX4_within) := goodIn_app (goodIn_of _ (by decide +kernel)) ggX4_go_X4_within
set_option maxRecDepth 20000 in
theorem ggX4_go_X4_finding : GoodIn wsX4_go wsX4_finding := goodIn_r _ [12, 13, 1, 71, 72, 73, 74, 75, 76, 77, 78, 79, 80, 81, 82, 83, 84, 85, 86, 87, 88, 89, 90, 91, 92, 93, 94] (by decide +kernel) (by decide +kernel)
set_option maxRecDepth 20000 in
theorem gX4_go_X4_finding : GoodIn wsX4_go (wsV RX4 78 RX4 yX4_finding wsX4_finding) := goodIn_app (goodIn_of _ (by decide +kernel)) ggX4_go_X4_finding
set_option maxRecDepth 20000 in
theorem ggX4_go_X4_evenings : GoodIn wsX4_go wsX4_evenings := goodIn_r _ [17, 18, 19, 20, 7, 21, 2, 22, 23, 24, 25, 26, 27, 28, 29, 30, 31, 32, 33, 34, 35, 36, 37, 38, 39, 40, 41, 42, 43, 44, 45, 46, 47, 48, 49, 50, 51, 52, 53, 54, 55, 56, 57, 58, 59, 60, 61, 62, 63, 64, 65, 66, 71, 72, 73, 74, 75, 76, 77, 78, 79, 80, 81, 82, 83, 84, 85, 86, 87, 88, 89, 90, 91, 92, 93, 94] (by decide +kernel) (by decide +kernel)
set_option maxRecDepth 20000 in
theorem gX4_go_X4_evenings : GoodIn wsX4_go (wsV RX4 185 RX4 yX4_evenings wsX4_evenings) := goodIn_app (goodIn_of _ (by decide +kernel)) ggX4_go_X4_evenings
set_option maxRecDepth 20000 in
theorem ggX4_go_X4_sumOf : GoodIn wsX4_go wsX4_sumOf := goodIn_r _ [70, 2, 38, 39, 40, 7, 41, 42, 43, 44, 71, 72, 73, 74, 75, 76, 77, 78, 79, 80, 81, 82, 83, 84, 85, 86, 87, 88, 89, 90, 91, 92, 93, 94] (by decide +kernel) (by decide +kernel)
set_option maxRecDepth 20000 in
theorem gX4_go_X4_sumOf : GoodIn wsX4_go (wsV RX4 188 RX4 yX4_sumOf wsX4_sumOf) := goodIn_app (goodIn_of _ (by decide +kernel)) ggX4_go_X4_sumOf
theorem dX4_go_0 : decode cX4_go 0 = .ok (.iload_n 1, 1) := by decide +kernel
theorem dX4_go_1 : decode cX4_go 1 = .ok (.iconst 1, 1) := by decide +kernel
theorem dX4_go_2 : decode cX4_go 2 = .ok (.bipush 20, 2) := by decide +kernel
theorem dX4_go_4 : decode cX4_go 4 = .ok (.invokestatic 82, 3) := by decide +kernel
theorem dX4_go_7 : decode cX4_go 7 = .ok (.ifCond .ne 10, 3) := by decide +kernel
theorem dX4_go_10 : decode cX4_go 10 = .ok (.aload_n 0, 1) := by decide +kernel
theorem dX4_go_11 : decode cX4_go 11 = .ok (.ldc 72, 2) := by decide +kernel
theorem dX4_go_13 : decode cX4_go 13 = .ok (.invokevirtual 78, 3) := by decide +kernel
theorem dX4_go_16 : decode cX4_go 16 = .ok (.ireturn, 1) := by decide +kernel
theorem dX4_go_17 : decode cX4_go 17 = .ok (.aload_n 0, 1) := by decide +kernel
theorem dX4_go_18 : decode cX4_go 18 = .ok (.getfield 9, 3) := by decide +kernel
theorem dX4_go_21 : decode cX4_go 21 = .ok (.iconst 0, 1) := by decide +kernel
theorem dX4_go_22 : decode cX4_go 22 = .ok (.iaload, 1) := by decide +kernel
theorem dX4_go_23 : decode cX4_go 23 = .ok (.iload_n 1, 1) := by decide +kernel
theorem dX4_go_24 : decode cX4_go 24 = .ok (.iadd, 1) := by decide +kernel
theorem dX4_go_25 : decode cX4_go 25 = .ok (.ldc 183, 2) := by decide +kernel
theorem dX4_go_27 : decode cX4_go 27 = .ok (.if_icmp .le 10, 3) := by decide +kernel
theorem dX4_go_30 : decode cX4_go 30 = .ok (.aload_n 0, 1) := by decide +kernel
theorem dX4_go_31 : decode cX4_go 31 = .ok (.ldc 184, 2) := by decide +kernel
theorem dX4_go_33 : decode cX4_go 33 = .ok (.invokevirtual 78, 3) := by decide +kernel
theorem dX4_go_36 : decode cX4_go 36 = .ok (.ireturn, 1) := by decide +kernel
theorem dX4_go_37 : decode cX4_go 37 = .ok (.aload_n 0, 1) := by decide +kernel
theorem dX4_go_38 : decode cX4_go 38 = .ok (.iload_n 1, 1) := by decide +kernel
theorem dX4_go_39 : decode cX4_go 39 = .ok (.invokevirtual 185, 3) := by decide +kernel
theorem dX4_go_42 : decode cX4_go 42 = .ok (.aload_n 0, 1) := by decide +kernel
theorem dX4_go_43 : decode cX4_go 43 = .ok (.iconst 4, 1) := by decide +kernel
theorem dX4_go_44 : decode cX4_go 44 = .ok (.invokevirtual 188, 3) := by decide +kernel
theorem dX4_go_47 : decode cX4_go 47 = .ok (.ireturn, 1) := by decide +kernel
set_option maxRecDepth 20000 in
theorem ggX4_downNow_X4_playerIs : GoodIn wsX4_downNow wsX4_playerIs := goodIn_r _ [6, 1, 7, 8, 5, 9, 10, 11, 12, 13, 14, 15, 16, 17, 18, 19, 20, 21, 22, 23, 24, 25, 26, 27, 28, 29, 30, 31, 32, 33] (by decide +kernel) (by decide +kernel)
set_option maxRecDepth 20000 in
theorem gX4_downNow_X4_playerIs : GoodIn wsX4_downNow (wsV RX4 100 RX4 yX4_playerIs wsX4_playerIs) := goodIn_app (goodIn_of _ (by decide +kernel)) ggX4_downNow_X4_playerIs
theorem dX4_downNow_0 : decode cX4_downNow 0 = .ok (.iconst 0, 1) := by decide +kernel
theorem dX4_downNow_1 : decode cX4_downNow 1 = .ok (.istore_n 1, 1) := by decide +kernel
theorem dX4_downNow_2 : decode cX4_downNow 2 = .ok (.iconst 0, 1) := by decide +kernel
theorem dX4_downNow_3 : decode cX4_downNow 3 = .ok (.istore_n 2, 1) := by decide +kernel
theorem dX4_downNow_4 : decode cX4_downNow 4 = .ok (.iload_n 2, 1) := by decide +kernel
theorem dX4_downNow_5 : decode cX4_downNow 5 = .ok (.aload_n 0, 1) := by decide +kernel
theorem dX4_downNow_6 : decode cX4_downNow 6 = .ok (.getfield 9, 3) := by decide +kernel
theorem dX4_downNow_9 : decode cX4_downNow 9 = .ok (.iconst 1, 1) := by decide +kernel
theorem dX4_downNow_10 : decode cX4_downNow 10 = .ok (.iaload, 1) := by decide +kernel
theorem dX4_downNow_11 : decode cX4_downNow 11 = .ok (.if_icmp .ge 28, 3) := by decide +kernel
theorem dX4_downNow_14 : decode cX4_downNow 14 = .ok (.iload_n 1, 1) := by decide +kernel
theorem dX4_downNow_15 : decode cX4_downNow 15 = .ok (.aload_n 0, 1) := by decide +kernel
theorem dX4_downNow_16 : decode cX4_downNow 16 = .ok (.iload_n 2, 1) := by decide +kernel
theorem dX4_downNow_17 : decode cX4_downNow 17 = .ok (.iconst 4, 1) := by decide +kernel
