theorem dX4_stays_10 : decode cX4_stays 10 = .ok (.iaload, 1) := by decide +kernel
theorem dX4_stays_11 : decode cX4_stays 11 = .ok (.aload_n 0, 1) := by decide +kernel
theorem dX4_stays_12 : decode cX4_stays 12 = .ok (.getfield 23, 3) := by decide +kernel
theorem dX4_stays_15 : decode cX4_stays 15 = .ok (.iload_n 1, 1) := by decide +kernel
theorem dX4_stays_16 : decode cX4_stays 16 = .ok (.iload_n 2, 1) := by decide +kernel
theorem dX4_stays_17 : decode cX4_stays 17 = .ok (.iload_n 3, 1) := by decide +kernel
theorem dX4_stays_18 : decode cX4_stays 18 = .ok (.iconst 1, 1) := by decide +kernel
theorem dX4_stays_19 : decode cX4_stays 19 = .ok (.isub, 1) := by decide +kernel
theorem dX4_stays_20 : decode cX4_stays 20 = .ok (.invokestatic 62, 3) := by decide +kernel
theorem dX4_stays_23 : decode cX4_stays 23 = .ok (.iaload, 1) := by decide +kernel
theorem dX4_stays_24 : decode cX4_stays 24 = .ok (.if_icmp .ne 7, 3) := by decide +kernel
theorem dX4_stays_27 : decode cX4_stays 27 = .ok (.iconst 1, 1) := by decide +kernel
theorem dX4_stays_28 : decode cX4_stays 28 = .ok (.goto 4, 3) := by decide +kernel
theorem dX4_stays_31 : decode cX4_stays 31 = .ok (.iconst 0, 1) := by decide +kernel
theorem dX4_stays_32 : decode cX4_stays 32 = .ok (.ireturn, 1) := by decide +kernel
set_option maxRecDepth 20000 in
theorem ggX4_leap_X4_at : GoodIn wsX4_leap wsX4_at := goodIn_r _ [5] (by decide +kernel) (by decide +kernel)
set_option maxRecDepth 20000 in
theorem gX4_leap_X4_at : GoodIn wsX4_leap (va_wsS RX4 62 yX4_at wsX4_at) := goodIn_app (goodIn_of _ (by decide +kernel)) ggX4_leap_X4_at
set_option maxRecDepth 20000 in
theorem ggX4_leap_X4_away : GoodIn wsX4_leap wsX4_away := goodIn_r _ [8] (by decide +kernel) (by decide +kernel)
set_option maxRecDepth 20000 in
theorem gX4_leap_X4_away : GoodIn wsX4_leap (va_wsS RX4 84 yX4_away wsX4_away) := goodIn_app (goodIn_of _ (by decide +kernel)) ggX4_leap_X4_away
theorem dX4_leap_0 : decode cX4_leap 0 = .ok (.aload_n 0, 1) := by decide +kernel
theorem dX4_leap_1 : decode cX4_leap 1 = .ok (.getfield 23, 3) := by decide +kernel
theorem dX4_leap_4 : decode cX4_leap 4 = .ok (.iload_n 1, 1) := by decide +kernel
theorem dX4_leap_5 : decode cX4_leap 5 = .ok (.iload_n 2, 1) := by decide +kernel
theorem dX4_leap_6 : decode cX4_leap 6 = .ok (.iload_n 3, 1) := by decide +kernel
theorem dX4_leap_7 : decode cX4_leap 7 = .ok (.invokestatic 62, 3) := by decide +kernel
theorem dX4_leap_10 : decode cX4_leap 10 = .ok (.iaload, 1) := by decide +kernel
theorem dX4_leap_11 : decode cX4_leap 11 = .ok (.aload_n 0, 1) := by decide +kernel
theorem dX4_leap_12 : decode cX4_leap 12 = .ok (.getfield 23, 3) := by decide +kernel
theorem dX4_leap_15 : decode cX4_leap 15 = .ok (.iload_n 1, 1) := by decide +kernel
theorem dX4_leap_16 : decode cX4_leap 16 = .ok (.iload_n 2, 1) := by decide +kernel
theorem dX4_leap_17 : decode cX4_leap 17 = .ok (.iload_n 3, 1) := by decide +kernel
theorem dX4_leap_18 : decode cX4_leap 18 = .ok (.iconst 1, 1) := by decide +kernel
theorem dX4_leap_19 : decode cX4_leap 19 = .ok (.isub, 1) := by decide +kernel
theorem dX4_leap_20 : decode cX4_leap 20 = .ok (.invokestatic 62, 3) := by decide +kernel
theorem dX4_leap_23 : decode cX4_leap 23 = .ok (.iaload, 1) := by decide +kernel
theorem dX4_leap_24 : decode cX4_leap 24 = .ok (.invokestatic 84, 3) := by decide +kernel
theorem dX4_leap_27 : decode cX4_leap 27 = .ok (.bipush 9, 2) := by decide +kernel
theorem dX4_leap_29 : decode cX4_leap 29 = .ok (.if_icmp .le 7, 3) := by decide +kernel
theorem dX4_leap_32 : decode cX4_leap 32 = .ok (.iconst 1, 1) := by decide +kernel
theorem dX4_leap_33 : decode cX4_leap 33 = .ok (.goto 4, 3) := by decide +kernel
theorem dX4_leap_36 : decode cX4_leap 36 = .ok (.iconst 0, 1) := by decide +kernel
theorem dX4_leap_37 : decode cX4_leap 37 = .ok (.ireturn, 1) := by decide +kernel
set_option maxRecDepth 20000 in
theorem ggX4_faultsAt_X4_interval : GoodIn wsX4_faultsAt wsX4_interval := goodIn_r _ [7, 1, 8, 9, 6, 10, 11, 12, 13, 22, 23, 24, 25, 26, 27, 28, 29, 30, 31, 32, 33, 34, 35] (by decide +kernel) (by decide +kernel)
set_option maxRecDepth 20000 in
theorem gX4_faultsAt_X4_interval : GoodIn wsX4_faultsAt (wsV RX4 87 RX4 yX4_interval wsX4_interval) := goodIn_app (goodIn_of _ (by decide +kernel)) ggX4_faultsAt_X4_interval
set_option maxRecDepth 20000 in
theorem ggX4_faultsAt_X4_stays : GoodIn wsX4_faultsAt wsX4_stays := goodIn_r _ [17, 1, 8, 9, 6, 10, 22, 23, 24, 25, 26, 27, 28, 29, 30, 31, 32, 33, 34, 35] (by decide +kernel) (by decide +kernel)
set_option maxRecDepth 20000 in
theorem gX4_faultsAt_X4_stays : GoodIn wsX4_faultsAt (wsV RX4 90 RX4 yX4_stays wsX4_stays) := goodIn_app (goodIn_of _ (by decide +kernel)) ggX4_faultsAt_X4_stays
set_option maxRecDepth 20000 in
theorem ggX4_faultsAt_X4_leap : GoodIn wsX4_faultsAt wsX4_leap := goodIn_r _ [21, 1, 8, 9, 6, 10, 11, 12, 13, 22, 23, 24, 25, 26, 27, 28, 29, 30, 31, 32, 33, 34, 35] (by decide +kernel) (by decide +kernel)
set_option maxRecDepth 20000 in
theorem gX4_faultsAt_X4_leap : GoodIn wsX4_faultsAt (wsV RX4 93 RX4 yX4_leap wsX4_leap) := goodIn_app (goodIn_of _ (by decide +kernel)) ggX4_faultsAt_X4_leap
set_option maxRecDepth 20000 in
theorem ggX4_faultsAt_X4_at : GoodIn wsX4_faultsAt wsX4_at := goodIn_r _ [10] (by decide +kernel) (by decide +kernel)
set_option maxRecDepth 20000 in
theorem gX4_faultsAt_X4_at : GoodIn wsX4_faultsAt (va_wsS RX4 62 yX4_at wsX4_at) := goodIn_app (goodIn_of _ (by decide +kernel)) ggX4_faultsAt_X4_at
theorem dX4_faultsAt_0 : decode cX4_faultsAt 0 = .ok (.aload_n 0, 1) := by decide +kernel
theorem dX4_faultsAt_1 : decode cX4_faultsAt 1 = .ok (.iload_n 1, 1) := by decide +kernel
theorem dX4_faultsAt_2 : decode cX4_faultsAt 2 = .ok (.iload_n 2, 1) := by decide +kernel
theorem dX4_faultsAt_3 : decode cX4_faultsAt 3 = .ok (.invokevirtual 87, 3) := by decide +kernel
theorem dX4_faultsAt_6 : decode cX4_faultsAt 6 = .ok (.istore 4, 2) := by decide +kernel
theorem dX4_faultsAt_8 : decode cX4_faultsAt 8 = .ok (.iload 4, 2) := by decide +kernel
theorem dX4_faultsAt_10 : decode cX4_faultsAt 10 = .ok (.ifCond .eq 10, 3) := by decide +kernel
theorem dX4_faultsAt_13 : decode cX4_faultsAt 13 = .ok (.iload 4, 2) := by decide +kernel
theorem dX4_faultsAt_15 : decode cX4_faultsAt 15 = .ok (.bipush 7, 2) := by decide +kernel
theorem dX4_faultsAt_17 : decode cX4_faultsAt 17 = .ok (.if_icmp .ne 7, 3) := by decide +kernel
theorem dX4_faultsAt_20 : decode cX4_faultsAt 20 = .ok (.iconst 1, 1) := by decide +kernel
theorem dX4_faultsAt_21 : decode cX4_faultsAt 21 = .ok (.goto 4, 3) := by decide +kernel
theorem dX4_faultsAt_24 : decode cX4_faultsAt 24 = .ok (.iconst 0, 1) := by decide +kernel
theorem dX4_faultsAt_25 : decode cX4_faultsAt 25 = .ok (.istore 5, 2) := by decide +kernel
theorem dX4_faultsAt_27 : decode cX4_faultsAt 27 = .ok (.iload_n 3, 1) := by decide +kernel
theorem dX4_faultsAt_28 : decode cX4_faultsAt 28 = .ok (.tableswitch 214 0 4 #[36, 74, 122, 146, 177], 36) := by decide +kernel
theorem dX4_faultsAt_64 : decode cX4_faultsAt 64 = .ok (.iload 4, 2) := by decide +kernel
theorem dX4_faultsAt_66 : decode cX4_faultsAt 66 = .ok (.iconst 1, 1) := by decide +kernel
theorem dX4_faultsAt_67 : decode cX4_faultsAt 67 = .ok (.if_icmp .eq 29, 3) := by decide +kernel
theorem dX4_faultsAt_70 : decode cX4_faultsAt 70 = .ok (.iload 4, 2) := by decide +kernel
theorem dX4_faultsAt_72 : decode cX4_faultsAt 72 = .ok (.iconst 2, 1) := by decide +kernel
theorem dX4_faultsAt_73 : decode cX4_faultsAt 73 = .ok (.if_icmp .eq 23, 3) := by decide +kernel
theorem dX4_faultsAt_76 : decode cX4_faultsAt 76 = .ok (.iload 4, 2) := by decide +kernel
theorem dX4_faultsAt_78 : decode cX4_faultsAt 78 = .ok (.iconst 5, 1) := by decide +kernel
theorem dX4_faultsAt_79 : decode cX4_faultsAt 79 = .ok (.if_icmp .eq 17, 3) := by decide +kernel
theorem dX4_faultsAt_82 : decode cX4_faultsAt 82 = .ok (.iload 4, 2) := by decide +kernel
theorem dX4_faultsAt_84 : decode cX4_faultsAt 84 = .ok (.bipush 6, 2) := by decide +kernel
theorem dX4_faultsAt_86 : decode cX4_faultsAt 86 = .ok (.if_icmp .eq 10, 3) := by decide +kernel
theorem dX4_faultsAt_89 : decode cX4_faultsAt 89 = .ok (.iload 4, 2) := by decide +kernel
theorem dX4_faultsAt_91 : decode cX4_faultsAt 91 = .ok (.bipush 9, 2) := by decide +kernel
theorem dX4_faultsAt_93 : decode cX4_faultsAt 93 = .ok (.if_icmp .le 7, 3) := by decide +kernel
theorem dX4_faultsAt_96 : decode cX4_faultsAt 96 = .ok (.iconst 1, 1) := by decide +kernel
theorem dX4_faultsAt_97 : decode cX4_faultsAt 97 = .ok (.goto 4, 3) := by decide +kernel
theorem dX4_faultsAt_100 : decode cX4_faultsAt 100 = .ok (.iconst 0, 1) := by decide +kernel
theorem dX4_faultsAt_101 : decode cX4_faultsAt 101 = .ok (.ireturn, 1) := by decide +kernel
theorem dX4_faultsAt_102 : decode cX4_faultsAt 102 = .ok (.iload_n 2, 1) := by decide +kernel
theorem dX4_faultsAt_103 : decode cX4_faultsAt 103 = .ok (.ifCond .le 45, 3) := by decide +kernel
theorem dX4_faultsAt_106 : decode cX4_faultsAt 106 = .ok (.iload 5, 2) := by decide +kernel
theorem dX4_faultsAt_108 : decode cX4_faultsAt 108 = .ok (.ifCond .eq 40, 3) := by decide +kernel
theorem dX4_faultsAt_111 : decode cX4_faultsAt 111 = .ok (.aload_n 0, 1) := by decide +kernel
theorem dX4_faultsAt_112 : decode cX4_faultsAt 112 = .ok (.iload_n 1, 1) := by decide +kernel
theorem dX4_faultsAt_113 : decode cX4_faultsAt 113 = .ok (.iconst 0, 1) := by decide +kernel
theorem dX4_faultsAt_114 : decode cX4_faultsAt 114 = .ok (.iload_n 2, 1) := by decide +kernel
theorem dX4_faultsAt_115 : decode cX4_faultsAt 115 = .ok (.invokevirtual 90, 3) := by decide +kernel
theorem dX4_faultsAt_118 : decode cX4_faultsAt 118 = .ok (.ifCond .ne 30, 3) := by decide +kernel
theorem dX4_faultsAt_121 : decode cX4_faultsAt 121 = .ok (.aload_n 0, 1) := by decide +kernel
theorem dX4_faultsAt_122 : decode cX4_faultsAt 122 = .ok (.iload_n 1, 1) := by decide +kernel
theorem dX4_faultsAt_123 : decode cX4_faultsAt 123 = .ok (.iconst 1, 1) := by decide +kernel
theorem dX4_faultsAt_124 : decode cX4_faultsAt 124 = .ok (.iload_n 2, 1) := by decide +kernel
theorem dX4_faultsAt_125 : decode cX4_faultsAt 125 = .ok (.invokevirtual 90, 3) := by decide +kernel
theorem dX4_faultsAt_128 : decode cX4_faultsAt 128 = .ok (.ifCond .ne 20, 3) := by decide +kernel
theorem dX4_faultsAt_131 : decode cX4_faultsAt 131 = .ok (.aload_n 0, 1) := by decide +kernel
theorem dX4_faultsAt_132 : decode cX4_faultsAt 132 = .ok (.iload_n 1, 1) := by decide +kernel
theorem dX4_faultsAt_133 : decode cX4_faultsAt 133 = .ok (.iload_n 2, 1) := by decide +kernel
theorem dX4_faultsAt_134 : decode cX4_faultsAt 134 = .ok (.iconst 1, 1) := by decide +kernel
theorem dX4_faultsAt_135 : decode cX4_faultsAt 135 = .ok (.isub, 1) := by decide +kernel
theorem dX4_faultsAt_136 : decode cX4_faultsAt 136 = .ok (.invokevirtual 87, 3) := by decide +kernel
theorem dX4_faultsAt_139 : decode cX4_faultsAt 139 = .ok (.iload 4, 2) := by decide +kernel
theorem dX4_faultsAt_141 : decode cX4_faultsAt 141 = .ok (.if_icmp .ne 7, 3) := by decide +kernel
theorem dX4_faultsAt_144 : decode cX4_faultsAt 144 = .ok (.iconst 1, 1) := by decide +kernel
theorem dX4_faultsAt_145 : decode cX4_faultsAt 145 = .ok (.goto 4, 3) := by decide +kernel
theorem dX4_faultsAt_148 : decode cX4_faultsAt 148 = .ok (.iconst 0, 1) := by decide +kernel
theorem dX4_faultsAt_149 : decode cX4_faultsAt 149 = .ok (.ireturn, 1) := by decide +kernel
theorem dX4_faultsAt_150 : decode cX4_faultsAt 150 = .ok (.iload_n 2, 1) := by decide +kernel
theorem dX4_faultsAt_151 : decode cX4_faultsAt 151 = .ok (.ifCond .le 21, 3) := by decide +kernel
theorem dX4_faultsAt_154 : decode cX4_faultsAt 154 = .ok (.aload_n 0, 1) := by decide +kernel
theorem dX4_faultsAt_155 : decode cX4_faultsAt 155 = .ok (.iload_n 1, 1) := by decide +kernel
theorem dX4_faultsAt_156 : decode cX4_faultsAt 156 = .ok (.iconst 0, 1) := by decide +kernel
theorem dX4_faultsAt_157 : decode cX4_faultsAt 157 = .ok (.iload_n 2, 1) := by decide +kernel
theorem dX4_faultsAt_158 : decode cX4_faultsAt 158 = .ok (.invokevirtual 93, 3) := by decide +kernel
theorem dX4_faultsAt_161 : decode cX4_faultsAt 161 = .ok (.aload_n 0, 1) := by decide +kernel
theorem dX4_faultsAt_162 : decode cX4_faultsAt 162 = .ok (.iload_n 1, 1) := by decide +kernel
theorem dX4_faultsAt_163 : decode cX4_faultsAt 163 = .ok (.iconst 1, 1) := by decide +kernel
theorem dX4_faultsAt_164 : decode cX4_faultsAt 164 = .ok (.iload_n 2, 1) := by decide +kernel
theorem dX4_faultsAt_165 : decode cX4_faultsAt 165 = .ok (.invokevirtual 93, 3) := by decide +kernel
theorem dX4_faultsAt_168 : decode cX4_faultsAt 168 = .ok (.iadd, 1) := by decide +kernel
theorem dX4_faultsAt_169 : decode cX4_faultsAt 169 = .ok (.goto 4, 3) := by decide +kernel
theorem dX4_faultsAt_172 : decode cX4_faultsAt 172 = .ok (.iconst 0, 1) := by decide +kernel
theorem dX4_faultsAt_173 : decode cX4_faultsAt 173 = .ok (.ireturn, 1) := by decide +kernel
theorem dX4_faultsAt_174 : decode cX4_faultsAt 174 = .ok (.aload_n 0, 1) := by decide +kernel
theorem dX4_faultsAt_175 : decode cX4_faultsAt 175 = .ok (.getfield 23, 3) := by decide +kernel
theorem dX4_faultsAt_178 : decode cX4_faultsAt 178 = .ok (.iload_n 1, 1) := by decide +kernel
theorem dX4_faultsAt_179 : decode cX4_faultsAt 179 = .ok (.iconst 0, 1) := by decide +kernel
theorem dX4_faultsAt_180 : decode cX4_faultsAt 180 = .ok (.iload_n 2, 1) := by decide +kernel
theorem dX4_faultsAt_181 : decode cX4_faultsAt 181 = .ok (.invokestatic 62, 3) := by decide +kernel
theorem dX4_faultsAt_184 : decode cX4_faultsAt 184 = .ok (.iaload, 1) := by decide +kernel
theorem dX4_faultsAt_185 : decode cX4_faultsAt 185 = .ok (.aload_n 0, 1) := by decide +kernel
theorem dX4_faultsAt_186 : decode cX4_faultsAt 186 = .ok (.getfield 23, 3) := by decide +kernel
theorem dX4_faultsAt_189 : decode cX4_faultsAt 189 = .ok (.iload_n 1, 1) := by decide +kernel
theorem dX4_faultsAt_190 : decode cX4_faultsAt 190 = .ok (.iconst 1, 1) := by decide +kernel
theorem dX4_faultsAt_191 : decode cX4_faultsAt 191 = .ok (.iload_n 2, 1) := by decide +kernel
theorem dX4_faultsAt_192 : decode cX4_faultsAt 192 = .ok (.invokestatic 62, 3) := by decide +kernel
theorem dX4_faultsAt_195 : decode cX4_faultsAt 195 = .ok (.iaload, 1) := by decide +kernel
theorem dX4_faultsAt_196 : decode cX4_faultsAt 196 = .ok (.if_icmp .ge 7, 3) := by decide +kernel
theorem dX4_faultsAt_199 : decode cX4_faultsAt 199 = .ok (.iconst 1, 1) := by decide +kernel
theorem dX4_faultsAt_200 : decode cX4_faultsAt 200 = .ok (.goto 4, 3) := by decide +kernel
theorem dX4_faultsAt_203 : decode cX4_faultsAt 203 = .ok (.iconst 0, 1) := by decide +kernel
theorem dX4_faultsAt_204 : decode cX4_faultsAt 204 = .ok (.ireturn, 1) := by decide +kernel
theorem dX4_faultsAt_205 : decode cX4_faultsAt 205 = .ok (.iload 5, 2) := by decide +kernel
theorem dX4_faultsAt_207 : decode cX4_faultsAt 207 = .ok (.ifCond .eq 7, 3) := by decide +kernel
theorem dX4_faultsAt_210 : decode cX4_faultsAt 210 = .ok (.iconst 0, 1) := by decide +kernel
theorem dX4_faultsAt_211 : decode cX4_faultsAt 211 = .ok (.goto 30, 3) := by decide +kernel
theorem dX4_faultsAt_214 : decode cX4_faultsAt 214 = .ok (.iload_n 2, 1) := by decide +kernel
theorem dX4_faultsAt_215 : decode cX4_faultsAt 215 = .ok (.ifCond .ne 7, 3) := by decide +kernel
theorem dX4_faultsAt_218 : decode cX4_faultsAt 218 = .ok (.iconst 1, 1) := by decide +kernel
theorem dX4_faultsAt_219 : decode cX4_faultsAt 219 = .ok (.goto 4, 3) := by decide +kernel
theorem dX4_faultsAt_222 : decode cX4_faultsAt 222 = .ok (.iconst 0, 1) := by decide +kernel
theorem dX4_faultsAt_223 : decode cX4_faultsAt 223 = .ok (.iload_n 2, 1) := by decide +kernel
theorem dX4_faultsAt_224 : decode cX4_faultsAt 224 = .ok (.aload_n 0, 1) := by decide +kernel
theorem dX4_faultsAt_225 : decode cX4_faultsAt 225 = .ok (.getfield 7, 3) := by decide +kernel
theorem dX4_faultsAt_228 : decode cX4_faultsAt 228 = .ok (.iload_n 1, 1) := by decide +kernel
theorem dX4_faultsAt_229 : decode cX4_faultsAt 229 = .ok (.iaload, 1) := by decide +kernel
theorem dX4_faultsAt_230 : decode cX4_faultsAt 230 = .ok (.iconst 1, 1) := by decide +kernel
theorem dX4_faultsAt_231 : decode cX4_faultsAt 231 = .ok (.isub, 1) := by decide +kernel
theorem dX4_faultsAt_232 : decode cX4_faultsAt 232 = .ok (.if_icmp .ne 7, 3) := by decide +kernel
theorem dX4_faultsAt_235 : decode cX4_faultsAt 235 = .ok (.iconst 1, 1) := by decide +kernel
theorem dX4_faultsAt_236 : decode cX4_faultsAt 236 = .ok (.goto 4, 3) := by decide +kernel
theorem dX4_faultsAt_239 : decode cX4_faultsAt 239 = .ok (.iconst 0, 1) := by decide +kernel
theorem dX4_faultsAt_240 : decode cX4_faultsAt 240 = .ok (.iadd, 1) := by decide +kernel
theorem dX4_faultsAt_241 : decode cX4_faultsAt 241 = .ok (.ireturn, 1) := by decide +kernel
theorem dX4_faultsAt_242 : decode cX4_faultsAt 242 = .ok (.iload_n 2, 1) := by decide +kernel
theorem dX4_faultsAt_243 : decode cX4_faultsAt 243 = .ok (.iconst 1, 1) := by decide +kernel
theorem dX4_faultsAt_244 : decode cX4_faultsAt 244 = .ok (.if_icmp .le 29, 3) := by decide +kernel
theorem dX4_faultsAt_247 : decode cX4_faultsAt 247 = .ok (.aload_n 0, 1) := by decide +kernel
theorem dX4_faultsAt_248 : decode cX4_faultsAt 248 = .ok (.iload_n 1, 1) := by decide +kernel
theorem dX4_faultsAt_249 : decode cX4_faultsAt 249 = .ok (.iconst 0, 1) := by decide +kernel
theorem dX4_faultsAt_250 : decode cX4_faultsAt 250 = .ok (.iload_n 2, 1) := by decide +kernel
theorem dX4_faultsAt_251 : decode cX4_faultsAt 251 = .ok (.invokevirtual 90, 3) := by decide +kernel
theorem dX4_faultsAt_254 : decode cX4_faultsAt 254 = .ok (.ifCond .eq 19, 3) := by decide +kernel
theorem dX4_faultsAt_257 : decode cX4_faultsAt 257 = .ok (.aload_n 0, 1) := by decide +kernel
theorem dX4_faultsAt_258 : decode cX4_faultsAt 258 = .ok (.iload_n 1, 1) := by decide +kernel
theorem dX4_faultsAt_259 : decode cX4_faultsAt 259 = .ok (.iconst 0, 1) := by decide +kernel
theorem dX4_faultsAt_260 : decode cX4_faultsAt 260 = .ok (.iload_n 2, 1) := by decide +kernel
theorem dX4_faultsAt_261 : decode cX4_faultsAt 261 = .ok (.iconst 1, 1) := by decide +kernel
theorem dX4_faultsAt_262 : decode cX4_faultsAt 262 = .ok (.isub, 1) := by decide +kernel
theorem dX4_faultsAt_263 : decode cX4_faultsAt 263 = .ok (.invokevirtual 90, 3) := by decide +kernel
theorem dX4_faultsAt_266 : decode cX4_faultsAt 266 = .ok (.ifCond .eq 7, 3) := by decide +kernel
theorem dX4_faultsAt_269 : decode cX4_faultsAt 269 = .ok (.iconst 1, 1) := by decide +kernel
theorem dX4_faultsAt_270 : decode cX4_faultsAt 270 = .ok (.goto 4, 3) := by decide +kernel
theorem dX4_faultsAt_273 : decode cX4_faultsAt 273 = .ok (.iconst 0, 1) := by decide +kernel
theorem dX4_faultsAt_274 : decode cX4_faultsAt 274 = .ok (.ireturn, 1) := by decide +kernel
set_option maxRecDepth 20000 in
theorem ggX4_faults_X4_isNote : GoodIn wsX4_faults wsX4_isNote := goodIn_r _ [5, 6, 7, 8, 9, 4, 10, 11, 12, 13, 14, 43, 44, 45, 46, 47, 48, 49, 50, 51, 52, 53, 54, 55, 56] (by decide +kernel) (by decide +kernel)
set_option maxRecDepth 20000 in
theorem gX4_faults_X4_isNote : GoodIn wsX4_faults (wsV RX4 70 RX4 yX4_isNote wsX4_isNote) := goodIn_app (goodIn_of _ (by decide +kernel)) ggX4_faults_X4_isNote
set_option maxRecDepth 20000 in
theorem ggX4_faults_X4_isIn : GoodIn wsX4_faults wsX4_isIn := goodIn_r _ [14] (by decide +kernel) (by decide +kernel)
set_option maxRecDepth 20000 in
theorem gX4_faults_X4_isIn : GoodIn wsX4_faults (va_wsS RX4 51 yX4_isIn wsX4_isIn) := goodIn_app (goodIn_of _ (by decide +kernel)) ggX4_faults_X4_isIn
set_option maxRecDepth 20000 in
theorem ggX4_faults_X4_fails : GoodIn wsX4_faults wsX4_fails := goodIn_r _ [18, 19, 43, 44, 45, 46, 47, 48, 49, 50, 51, 52, 53, 54, 55, 56] (by decide +kernel) (by decide +kernel)
set_option maxRecDepth 20000 in
theorem gX4_faults_X4_fails : GoodIn wsX4_faults (wsV RX4 59 RX4 yX4_fails wsX4_fails) := goodIn_app (goodIn_of _ (by decide +kernel)) ggX4_faults_X4_fails
set_option maxRecDepth 20000 in
theorem ggX4_faults_X4_faultsAt : GoodIn wsX4_faults wsX4_faultsAt := goodIn_r _ [23, 24, 6, 25, 26, 27, 4, 28, 29, 30, 31, 32, 33, 34, 35, 36, 37, 38, 39, 40, 41, 42, 43, 44, 45, 46, 47, 48, 49, 50, 51, 52, 53, 54, 55, 56] (by decide +kernel) (by decide +kernel)
set_option maxRecDepth 20000 in
theorem gX4_faults_X4_faultsAt : GoodIn wsX4_faults (wsV RX4 96 RX4 yX4_faultsAt wsX4_faultsAt) := goodIn_app (goodIn_of _ (by decide +kernel)) ggX4_faults_X4_faultsAt
theorem dX4_faults_0 : decode cX4_faults 0 = .ok (.aload_n 0, 1) := by decide +kernel
theorem dX4_faults_1 : decode cX4_faults 1 = .ok (.iload_n 1, 1) := by decide +kernel
theorem dX4_faults_2 : decode cX4_faults 2 = .ok (.iconst 0, 1) := by decide +kernel
theorem dX4_faults_3 : decode cX4_faults 3 = .ok (.iload_n 2, 1) := by decide +kernel
theorem dX4_faults_4 : decode cX4_faults 4 = .ok (.invokevirtual 70, 3) := by decide +kernel
theorem dX4_faults_7 : decode cX4_faults 7 = .ok (.ifCond .eq 16, 3) := by decide +kernel
theorem dX4_faults_10 : decode cX4_faults 10 = .ok (.iload_n 3, 1) := by decide +kernel
theorem dX4_faults_11 : decode cX4_faults 11 = .ok (.iconst 0, 1) := by decide +kernel
theorem dX4_faults_12 : decode cX4_faults 12 = .ok (.iconst 5, 1) := by decide +kernel
theorem dX4_faults_13 : decode cX4_faults 13 = .ok (.invokestatic 51, 3) := by decide +kernel
theorem dX4_faults_16 : decode cX4_faults 16 = .ok (.ifCond .eq 7, 3) := by decide +kernel
theorem dX4_faults_19 : decode cX4_faults 19 = .ok (.iconst 1, 1) := by decide +kernel
theorem dX4_faults_20 : decode cX4_faults 20 = .ok (.goto 4, 3) := by decide +kernel
theorem dX4_faults_23 : decode cX4_faults 23 = .ok (.iconst 0, 1) := by decide +kernel
theorem dX4_faults_24 : decode cX4_faults 24 = .ok (.istore 4, 2) := by decide +kernel
theorem dX4_faults_26 : decode cX4_faults 26 = .ok (.aload_n 0, 1) := by decide +kernel
theorem dX4_faults_27 : decode cX4_faults 27 = .ok (.iload 4, 2) := by decide +kernel
theorem dX4_faults_29 : decode cX4_faults 29 = .ok (.ifCond .eq 7, 3) := by decide +kernel
theorem dX4_faults_32 : decode cX4_faults 32 = .ok (.iconst 0, 1) := by decide +kernel
theorem dX4_faults_33 : decode cX4_faults 33 = .ok (.goto 4, 3) := by decide +kernel
theorem dX4_faults_36 : decode cX4_faults 36 = .ok (.iconst 1, 1) := by decide +kernel
theorem dX4_faults_37 : decode cX4_faults 37 = .ok (.invokevirtual 59, 3) := by decide +kernel
theorem dX4_faults_40 : decode cX4_faults 40 = .ok (.ifCond .eq 7, 3) := by decide +kernel
theorem dX4_faults_43 : decode cX4_faults 43 = .ok (.iconst 0, 1) := by decide +kernel
theorem dX4_faults_44 : decode cX4_faults 44 = .ok (.goto 10, 3) := by decide +kernel
theorem dX4_faults_47 : decode cX4_faults 47 = .ok (.aload_n 0, 1) := by decide +kernel
theorem dX4_faults_48 : decode cX4_faults 48 = .ok (.iload_n 1, 1) := by decide +kernel
theorem dX4_faults_49 : decode cX4_faults 49 = .ok (.iload_n 2, 1) := by decide +kernel
theorem dX4_faults_50 : decode cX4_faults 50 = .ok (.iload_n 3, 1) := by decide +kernel
theorem dX4_faults_51 : decode cX4_faults 51 = .ok (.invokevirtual 96, 3) := by decide +kernel
theorem dX4_faults_54 : decode cX4_faults 54 = .ok (.ireturn, 1) := by decide +kernel
set_option maxRecDepth 20000 in
theorem ggX4_costs_X4_faultsAt : GoodIn wsX4_costs wsX4_faultsAt := goodIn_r _ [7, 8, 1, 9, 10, 11, 6, 12, 13, 14, 15, 16, 17, 18, 19, 20, 21, 22, 23, 24, 25, 26, 27, 28, 29, 30, 31, 32, 33, 34, 35, 36, 37, 38, 39, 40] (by decide +kernel) (by decide +kernel)
set_option maxRecDepth 20000 in
theorem gX4_costs_X4_faultsAt : GoodIn wsX4_costs (wsV RX4 96 RX4 yX4_faultsAt wsX4_faultsAt) := goodIn_app (goodIn_of _ (by decide +kernel)) ggX4_costs_X4_faultsAt
theorem dX4_costs_0 : decode cX4_costs 0 = .ok (.iconst 0, 1) := by decide +kernel
theorem dX4_costs_1 : decode cX4_costs 1 = .ok (.istore_n 2, 1) := by decide +kernel
theorem dX4_costs_2 : decode cX4_costs 2 = .ok (.iconst 0, 1) := by decide +kernel
theorem dX4_costs_3 : decode cX4_costs 3 = .ok (.istore_n 3, 1) := by decide +kernel
theorem dX4_costs_4 : decode cX4_costs 4 = .ok (.iload_n 3, 1) := by decide +kernel
theorem dX4_costs_5 : decode cX4_costs 5 = .ok (.aload_n 0, 1) := by decide +kernel
theorem dX4_costs_6 : decode cX4_costs 6 = .ok (.getfield 7, 3) := by decide +kernel
theorem dX4_costs_9 : decode cX4_costs 9 = .ok (.iload_n 1, 1) := by decide +kernel
theorem dX4_costs_10 : decode cX4_costs 10 = .ok (.iaload, 1) := by decide +kernel
theorem dX4_costs_11 : decode cX4_costs 11 = .ok (.bipush 6, 2) := by decide +kernel
theorem dX4_costs_13 : decode cX4_costs 13 = .ok (.imul, 1) := by decide +kernel
theorem dX4_costs_14 : decode cX4_costs 14 = .ok (.if_icmp .ge 35, 3) := by decide +kernel
theorem dX4_costs_17 : decode cX4_costs 17 = .ok (.iload_n 2, 1) := by decide +kernel
theorem dX4_costs_18 : decode cX4_costs 18 = .ok (.aload_n 0, 1) := by decide +kernel
theorem dX4_costs_19 : decode cX4_costs 19 = .ok (.getfield 26, 3) := by decide +kernel
theorem dX4_costs_22 : decode cX4_costs 22 = .ok (.iload_n 3, 1) := by decide +kernel
theorem dX4_costs_23 : decode cX4_costs 23 = .ok (.bipush 6, 2) := by decide +kernel
theorem dX4_costs_25 : decode cX4_costs 25 = .ok (.irem, 1) := by decide +kernel
theorem dX4_costs_26 : decode cX4_costs 26 = .ok (.iaload, 1) := by decide +kernel
theorem dX4_costs_27 : decode cX4_costs 27 = .ok (.aload_n 0, 1) := by decide +kernel
theorem dX4_costs_28 : decode cX4_costs 28 = .ok (.iload_n 1, 1) := by decide +kernel
theorem dX4_costs_29 : decode cX4_costs 29 = .ok (.iload_n 3, 1) := by decide +kernel
theorem dX4_costs_30 : decode cX4_costs 30 = .ok (.bipush 6, 2) := by decide +kernel
theorem dX4_costs_32 : decode cX4_costs 32 = .ok (.idiv, 1) := by decide +kernel
theorem dX4_costs_33 : decode cX4_costs 33 = .ok (.iload_n 3, 1) := by decide +kernel
theorem dX4_costs_34 : decode cX4_costs 34 = .ok (.bipush 6, 2) := by decide +kernel
theorem dX4_costs_36 : decode cX4_costs 36 = .ok (.irem, 1) := by decide +kernel
theorem dX4_costs_37 : decode cX4_costs 37 = .ok (.invokevirtual 96, 3) := by decide +kernel
theorem dX4_costs_40 : decode cX4_costs 40 = .ok (.imul, 1) := by decide +kernel
theorem dX4_costs_41 : decode cX4_costs 41 = .ok (.iadd, 1) := by decide +kernel
theorem dX4_costs_42 : decode cX4_costs 42 = .ok (.istore_n 2, 1) := by decide +kernel
theorem dX4_costs_43 : decode cX4_costs 43 = .ok (.iinc 3 1, 3) := by decide +kernel
theorem dX4_costs_46 : decode cX4_costs 46 = .ok (.goto (-42), 3) := by decide +kernel
theorem dX4_costs_49 : decode cX4_costs 49 = .ok (.iload_n 2, 1) := by decide +kernel
theorem dX4_costs_50 : decode cX4_costs 50 = .ok (.ireturn, 1) := by decide +kernel
set_option maxRecDepth 20000 in
theorem ggX4_markOf_X4_costs : GoodIn wsX4_markOf wsX4_costs := goodIn_r _ [5, 6, 7, 8, 9, 10, 4, 11, 12, 13, 14, 15, 16, 17, 18, 19, 20, 21, 22, 23, 24, 25, 26, 27, 28, 29, 30, 31, 32, 33, 34, 35, 36, 37, 38, 39, 40, 41, 42, 43, 44] (by decide +kernel) (by decide +kernel)
set_option maxRecDepth 20000 in
theorem gX4_markOf_X4_costs : GoodIn wsX4_markOf (wsV RX4 99 RX4 yX4_costs wsX4_costs) := goodIn_app (goodIn_of _ (by decide +kernel)) ggX4_markOf_X4_costs
theorem dX4_markOf_0 : decode cX4_markOf 0 = .ok (.aload_n 0, 1) := by decide +kernel
theorem dX4_markOf_1 : decode cX4_markOf 1 = .ok (.iload_n 1, 1) := by decide +kernel
theorem dX4_markOf_2 : decode cX4_markOf 2 = .ok (.invokevirtual 99, 3) := by decide +kernel
theorem dX4_markOf_5 : decode cX4_markOf 5 = .ok (.bipush 100, 2) := by decide +kernel
theorem dX4_markOf_7 : decode cX4_markOf 7 = .ok (.if_icmp .le 7, 3) := by decide +kernel
theorem dX4_markOf_10 : decode cX4_markOf 10 = .ok (.iconst 0, 1) := by decide +kernel
theorem dX4_markOf_11 : decode cX4_markOf 11 = .ok (.goto 11, 3) := by decide +kernel
theorem dX4_markOf_14 : decode cX4_markOf 14 = .ok (.bipush 100, 2) := by decide +kernel
theorem dX4_markOf_16 : decode cX4_markOf 16 = .ok (.aload_n 0, 1) := by decide +kernel
theorem dX4_markOf_17 : decode cX4_markOf 17 = .ok (.iload_n 1, 1) := by decide +kernel
theorem dX4_markOf_18 : decode cX4_markOf 18 = .ok (.invokevirtual 99, 3) := by decide +kernel
theorem dX4_markOf_21 : decode cX4_markOf 21 = .ok (.isub, 1) := by decide +kernel
theorem dX4_markOf_22 : decode cX4_markOf 22 = .ok (.ireturn, 1) := by decide +kernel
set_option maxRecDepth 20000 in
theorem ggX4_mark_X4_isVersion : GoodIn wsX4_mark wsX4_isVersion := goodIn_r _ [5, 6, 7, 8, 4, 9, 48, 49, 50, 51, 52, 53, 54, 55, 56, 57, 58, 59, 60, 61] (by decide +kernel) (by decide +kernel)
set_option maxRecDepth 20000 in
theorem gX4_mark_X4_isVersion : GoodIn wsX4_mark (wsV RX4 55 RX4 yX4_isVersion wsX4_isVersion) := goodIn_app (goodIn_of _ (by decide +kernel)) ggX4_mark_X4_isVersion
set_option maxRecDepth 20000 in
theorem ggX4_mark_X4_fails : GoodIn wsX4_mark wsX4_fails := goodIn_r _ [13, 14, 48, 49, 50, 51, 52, 53, 54, 55, 56, 57, 58, 59, 60, 61] (by decide +kernel) (by decide +kernel)
set_option maxRecDepth 20000 in
theorem gX4_mark_X4_fails : GoodIn wsX4_mark (wsV RX4 59 RX4 yX4_fails wsX4_fails) := goodIn_app (goodIn_of _ (by decide +kernel)) ggX4_mark_X4_fails
set_option maxRecDepth 20000 in
theorem ggX4_mark_X4_markOf : GoodIn wsX4_mark wsX4_markOf := goodIn_r _ [18, 19, 20, 21, 4, 22, 23, 24, 25, 26, 27, 28, 29, 30, 31, 32, 33, 34, 35, 36, 37, 38, 39, 40, 41, 42, 43, 44, 45, 46, 47, 48, 49, 50, 51, 52, 53, 54, 55, 56, 57, 58, 59, 60, 61] (by decide +kernel) (by decide +kernel)
set_option maxRecDepth 20000 in
theorem gX4_mark_X4_markOf : GoodIn wsX4_mark (wsV RX4 102 RX4 yX4_markOf wsX4_markOf) := goodIn_app (goodIn_of _ (by decide +kernel)) ggX4_mark_X4_markOf
theorem dX4_mark_0 : decode cX4_mark 0 = .ok (.aload_n 0, 1) := by decide +kernel
theorem dX4_mark_1 : decode cX4_mark 1 = .ok (.aload_n 0, 1) := by decide +kernel
theorem dX4_mark_2 : decode cX4_mark 2 = .ok (.iload_n 1, 1) := by decide +kernel
theorem dX4_mark_3 : decode cX4_mark 3 = .ok (.invokevirtual 55, 3) := by decide +kernel
theorem dX4_mark_6 : decode cX4_mark 6 = .ok (.ifCond .eq 7, 3) := by decide +kernel
theorem dX4_mark_9 : decode cX4_mark 9 = .ok (.iconst 0, 1) := by decide +kernel
theorem dX4_mark_10 : decode cX4_mark 10 = .ok (.goto 4, 3) := by decide +kernel
theorem dX4_mark_13 : decode cX4_mark 13 = .ok (.iconst 1, 1) := by decide +kernel
theorem dX4_mark_14 : decode cX4_mark 14 = .ok (.invokevirtual 59, 3) := by decide +kernel
theorem dX4_mark_17 : decode cX4_mark 17 = .ok (.ifCond .eq 7, 3) := by decide +kernel
theorem dX4_mark_20 : decode cX4_mark 20 = .ok (.iconst 0, 1) := by decide +kernel
theorem dX4_mark_21 : decode cX4_mark 21 = .ok (.goto 8, 3) := by decide +kernel
theorem dX4_mark_24 : decode cX4_mark 24 = .ok (.aload_n 0, 1) := by decide +kernel
theorem dX4_mark_25 : decode cX4_mark 25 = .ok (.iload_n 1, 1) := by decide +kernel
theorem dX4_mark_26 : decode cX4_mark 26 = .ok (.invokevirtual 102, 3) := by decide +kernel
theorem dX4_mark_29 : decode cX4_mark 29 = .ok (.ireturn, 1) := by decide +kernel
set_option maxRecDepth 20000 in
theorem ggX4_handIn_X4_isVersion : GoodIn wsX4_handIn wsX4_isVersion := goodIn_r _ [7, 8, 9, 10, 6, 11, 50, 51, 52, 53, 54, 55, 56, 57, 58, 59, 60, 61, 62, 63] (by decide +kernel) (by decide +kernel)
set_option maxRecDepth 20000 in
theorem gX4_handIn_X4_isVersion : GoodIn wsX4_handIn (wsV RX4 55 RX4 yX4_isVersion wsX4_isVersion) := goodIn_app (goodIn_of _ (by decide +kernel)) ggX4_handIn_X4_isVersion
set_option maxRecDepth 20000 in
theorem ggX4_handIn_X4_fails : GoodIn wsX4_handIn wsX4_fails := goodIn_r _ [15, 16, 50, 51, 52, 53, 54, 55, 56, 57, 58, 59, 60, 61, 62, 63] (by decide +kernel) (by decide +kernel)
set_option maxRecDepth 20000 in
theorem gX4_handIn_X4_fails : GoodIn wsX4_handIn (wsV RX4 59 RX4 yX4_fails wsX4_fails) := goodIn_app (goodIn_of _ (by decide +kernel)) ggX4_handIn_X4_fails
set_option maxRecDepth 20000 in
theorem ggX4_handIn_X4_markOf : GoodIn wsX4_handIn wsX4_markOf := goodIn_r _ [20, 21, 22, 23, 6, 24, 25, 26, 27, 28, 29, 30, 31, 32, 33, 34, 35, 36, 37, 38, 39, 40, 41, 42, 43, 44, 45, 46, 47, 48, 49, 50, 51, 52, 53, 54, 55, 56, 57, 58, 59, 60, 61, 62, 63] (by decide +kernel) (by decide +kernel)
set_option maxRecDepth 20000 in
theorem gX4_handIn_X4_markOf : GoodIn wsX4_handIn (wsV RX4 102 RX4 yX4_markOf wsX4_markOf) := goodIn_app (goodIn_of _ (by decide +kernel)) ggX4_handIn_X4_markOf
theorem dX4_handIn_0 : decode cX4_handIn 0 = .ok (.aload_n 0, 1) := by decide +kernel
theorem dX4_handIn_1 : decode cX4_handIn 1 = .ok (.aload_n 0, 1) := by decide +kernel
theorem dX4_handIn_2 : decode cX4_handIn 2 = .ok (.iload_n 1, 1) := by decide +kernel
theorem dX4_handIn_3 : decode cX4_handIn 3 = .ok (.invokevirtual 55, 3) := by decide +kernel
theorem dX4_handIn_6 : decode cX4_handIn 6 = .ok (.ifCond .eq 7, 3) := by decide +kernel
theorem dX4_handIn_9 : decode cX4_handIn 9 = .ok (.iconst 0, 1) := by decide +kernel
theorem dX4_handIn_10 : decode cX4_handIn 10 = .ok (.goto 4, 3) := by decide +kernel
theorem dX4_handIn_13 : decode cX4_handIn 13 = .ok (.iconst 1, 1) := by decide +kernel
theorem dX4_handIn_14 : decode cX4_handIn 14 = .ok (.invokevirtual 59, 3) := by decide +kernel
theorem dX4_handIn_17 : decode cX4_handIn 17 = .ok (.ifCond .eq 5, 3) := by decide +kernel
theorem dX4_handIn_20 : decode cX4_handIn 20 = .ok (.iconst 0, 1) := by decide +kernel
theorem dX4_handIn_21 : decode cX4_handIn 21 = .ok (.ireturn, 1) := by decide +kernel
theorem dX4_handIn_22 : decode cX4_handIn 22 = .ok (.aload_n 0, 1) := by decide +kernel
theorem dX4_handIn_23 : decode cX4_handIn 23 = .ok (.getfield 20, 3) := by decide +kernel
theorem dX4_handIn_26 : decode cX4_handIn 26 = .ok (.iload_n 1, 1) := by decide +kernel
theorem dX4_handIn_27 : decode cX4_handIn 27 = .ok (.aload_n 0, 1) := by decide +kernel
theorem dX4_handIn_28 : decode cX4_handIn 28 = .ok (.iload_n 1, 1) := by decide +kernel
theorem dX4_handIn_29 : decode cX4_handIn 29 = .ok (.invokevirtual 102, 3) := by decide +kernel
theorem dX4_handIn_32 : decode cX4_handIn 32 = .ok (.aload_n 0, 1) := by decide +kernel
theorem dX4_handIn_33 : decode cX4_handIn 33 = .ok (.getfield 29, 3) := by decide +kernel
theorem dX4_handIn_36 : decode cX4_handIn 36 = .ok (.if_icmp .lt 7, 3) := by decide +kernel
theorem dX4_handIn_39 : decode cX4_handIn 39 = .ok (.iconst 1, 1) := by decide +kernel
theorem dX4_handIn_40 : decode cX4_handIn 40 = .ok (.goto 4, 3) := by decide +kernel
theorem dX4_handIn_43 : decode cX4_handIn 43 = .ok (.iconst 0, 1) := by decide +kernel
theorem dX4_handIn_44 : decode cX4_handIn 44 = .ok (.bastore, 1) := by decide +kernel
theorem dX4_handIn_45 : decode cX4_handIn 45 = .ok (.aload_n 0, 1) := by decide +kernel
theorem dX4_handIn_46 : decode cX4_handIn 46 = .ok (.getfield 20, 3) := by decide +kernel
theorem dX4_handIn_49 : decode cX4_handIn 49 = .ok (.iload_n 1, 1) := by decide +kernel
theorem dX4_handIn_50 : decode cX4_handIn 50 = .ok (.baload, 1) := by decide +kernel
theorem dX4_handIn_51 : decode cX4_handIn 51 = .ok (.ireturn, 1) := by decide +kernel
set_option maxRecDepth 20000 in
theorem ggX4_fallen_X4_markOf : GoodIn wsX4_fallen wsX4_markOf := goodIn_r _ [9, 10, 11, 12, 8, 13, 14, 15, 16, 17, 18, 19, 20, 21, 22, 23, 24, 25, 26, 27, 28, 29, 30, 31, 32, 33, 34, 35, 36, 37, 38, 39, 40, 41, 42, 43, 44, 45, 46, 47, 48, 49, 50, 51, 52] (by decide +kernel) (by decide +kernel)
set_option maxRecDepth 20000 in
theorem gX4_fallen_X4_markOf : GoodIn wsX4_fallen (wsV RX4 102 RX4 yX4_markOf wsX4_markOf) := goodIn_app (goodIn_of _ (by decide +kernel)) ggX4_fallen_X4_markOf
theorem dX4_fallen_0 : decode cX4_fallen 0 = .ok (.aload_n 0, 1) := by decide +kernel
theorem dX4_fallen_1 : decode cX4_fallen 1 = .ok (.iconst 0, 1) := by decide +kernel
theorem dX4_fallen_2 : decode cX4_fallen 2 = .ok (.putfield 45, 3) := by decide +kernel
theorem dX4_fallen_5 : decode cX4_fallen 5 = .ok (.iconst 0, 1) := by decide +kernel
theorem dX4_fallen_6 : decode cX4_fallen 6 = .ok (.istore_n 1, 1) := by decide +kernel
theorem dX4_fallen_7 : decode cX4_fallen 7 = .ok (.iconst 0, 1) := by decide +kernel
theorem dX4_fallen_8 : decode cX4_fallen 8 = .ok (.istore_n 2, 1) := by decide +kernel
theorem dX4_fallen_9 : decode cX4_fallen 9 = .ok (.iload_n 2, 1) := by decide +kernel
theorem dX4_fallen_10 : decode cX4_fallen 10 = .ok (.aload_n 0, 1) := by decide +kernel
theorem dX4_fallen_11 : decode cX4_fallen 11 = .ok (.getfield 48, 3) := by decide +kernel
theorem dX4_fallen_14 : decode cX4_fallen 14 = .ok (.if_icmp .ge 40, 3) := by decide +kernel
theorem dX4_fallen_17 : decode cX4_fallen 17 = .ok (.iload_n 1, 1) := by decide +kernel
theorem dX4_fallen_18 : decode cX4_fallen 18 = .ok (.aload_n 0, 1) := by decide +kernel
theorem dX4_fallen_19 : decode cX4_fallen 19 = .ok (.getfield 20, 3) := by decide +kernel
theorem dX4_fallen_22 : decode cX4_fallen 22 = .ok (.iload_n 2, 1) := by decide +kernel
theorem dX4_fallen_23 : decode cX4_fallen 23 = .ok (.baload, 1) := by decide +kernel
theorem dX4_fallen_24 : decode cX4_fallen 24 = .ok (.ifCond .eq 21, 3) := by decide +kernel
theorem dX4_fallen_27 : decode cX4_fallen 27 = .ok (.aload_n 0, 1) := by decide +kernel
theorem dX4_fallen_28 : decode cX4_fallen 28 = .ok (.iload_n 2, 1) := by decide +kernel
theorem dX4_fallen_29 : decode cX4_fallen 29 = .ok (.invokevirtual 102, 3) := by decide +kernel
theorem dX4_fallen_32 : decode cX4_fallen 32 = .ok (.aload_n 0, 1) := by decide +kernel
theorem dX4_fallen_33 : decode cX4_fallen 33 = .ok (.getfield 29, 3) := by decide +kernel
theorem dX4_fallen_36 : decode cX4_fallen 36 = .ok (.if_icmp .ge 9, 3) := by decide +kernel
theorem dX4_fallen_39 : decode cX4_fallen 39 = .ok (.iconst 1, 1) := by decide +kernel
theorem dX4_fallen_40 : decode cX4_fallen 40 = .ok (.iload_n 2, 1) := by decide +kernel
theorem dX4_fallen_41 : decode cX4_fallen 41 = .ok (.ishl, 1) := by decide +kernel
theorem dX4_fallen_42 : decode cX4_fallen 42 = .ok (.goto 4, 3) := by decide +kernel
theorem dX4_fallen_45 : decode cX4_fallen 45 = .ok (.iconst 0, 1) := by decide +kernel
theorem dX4_fallen_46 : decode cX4_fallen 46 = .ok (.ior, 1) := by decide +kernel
theorem dX4_fallen_47 : decode cX4_fallen 47 = .ok (.istore_n 1, 1) := by decide +kernel
theorem dX4_fallen_48 : decode cX4_fallen 48 = .ok (.iinc 2 1, 3) := by decide +kernel
theorem dX4_fallen_51 : decode cX4_fallen 51 = .ok (.goto (-42), 3) := by decide +kernel
theorem dX4_fallen_54 : decode cX4_fallen 54 = .ok (.iload_n 1, 1) := by decide +kernel
theorem dX4_fallen_55 : decode cX4_fallen 55 = .ok (.ireturn, 1) := by decide +kernel
set_option maxRecDepth 20000 in
theorem ggX4_best_X4_isNote : GoodIn wsX4_best wsX4_isNote := goodIn_r _ [6, 7, 8, 9, 10, 5, 11, 12, 13, 14, 15, 48, 49, 50, 51, 52, 53, 54, 55, 56, 57, 58, 59, 60, 61] (by decide +kernel) (by decide +kernel)
set_option maxRecDepth 20000 in
theorem gX4_best_X4_isNote : GoodIn wsX4_best (wsV RX4 70 RX4 yX4_isNote wsX4_isNote) := goodIn_app (goodIn_of _ (by decide +kernel)) ggX4_best_X4_isNote
set_option maxRecDepth 20000 in
theorem ggX4_best_X4_fails : GoodIn wsX4_best wsX4_fails := goodIn_r _ [19, 20, 48, 49, 50, 51, 52, 53, 54, 55, 56, 57, 58, 59, 60, 61] (by decide +kernel) (by decide +kernel)
set_option maxRecDepth 20000 in
theorem gX4_best_X4_fails : GoodIn wsX4_best (wsV RX4 59 RX4 yX4_fails wsX4_fails) := goodIn_app (goodIn_of _ (by decide +kernel)) ggX4_best_X4_fails
set_option maxRecDepth 20000 in
theorem ggX4_best_X4_at : GoodIn wsX4_best wsX4_at := goodIn_r _ [23] (by decide +kernel) (by decide +kernel)
set_option maxRecDepth 20000 in
theorem gX4_best_X4_at : GoodIn wsX4_best (va_wsS RX4 62 yX4_at wsX4_at) := goodIn_app (goodIn_of _ (by decide +kernel)) ggX4_best_X4_at
set_option maxRecDepth 20000 in
theorem ggX4_best_X4_costs : GoodIn wsX4_best wsX4_costs := goodIn_r _ [27, 7, 28, 29, 30, 31, 5, 32, 1, 33, 34, 35, 36, 21, 22, 23, 37, 38, 39, 40, 41, 42, 43, 44, 45, 46, 47, 48, 49, 50, 51, 52, 53, 54, 55, 56, 57, 58, 59, 60, 61] (by decide +kernel) (by decide +kernel)
set_option maxRecDepth 20000 in
theorem gX4_best_X4_costs : GoodIn wsX4_best (wsV RX4 99 RX4 yX4_costs wsX4_costs) := goodIn_app (goodIn_of _ (by decide +kernel)) ggX4_best_X4_costs
theorem dX4_best_0 : decode cX4_best 0 = .ok (.aload_n 0, 1) := by decide +kernel
theorem dX4_best_1 : decode cX4_best 1 = .ok (.aload_n 0, 1) := by decide +kernel
theorem dX4_best_2 : decode cX4_best 2 = .ok (.iload_n 1, 1) := by decide +kernel
theorem dX4_best_3 : decode cX4_best 3 = .ok (.iload_n 2, 1) := by decide +kernel
theorem dX4_best_4 : decode cX4_best 4 = .ok (.iload_n 3, 1) := by decide +kernel
theorem dX4_best_5 : decode cX4_best 5 = .ok (.invokevirtual 70, 3) := by decide +kernel
theorem dX4_best_8 : decode cX4_best 8 = .ok (.ifCond .eq 7, 3) := by decide +kernel
theorem dX4_best_11 : decode cX4_best 11 = .ok (.iconst 0, 1) := by decide +kernel
theorem dX4_best_12 : decode cX4_best 12 = .ok (.goto 4, 3) := by decide +kernel
theorem dX4_best_15 : decode cX4_best 15 = .ok (.iconst 1, 1) := by decide +kernel
theorem dX4_best_16 : decode cX4_best 16 = .ok (.invokevirtual 59, 3) := by decide +kernel
theorem dX4_best_19 : decode cX4_best 19 = .ok (.ifCond .eq 5, 3) := by decide +kernel
theorem dX4_best_22 : decode cX4_best 22 = .ok (.iconst 0, 1) := by decide +kernel
theorem dX4_best_23 : decode cX4_best 23 = .ok (.ireturn, 1) := by decide +kernel
theorem dX4_best_24 : decode cX4_best 24 = .ok (.aload_n 0, 1) := by decide +kernel
theorem dX4_best_25 : decode cX4_best 25 = .ok (.getfield 23, 3) := by decide +kernel
theorem dX4_best_28 : decode cX4_best 28 = .ok (.iload_n 1, 1) := by decide +kernel
theorem dX4_best_29 : decode cX4_best 29 = .ok (.iload_n 2, 1) := by decide +kernel
theorem dX4_best_30 : decode cX4_best 30 = .ok (.iload_n 3, 1) := by decide +kernel
theorem dX4_best_31 : decode cX4_best 31 = .ok (.invokestatic 62, 3) := by decide +kernel
theorem dX4_best_34 : decode cX4_best 34 = .ok (.iaload, 1) := by decide +kernel
theorem dX4_best_35 : decode cX4_best 35 = .ok (.istore 4, 2) := by decide +kernel
theorem dX4_best_37 : decode cX4_best 37 = .ok (.iconst (-1), 1) := by decide +kernel
theorem dX4_best_38 : decode cX4_best 38 = .ok (.istore 5, 2) := by decide +kernel
theorem dX4_best_40 : decode cX4_best 40 = .ok (.iconst 0, 1) := by decide +kernel
theorem dX4_best_41 : decode cX4_best 41 = .ok (.istore 6, 2) := by decide +kernel
theorem dX4_best_43 : decode cX4_best 43 = .ok (.iconst 0, 1) := by decide +kernel
theorem dX4_best_44 : decode cX4_best 44 = .ok (.istore 7, 2) := by decide +kernel
theorem dX4_best_46 : decode cX4_best 46 = .ok (.iload 7, 2) := by decide +kernel
theorem dX4_best_48 : decode cX4_best 48 = .ok (.bipush 40, 2) := by decide +kernel
theorem dX4_best_50 : decode cX4_best 50 = .ok (.if_icmp .gt 77, 3) := by decide +kernel
theorem dX4_best_53 : decode cX4_best 53 = .ok (.aload_n 0, 1) := by decide +kernel
theorem dX4_best_54 : decode cX4_best 54 = .ok (.getfield 23, 3) := by decide +kernel
theorem dX4_best_57 : decode cX4_best 57 = .ok (.iload_n 1, 1) := by decide +kernel
theorem dX4_best_58 : decode cX4_best 58 = .ok (.iload_n 2, 1) := by decide +kernel
theorem dX4_best_59 : decode cX4_best 59 = .ok (.iload_n 3, 1) := by decide +kernel
theorem dX4_best_60 : decode cX4_best 60 = .ok (.invokestatic 62, 3) := by decide +kernel
theorem dX4_best_63 : decode cX4_best 63 = .ok (.iload 7, 2) := by decide +kernel
theorem dX4_best_65 : decode cX4_best 65 = .ok (.iastore, 1) := by decide +kernel
theorem dX4_best_66 : decode cX4_best 66 = .ok (.aload_n 0, 1) := by decide +kernel
theorem dX4_best_67 : decode cX4_best 67 = .ok (.iload_n 1, 1) := by decide +kernel
theorem dX4_best_68 : decode cX4_best 68 = .ok (.invokevirtual 99, 3) := by decide +kernel
theorem dX4_best_71 : decode cX4_best 71 = .ok (.istore 8, 2) := by decide +kernel
theorem dX4_best_73 : decode cX4_best 73 = .ok (.iload 5, 2) := by decide +kernel
theorem dX4_best_75 : decode cX4_best 75 = .ok (.iconst (-1), 1) := by decide +kernel
theorem dX4_best_76 : decode cX4_best 76 = .ok (.if_icmp .eq 10, 3) := by decide +kernel
theorem dX4_best_79 : decode cX4_best 79 = .ok (.iload 8, 2) := by decide +kernel
theorem dX4_best_81 : decode cX4_best 81 = .ok (.iload 6, 2) := by decide +kernel
theorem dX4_best_83 : decode cX4_best 83 = .ok (.if_icmp .ge 7, 3) := by decide +kernel
theorem dX4_best_86 : decode cX4_best 86 = .ok (.iconst 1, 1) := by decide +kernel
theorem dX4_best_87 : decode cX4_best 87 = .ok (.goto 4, 3) := by decide +kernel
theorem dX4_best_90 : decode cX4_best 90 = .ok (.iconst 0, 1) := by decide +kernel
theorem dX4_best_91 : decode cX4_best 91 = .ok (.istore 9, 2) := by decide +kernel
theorem dX4_best_93 : decode cX4_best 93 = .ok (.iload 9, 2) := by decide +kernel
theorem dX4_best_95 : decode cX4_best 95 = .ok (.ifCond .eq 8, 3) := by decide +kernel
theorem dX4_best_98 : decode cX4_best 98 = .ok (.iload 7, 2) := by decide +kernel
theorem dX4_best_100 : decode cX4_best 100 = .ok (.goto 5, 3) := by decide +kernel
theorem dX4_best_103 : decode cX4_best 103 = .ok (.iload 5, 2) := by decide +kernel
theorem dX4_best_105 : decode cX4_best 105 = .ok (.istore 5, 2) := by decide +kernel
theorem dX4_best_107 : decode cX4_best 107 = .ok (.iload 9, 2) := by decide +kernel
theorem dX4_best_109 : decode cX4_best 109 = .ok (.ifCond .eq 8, 3) := by decide +kernel
theorem dX4_best_112 : decode cX4_best 112 = .ok (.iload 8, 2) := by decide +kernel
theorem dX4_best_114 : decode cX4_best 114 = .ok (.goto 5, 3) := by decide +kernel
theorem dX4_best_117 : decode cX4_best 117 = .ok (.iload 6, 2) := by decide +kernel
theorem dX4_best_119 : decode cX4_best 119 = .ok (.istore 6, 2) := by decide +kernel
theorem dX4_best_121 : decode cX4_best 121 = .ok (.iinc 7 1, 3) := by decide +kernel
theorem dX4_best_124 : decode cX4_best 124 = .ok (.goto (-78), 3) := by decide +kernel
theorem dX4_best_127 : decode cX4_best 127 = .ok (.aload_n 0, 1) := by decide +kernel
theorem dX4_best_128 : decode cX4_best 128 = .ok (.getfield 23, 3) := by decide +kernel
theorem dX4_best_131 : decode cX4_best 131 = .ok (.iload_n 1, 1) := by decide +kernel
theorem dX4_best_132 : decode cX4_best 132 = .ok (.iload_n 2, 1) := by decide +kernel
theorem dX4_best_133 : decode cX4_best 133 = .ok (.iload_n 3, 1) := by decide +kernel
theorem dX4_best_134 : decode cX4_best 134 = .ok (.invokestatic 62, 3) := by decide +kernel
theorem dX4_best_137 : decode cX4_best 137 = .ok (.iload 4, 2) := by decide +kernel
theorem dX4_best_139 : decode cX4_best 139 = .ok (.iastore, 1) := by decide +kernel
theorem dX4_best_140 : decode cX4_best 140 = .ok (.iload 5, 2) := by decide +kernel
theorem dX4_best_142 : decode cX4_best 142 = .ok (.ireturn, 1) := by decide +kernel
set_option maxRecDepth 20000 in
theorem ggX4_movement_X4_isNote : GoodIn wsX4_movement wsX4_isNote := goodIn_r _ [7, 1, 8, 9, 10, 6, 11, 12, 13, 14, 15, 27, 28, 29, 30, 31, 32, 33, 34, 35, 36, 37, 38, 39, 40] (by decide +kernel) (by decide +kernel)
set_option maxRecDepth 20000 in
theorem gX4_movement_X4_isNote : GoodIn wsX4_movement (wsV RX4 70 RX4 yX4_isNote wsX4_isNote) := goodIn_app (goodIn_of _ (by decide +kernel)) ggX4_movement_X4_isNote
set_option maxRecDepth 20000 in
theorem ggX4_movement_X4_fails : GoodIn wsX4_movement wsX4_fails := goodIn_r _ [19, 20, 27, 28, 29, 30, 31, 32, 33, 34, 35, 36, 37, 38, 39, 40] (by decide +kernel) (by decide +kernel)
set_option maxRecDepth 20000 in
theorem gX4_movement_X4_fails : GoodIn wsX4_movement (wsV RX4 59 RX4 yX4_fails wsX4_fails) := goodIn_app (goodIn_of _ (by decide +kernel)) ggX4_movement_X4_fails
set_option maxRecDepth 20000 in
theorem ggX4_movement_X4_at : GoodIn wsX4_movement wsX4_at := goodIn_r _ [23] (by decide +kernel) (by decide +kernel)
set_option maxRecDepth 20000 in
theorem gX4_movement_X4_at : GoodIn wsX4_movement (va_wsS RX4 62 yX4_at wsX4_at) := goodIn_app (goodIn_of _ (by decide +kernel)) ggX4_movement_X4_at
set_option maxRecDepth 20000 in
theorem ggX4_movement_X4_away : GoodIn wsX4_movement wsX4_away := goodIn_r _ [26] (by decide +kernel) (by decide +kernel)
set_option maxRecDepth 20000 in
theorem gX4_movement_X4_away : GoodIn wsX4_movement (va_wsS RX4 84 yX4_away wsX4_away) := goodIn_app (goodIn_of _ (by decide +kernel)) ggX4_movement_X4_away
theorem dX4_movement_0 : decode cX4_movement 0 = .ok (.aload_n 0, 1) := by decide +kernel
theorem dX4_movement_1 : decode cX4_movement 1 = .ok (.aload_n 0, 1) := by decide +kernel
theorem dX4_movement_2 : decode cX4_movement 2 = .ok (.iload_n 1, 1) := by decide +kernel
theorem dX4_movement_3 : decode cX4_movement 3 = .ok (.iload_n 2, 1) := by decide +kernel
theorem dX4_movement_4 : decode cX4_movement 4 = .ok (.iconst 0, 1) := by decide +kernel
theorem dX4_movement_5 : decode cX4_movement 5 = .ok (.invokevirtual 70, 3) := by decide +kernel
theorem dX4_movement_8 : decode cX4_movement 8 = .ok (.ifCond .eq 7, 3) := by decide +kernel
theorem dX4_movement_11 : decode cX4_movement 11 = .ok (.iconst 0, 1) := by decide +kernel
theorem dX4_movement_12 : decode cX4_movement 12 = .ok (.goto 4, 3) := by decide +kernel
theorem dX4_movement_15 : decode cX4_movement 15 = .ok (.iconst 1, 1) := by decide +kernel
theorem dX4_movement_16 : decode cX4_movement 16 = .ok (.invokevirtual 59, 3) := by decide +kernel
theorem dX4_movement_19 : decode cX4_movement 19 = .ok (.ifCond .ne 13, 3) := by decide +kernel
theorem dX4_movement_22 : decode cX4_movement 22 = .ok (.aload_n 0, 1) := by decide +kernel
theorem dX4_movement_23 : decode cX4_movement 23 = .ok (.getfield 7, 3) := by decide +kernel
theorem dX4_movement_26 : decode cX4_movement 26 = .ok (.iload_n 1, 1) := by decide +kernel
theorem dX4_movement_27 : decode cX4_movement 27 = .ok (.iaload, 1) := by decide +kernel
theorem dX4_movement_28 : decode cX4_movement 28 = .ok (.iconst 1, 1) := by decide +kernel
theorem dX4_movement_29 : decode cX4_movement 29 = .ok (.if_icmp .ne 5, 3) := by decide +kernel
theorem dX4_movement_32 : decode cX4_movement 32 = .ok (.fconst 0, 1) := by decide +kernel
theorem dX4_movement_33 : decode cX4_movement 33 = .ok (.freturn, 1) := by decide +kernel
theorem dX4_movement_34 : decode cX4_movement 34 = .ok (.iconst 0, 1) := by decide +kernel
theorem dX4_movement_35 : decode cX4_movement 35 = .ok (.istore_n 3, 1) := by decide +kernel
theorem dX4_movement_36 : decode cX4_movement 36 = .ok (.iconst 1, 1) := by decide +kernel
theorem dX4_movement_37 : decode cX4_movement 37 = .ok (.istore 4, 2) := by decide +kernel
theorem dX4_movement_39 : decode cX4_movement 39 = .ok (.iload 4, 2) := by decide +kernel
theorem dX4_movement_41 : decode cX4_movement 41 = .ok (.aload_n 0, 1) := by decide +kernel
theorem dX4_movement_42 : decode cX4_movement 42 = .ok (.getfield 7, 3) := by decide +kernel
theorem dX4_movement_45 : decode cX4_movement 45 = .ok (.iload_n 1, 1) := by decide +kernel
theorem dX4_movement_46 : decode cX4_movement 46 = .ok (.iaload, 1) := by decide +kernel
theorem dX4_movement_47 : decode cX4_movement 47 = .ok (.if_icmp .ge 41, 3) := by decide +kernel
theorem dX4_movement_50 : decode cX4_movement 50 = .ok (.iload_n 3, 1) := by decide +kernel
theorem dX4_movement_51 : decode cX4_movement 51 = .ok (.aload_n 0, 1) := by decide +kernel
theorem dX4_movement_52 : decode cX4_movement 52 = .ok (.getfield 23, 3) := by decide +kernel
theorem dX4_movement_55 : decode cX4_movement 55 = .ok (.iload_n 1, 1) := by decide +kernel
theorem dX4_movement_56 : decode cX4_movement 56 = .ok (.iload_n 2, 1) := by decide +kernel
theorem dX4_movement_57 : decode cX4_movement 57 = .ok (.iload 4, 2) := by decide +kernel
theorem dX4_movement_59 : decode cX4_movement 59 = .ok (.invokestatic 62, 3) := by decide +kernel
theorem dX4_movement_62 : decode cX4_movement 62 = .ok (.iaload, 1) := by decide +kernel
theorem dX4_movement_63 : decode cX4_movement 63 = .ok (.aload_n 0, 1) := by decide +kernel
theorem dX4_movement_64 : decode cX4_movement 64 = .ok (.getfield 23, 3) := by decide +kernel
theorem dX4_movement_67 : decode cX4_movement 67 = .ok (.iload_n 1, 1) := by decide +kernel
theorem dX4_movement_68 : decode cX4_movement 68 = .ok (.iload_n 2, 1) := by decide +kernel
theorem dX4_movement_69 : decode cX4_movement 69 = .ok (.iload 4, 2) := by decide +kernel
theorem dX4_movement_71 : decode cX4_movement 71 = .ok (.iconst 1, 1) := by decide +kernel
theorem dX4_movement_72 : decode cX4_movement 72 = .ok (.isub, 1) := by decide +kernel
theorem dX4_movement_73 : decode cX4_movement 73 = .ok (.invokestatic 62, 3) := by decide +kernel
theorem dX4_movement_76 : decode cX4_movement 76 = .ok (.iaload, 1) := by decide +kernel
theorem dX4_movement_77 : decode cX4_movement 77 = .ok (.invokestatic 84, 3) := by decide +kernel
theorem dX4_movement_80 : decode cX4_movement 80 = .ok (.iadd, 1) := by decide +kernel
theorem dX4_movement_81 : decode cX4_movement 81 = .ok (.istore_n 3, 1) := by decide +kernel
theorem dX4_movement_82 : decode cX4_movement 82 = .ok (.iinc 4 1, 3) := by decide +kernel
theorem dX4_movement_85 : decode cX4_movement 85 = .ok (.goto (-46), 3) := by decide +kernel
theorem dX4_movement_88 : decode cX4_movement 88 = .ok (.iload_n 3, 1) := by decide +kernel
theorem dX4_movement_89 : decode cX4_movement 89 = .ok (.i2f, 1) := by decide +kernel
theorem dX4_movement_90 : decode cX4_movement 90 = .ok (.aload_n 0, 1) := by decide +kernel
theorem dX4_movement_91 : decode cX4_movement 91 = .ok (.getfield 7, 3) := by decide +kernel
theorem dX4_movement_94 : decode cX4_movement 94 = .ok (.iload_n 1, 1) := by decide +kernel
theorem dX4_movement_95 : decode cX4_movement 95 = .ok (.iaload, 1) := by decide +kernel
theorem dX4_movement_96 : decode cX4_movement 96 = .ok (.iconst 1, 1) := by decide +kernel
theorem dX4_movement_97 : decode cX4_movement 97 = .ok (.isub, 1) := by decide +kernel
theorem dX4_movement_98 : decode cX4_movement 98 = .ok (.i2f, 1) := by decide +kernel
theorem dX4_movement_99 : decode cX4_movement 99 = .ok (.fdiv, 1) := by decide +kernel
theorem dX4_movement_100 : decode cX4_movement 100 = .ok (.freturn, 1) := by decide +kernel
set_option maxRecDepth 20000 in
theorem ggX4_isCopy_X4_isIn : GoodIn wsX4_isCopy wsX4_isIn := goodIn_r _ [5] (by decide +kernel) (by decide +kernel)
set_option maxRecDepth 20000 in
theorem gX4_isCopy_X4_isIn : GoodIn wsX4_isCopy (va_wsS RX4 51 yX4_isIn wsX4_isIn) := goodIn_app (goodIn_of _ (by decide +kernel)) ggX4_isCopy_X4_isIn
theorem dX4_isCopy_0 : decode cX4_isCopy 0 = .ok (.iload_n 1, 1) := by decide +kernel
theorem dX4_isCopy_1 : decode cX4_isCopy 1 = .ok (.iconst 0, 1) := by decide +kernel
theorem dX4_isCopy_2 : decode cX4_isCopy 2 = .ok (.aload_n 0, 1) := by decide +kernel
theorem dX4_isCopy_3 : decode cX4_isCopy 3 = .ok (.getfield 105, 3) := by decide +kernel
theorem dX4_isCopy_6 : decode cX4_isCopy 6 = .ok (.iconst 1, 1) := by decide +kernel
theorem dX4_isCopy_7 : decode cX4_isCopy 7 = .ok (.isub, 1) := by decide +kernel
theorem dX4_isCopy_8 : decode cX4_isCopy 8 = .ok (.invokestatic 51, 3) := by decide +kernel
theorem dX4_isCopy_11 : decode cX4_isCopy 11 = .ok (.ireturn, 1) := by decide +kernel
set_option maxRecDepth 20000 in
theorem ggX4_print_X4_isNote : GoodIn wsX4_print wsX4_isNote := goodIn_r _ [12, 4, 13, 14, 15, 11, 16, 17, 18, 19, 20, 29, 30, 31, 32, 33, 34, 35, 36, 37, 38, 39, 40, 41, 42] (by decide +kernel) (by decide +kernel)
set_option maxRecDepth 20000 in
theorem gX4_print_X4_isNote : GoodIn wsX4_print (wsV RX4 70 RX4 yX4_isNote wsX4_isNote) := goodIn_app (goodIn_of _ (by decide +kernel)) ggX4_print_X4_isNote
set_option maxRecDepth 20000 in
theorem ggX4_print_X4_fails : GoodIn wsX4_print wsX4_fails := goodIn_r _ [24, 25, 29, 30, 31, 32, 33, 34, 35, 36, 37, 38, 39, 40, 41, 42] (by decide +kernel) (by decide +kernel)
set_option maxRecDepth 20000 in
theorem gX4_print_X4_fails : GoodIn wsX4_print (wsV RX4 59 RX4 yX4_fails wsX4_fails) := goodIn_app (goodIn_of _ (by decide +kernel)) ggX4_print_X4_fails
set_option maxRecDepth 20000 in
theorem ggX4_print_X4_at : GoodIn wsX4_print wsX4_at := goodIn_r _ [28] (by decide +kernel) (by decide +kernel)
set_option maxRecDepth 20000 in
theorem gX4_print_X4_at : GoodIn wsX4_print (va_wsS RX4 62 yX4_at wsX4_at) := goodIn_app (goodIn_of _ (by decide +kernel)) ggX4_print_X4_at
theorem dX4_print_0 : decode cX4_print 0 = .ok (.aload_n 0, 1) := by decide +kernel
theorem dX4_print_1 : decode cX4_print 1 = .ok (.iload_n 1, 1) := by decide +kernel
theorem dX4_print_2 : decode cX4_print 2 = .ok (.iload_n 2, 1) := by decide +kernel
theorem dX4_print_3 : decode cX4_print 3 = .ok (.iconst 0, 1) := by decide +kernel
theorem dX4_print_4 : decode cX4_print 4 = .ok (.invokevirtual 70, 3) := by decide +kernel
theorem dX4_print_7 : decode cX4_print 7 = .ok (.istore_n 3, 1) := by decide +kernel
theorem dX4_print_8 : decode cX4_print 8 = .ok (.aload_n 0, 1) := by decide +kernel
theorem dX4_print_9 : decode cX4_print 9 = .ok (.iload_n 3, 1) := by decide +kernel
theorem dX4_print_10 : decode cX4_print 10 = .ok (.ifCond .ne 7, 3) := by decide +kernel
theorem dX4_print_13 : decode cX4_print 13 = .ok (.iconst 1, 1) := by decide +kernel
theorem dX4_print_14 : decode cX4_print 14 = .ok (.goto 17, 3) := by decide +kernel
theorem dX4_print_17 : decode cX4_print 17 = .ok (.aload_n 0, 1) := by decide +kernel
theorem dX4_print_18 : decode cX4_print 18 = .ok (.getfield 105, 3) := by decide +kernel
theorem dX4_print_21 : decode cX4_print 21 = .ok (.bipush 20, 2) := by decide +kernel
theorem dX4_print_23 : decode cX4_print 23 = .ok (.if_icmp .ne 7, 3) := by decide +kernel
theorem dX4_print_26 : decode cX4_print 26 = .ok (.iconst 2, 1) := by decide +kernel
theorem dX4_print_27 : decode cX4_print 27 = .ok (.goto 4, 3) := by decide +kernel
theorem dX4_print_30 : decode cX4_print 30 = .ok (.iconst 0, 1) := by decide +kernel
theorem dX4_print_31 : decode cX4_print 31 = .ok (.invokevirtual 59, 3) := by decide +kernel
theorem dX4_print_34 : decode cX4_print 34 = .ok (.ifCond .eq 5, 3) := by decide +kernel
theorem dX4_print_37 : decode cX4_print 37 = .ok (.iconst 0, 1) := by decide +kernel
theorem dX4_print_38 : decode cX4_print 38 = .ok (.ireturn, 1) := by decide +kernel
theorem dX4_print_39 : decode cX4_print 39 = .ok (.aload_n 0, 1) := by decide +kernel
theorem dX4_print_40 : decode cX4_print 40 = .ok (.getfield 16, 3) := by decide +kernel
theorem dX4_print_43 : decode cX4_print 43 = .ok (.iload_n 1, 1) := by decide +kernel
theorem dX4_print_44 : decode cX4_print 44 = .ok (.iconst 1, 1) := by decide +kernel
theorem dX4_print_45 : decode cX4_print 45 = .ok (.bastore, 1) := by decide +kernel
theorem dX4_print_46 : decode cX4_print 46 = .ok (.aload_n 0, 1) := by decide +kernel
theorem dX4_print_47 : decode cX4_print 47 = .ok (.getfield 33, 3) := by decide +kernel
theorem dX4_print_50 : decode cX4_print 50 = .ok (.aload_n 0, 1) := by decide +kernel
theorem dX4_print_51 : decode cX4_print 51 = .ok (.getfield 105, 3) := by decide +kernel
theorem dX4_print_54 : decode cX4_print 54 = .ok (.aload_n 0, 1) := by decide +kernel
theorem dX4_print_55 : decode cX4_print 55 = .ok (.getfield 7, 3) := by decide +kernel
theorem dX4_print_58 : decode cX4_print 58 = .ok (.iload_n 1, 1) := by decide +kernel
theorem dX4_print_59 : decode cX4_print 59 = .ok (.iaload, 1) := by decide +kernel
theorem dX4_print_60 : decode cX4_print 60 = .ok (.iastore, 1) := by decide +kernel
theorem dX4_print_61 : decode cX4_print 61 = .ok (.aload_n 0, 1) := by decide +kernel
theorem dX4_print_62 : decode cX4_print 62 = .ok (.getfield 36, 3) := by decide +kernel
theorem dX4_print_65 : decode cX4_print 65 = .ok (.aload_n 0, 1) := by decide +kernel
theorem dX4_print_66 : decode cX4_print 66 = .ok (.getfield 105, 3) := by decide +kernel
theorem dX4_print_69 : decode cX4_print 69 = .ok (.iload_n 2, 1) := by decide +kernel
theorem dX4_print_70 : decode cX4_print 70 = .ok (.iastore, 1) := by decide +kernel
theorem dX4_print_71 : decode cX4_print 71 = .ok (.iconst 0, 1) := by decide +kernel
theorem dX4_print_72 : decode cX4_print 72 = .ok (.istore 4, 2) := by decide +kernel
theorem dX4_print_74 : decode cX4_print 74 = .ok (.iload 4, 2) := by decide +kernel
theorem dX4_print_76 : decode cX4_print 76 = .ok (.aload_n 0, 1) := by decide +kernel
theorem dX4_print_77 : decode cX4_print 77 = .ok (.getfield 7, 3) := by decide +kernel
theorem dX4_print_80 : decode cX4_print 80 = .ok (.iload_n 1, 1) := by decide +kernel
theorem dX4_print_81 : decode cX4_print 81 = .ok (.iaload, 1) := by decide +kernel
theorem dX4_print_82 : decode cX4_print 82 = .ok (.if_icmp .ge 36, 3) := by decide +kernel
theorem dX4_print_85 : decode cX4_print 85 = .ok (.aload_n 0, 1) := by decide +kernel
theorem dX4_print_86 : decode cX4_print 86 = .ok (.getfield 39, 3) := by decide +kernel
theorem dX4_print_89 : decode cX4_print 89 = .ok (.bipush 12, 2) := by decide +kernel
theorem dX4_print_91 : decode cX4_print 91 = .ok (.aload_n 0, 1) := by decide +kernel
theorem dX4_print_92 : decode cX4_print 92 = .ok (.getfield 105, 3) := by decide +kernel
theorem dX4_print_95 : decode cX4_print 95 = .ok (.imul, 1) := by decide +kernel
theorem dX4_print_96 : decode cX4_print 96 = .ok (.iload 4, 2) := by decide +kernel
theorem dX4_print_98 : decode cX4_print 98 = .ok (.iadd, 1) := by decide +kernel
theorem dX4_print_99 : decode cX4_print 99 = .ok (.aload_n 0, 1) := by decide +kernel
theorem dX4_print_100 : decode cX4_print 100 = .ok (.getfield 23, 3) := by decide +kernel
theorem dX4_print_103 : decode cX4_print 103 = .ok (.iload_n 1, 1) := by decide +kernel
theorem dX4_print_104 : decode cX4_print 104 = .ok (.iload_n 2, 1) := by decide +kernel
theorem dX4_print_105 : decode cX4_print 105 = .ok (.iload 4, 2) := by decide +kernel
theorem dX4_print_107 : decode cX4_print 107 = .ok (.invokestatic 62, 3) := by decide +kernel
theorem dX4_print_110 : decode cX4_print 110 = .ok (.iaload, 1) := by decide +kernel
theorem dX4_print_111 : decode cX4_print 111 = .ok (.iastore, 1) := by decide +kernel
theorem dX4_print_112 : decode cX4_print 112 = .ok (.iinc 4 1, 3) := by decide +kernel
theorem dX4_print_115 : decode cX4_print 115 = .ok (.goto (-41), 3) := by decide +kernel
theorem dX4_print_118 : decode cX4_print 118 = .ok (.aload_n 0, 1) := by decide +kernel
theorem dX4_print_119 : decode cX4_print 119 = .ok (.dup, 1) := by decide +kernel
theorem dX4_print_120 : decode cX4_print 120 = .ok (.getfield 105, 3) := by decide +kernel
theorem dX4_print_123 : decode cX4_print 123 = .ok (.iconst 1, 1) := by decide +kernel
theorem dX4_print_124 : decode cX4_print 124 = .ok (.iadd, 1) := by decide +kernel
theorem dX4_print_125 : decode cX4_print 125 = .ok (.putfield 105, 3) := by decide +kernel
theorem dX4_print_128 : decode cX4_print 128 = .ok (.aload_n 0, 1) := by decide +kernel
theorem dX4_print_129 : decode cX4_print 129 = .ok (.getfield 105, 3) := by decide +kernel
theorem dX4_print_132 : decode cX4_print 132 = .ok (.iconst 1, 1) := by decide +kernel
theorem dX4_print_133 : decode cX4_print 133 = .ok (.isub, 1) := by decide +kernel
theorem dX4_print_134 : decode cX4_print 134 = .ok (.ireturn, 1) := by decide +kernel
set_option maxRecDepth 20000 in
theorem ggX4_differs_X4_at : GoodIn wsX4_differs wsX4_at := goodIn_r _ [8] (by decide +kernel) (by decide +kernel)
set_option maxRecDepth 20000 in
theorem gX4_differs_X4_at : GoodIn wsX4_differs (va_wsS RX4 62 yX4_at wsX4_at) := goodIn_app (goodIn_of _ (by decide +kernel)) ggX4_differs_X4_at
theorem dX4_differs_0 : decode cX4_differs 0 = .ok (.iconst 0, 1) := by decide +kernel
theorem dX4_differs_1 : decode cX4_differs 1 = .ok (.istore_n 3, 1) := by decide +kernel
theorem dX4_differs_2 : decode cX4_differs 2 = .ok (.iconst 0, 1) := by decide +kernel
theorem dX4_differs_3 : decode cX4_differs 3 = .ok (.istore 4, 2) := by decide +kernel
theorem dX4_differs_5 : decode cX4_differs 5 = .ok (.iload 4, 2) := by decide +kernel
theorem dX4_differs_7 : decode cX4_differs 7 = .ok (.aload_n 0, 1) := by decide +kernel
theorem dX4_differs_8 : decode cX4_differs 8 = .ok (.getfield 7, 3) := by decide +kernel
theorem dX4_differs_11 : decode cX4_differs 11 = .ok (.iload_n 2, 1) := by decide +kernel
theorem dX4_differs_12 : decode cX4_differs 12 = .ok (.iaload, 1) := by decide +kernel
theorem dX4_differs_13 : decode cX4_differs 13 = .ok (.if_icmp .ge 52, 3) := by decide +kernel
theorem dX4_differs_16 : decode cX4_differs 16 = .ok (.iload_n 3, 1) := by decide +kernel
theorem dX4_differs_17 : decode cX4_differs 17 = .ok (.aload_n 0, 1) := by decide +kernel
theorem dX4_differs_18 : decode cX4_differs 18 = .ok (.getfield 39, 3) := by decide +kernel
theorem dX4_differs_21 : decode cX4_differs 21 = .ok (.bipush 12, 2) := by decide +kernel
theorem dX4_differs_23 : decode cX4_differs 23 = .ok (.iload_n 1, 1) := by decide +kernel
theorem dX4_differs_24 : decode cX4_differs 24 = .ok (.imul, 1) := by decide +kernel
theorem dX4_differs_25 : decode cX4_differs 25 = .ok (.iload 4, 2) := by decide +kernel
theorem dX4_differs_27 : decode cX4_differs 27 = .ok (.iadd, 1) := by decide +kernel
theorem dX4_differs_28 : decode cX4_differs 28 = .ok (.iaload, 1) := by decide +kernel
theorem dX4_differs_29 : decode cX4_differs 29 = .ok (.aload_n 0, 1) := by decide +kernel
theorem dX4_differs_30 : decode cX4_differs 30 = .ok (.getfield 23, 3) := by decide +kernel
theorem dX4_differs_33 : decode cX4_differs 33 = .ok (.iload_n 2, 1) := by decide +kernel
theorem dX4_differs_34 : decode cX4_differs 34 = .ok (.aload_n 0, 1) := by decide +kernel
theorem dX4_differs_35 : decode cX4_differs 35 = .ok (.getfield 36, 3) := by decide +kernel
theorem dX4_differs_38 : decode cX4_differs 38 = .ok (.iload_n 1, 1) := by decide +kernel
theorem dX4_differs_39 : decode cX4_differs 39 = .ok (.iaload, 1) := by decide +kernel
theorem dX4_differs_40 : decode cX4_differs 40 = .ok (.iload 4, 2) := by decide +kernel
theorem dX4_differs_42 : decode cX4_differs 42 = .ok (.invokestatic 62, 3) := by decide +kernel
theorem dX4_differs_45 : decode cX4_differs 45 = .ok (.iaload, 1) := by decide +kernel
theorem dX4_differs_46 : decode cX4_differs 46 = .ok (.if_icmp .eq 10, 3) := by decide +kernel
theorem dX4_differs_49 : decode cX4_differs 49 = .ok (.iconst 1, 1) := by decide +kernel
theorem dX4_differs_50 : decode cX4_differs 50 = .ok (.iload 4, 2) := by decide +kernel
theorem dX4_differs_52 : decode cX4_differs 52 = .ok (.ishl, 1) := by decide +kernel
theorem dX4_differs_53 : decode cX4_differs 53 = .ok (.goto 4, 3) := by decide +kernel
theorem dX4_differs_56 : decode cX4_differs 56 = .ok (.iconst 0, 1) := by decide +kernel
theorem dX4_differs_57 : decode cX4_differs 57 = .ok (.ior, 1) := by decide +kernel
theorem dX4_differs_58 : decode cX4_differs 58 = .ok (.istore_n 3, 1) := by decide +kernel
theorem dX4_differs_59 : decode cX4_differs 59 = .ok (.iinc 4 1, 3) := by decide +kernel
theorem dX4_differs_62 : decode cX4_differs 62 = .ok (.goto (-57), 3) := by decide +kernel
theorem dX4_differs_65 : decode cX4_differs 65 = .ok (.iload_n 3, 1) := by decide +kernel
theorem dX4_differs_66 : decode cX4_differs 66 = .ok (.ireturn, 1) := by decide +kernel
set_option maxRecDepth 20000 in
theorem ggX4_misses_X4_isCopy : GoodIn wsX4_misses wsX4_isCopy := goodIn_r _ [7, 8, 9, 10, 6, 11, 17, 18, 19, 20, 21, 22, 23, 24, 25, 26, 27, 28, 29, 30] (by decide +kernel) (by decide +kernel)
set_option maxRecDepth 20000 in
theorem gX4_misses_X4_isCopy : GoodIn wsX4_misses (wsV RX4 108 RX4 yX4_isCopy wsX4_isCopy) := goodIn_app (goodIn_of _ (by decide +kernel)) ggX4_misses_X4_isCopy
set_option maxRecDepth 20000 in
theorem ggX4_misses_X4_isVersion : GoodIn wsX4_misses wsX4_isVersion := goodIn_r _ [15, 16, 9, 10, 6, 11, 17, 18, 19, 20, 21, 22, 23, 24, 25, 26, 27, 28, 29, 30] (by decide +kernel) (by decide +kernel)
set_option maxRecDepth 20000 in
theorem gX4_misses_X4_isVersion : GoodIn wsX4_misses (wsV RX4 55 RX4 yX4_isVersion wsX4_isVersion) := goodIn_app (goodIn_of _ (by decide +kernel)) ggX4_misses_X4_isVersion
theorem dX4_misses_0 : decode cX4_misses 0 = .ok (.aload_n 0, 1) := by decide +kernel
theorem dX4_misses_1 : decode cX4_misses 1 = .ok (.iload_n 1, 1) := by decide +kernel
theorem dX4_misses_2 : decode cX4_misses 2 = .ok (.invokevirtual 108, 3) := by decide +kernel
theorem dX4_misses_5 : decode cX4_misses 5 = .ok (.ifCond .eq 11, 3) := by decide +kernel
theorem dX4_misses_8 : decode cX4_misses 8 = .ok (.aload_n 0, 1) := by decide +kernel
theorem dX4_misses_9 : decode cX4_misses 9 = .ok (.iload_n 2, 1) := by decide +kernel
theorem dX4_misses_10 : decode cX4_misses 10 = .ok (.invokevirtual 55, 3) := by decide +kernel
theorem dX4_misses_13 : decode cX4_misses 13 = .ok (.ifCond .ne 7, 3) := by decide +kernel
theorem dX4_misses_16 : decode cX4_misses 16 = .ok (.iconst 1, 1) := by decide +kernel
theorem dX4_misses_17 : decode cX4_misses 17 = .ok (.goto 23, 3) := by decide +kernel
theorem dX4_misses_20 : decode cX4_misses 20 = .ok (.aload_n 0, 1) := by decide +kernel
theorem dX4_misses_21 : decode cX4_misses 21 = .ok (.getfield 7, 3) := by decide +kernel
theorem dX4_misses_24 : decode cX4_misses 24 = .ok (.iload_n 2, 1) := by decide +kernel
theorem dX4_misses_25 : decode cX4_misses 25 = .ok (.iaload, 1) := by decide +kernel
theorem dX4_misses_26 : decode cX4_misses 26 = .ok (.aload_n 0, 1) := by decide +kernel
theorem dX4_misses_27 : decode cX4_misses 27 = .ok (.getfield 33, 3) := by decide +kernel
theorem dX4_misses_30 : decode cX4_misses 30 = .ok (.iload_n 1, 1) := by decide +kernel
theorem dX4_misses_31 : decode cX4_misses 31 = .ok (.iaload, 1) := by decide +kernel
theorem dX4_misses_32 : decode cX4_misses 32 = .ok (.if_icmp .ne 7, 3) := by decide +kernel
theorem dX4_misses_35 : decode cX4_misses 35 = .ok (.iconst 0, 1) := by decide +kernel
theorem dX4_misses_36 : decode cX4_misses 36 = .ok (.goto 4, 3) := by decide +kernel
theorem dX4_misses_39 : decode cX4_misses 39 = .ok (.iconst 2, 1) := by decide +kernel
theorem dX4_misses_40 : decode cX4_misses 40 = .ok (.ireturn, 1) := by decide +kernel
set_option maxRecDepth 20000 in
theorem ggX4_errata_X4_misses : GoodIn wsX4_errata wsX4_misses := goodIn_r _ [5, 6, 7, 8, 9, 10, 4, 11, 12, 13, 14, 15, 16, 17, 18, 19, 20, 36, 37, 38, 39, 40, 41, 42, 43, 44, 45, 46, 47, 48, 49] (by decide +kernel) (by decide +kernel)
set_option maxRecDepth 20000 in
theorem gX4_errata_X4_misses : GoodIn wsX4_errata (wsV RX4 111 RX4 yX4_misses wsX4_misses) := goodIn_app (goodIn_of _ (by decide +kernel)) ggX4_errata_X4_misses
set_option maxRecDepth 20000 in
theorem ggX4_errata_X4_fails : GoodIn wsX4_errata wsX4_fails := goodIn_r _ [24, 25, 36, 37, 38, 39, 40, 41, 42, 43, 44, 45, 46, 47, 48, 49] (by decide +kernel) (by decide +kernel)
set_option maxRecDepth 20000 in
theorem gX4_errata_X4_fails : GoodIn wsX4_errata (wsV RX4 59 RX4 yX4_fails wsX4_fails) := goodIn_app (goodIn_of _ (by decide +kernel)) ggX4_errata_X4_fails
set_option maxRecDepth 20000 in
theorem ggX4_errata_X4_differs : GoodIn wsX4_errata wsX4_differs := goodIn_r _ [29, 6, 30, 31, 32, 33, 34, 4, 35, 36, 37, 38, 39, 40, 41, 42, 43, 44, 45, 46, 47, 48, 49] (by decide +kernel) (by decide +kernel)
set_option maxRecDepth 20000 in
theorem gX4_errata_X4_differs : GoodIn wsX4_errata (wsV RX4 114 RX4 yX4_differs wsX4_differs) := goodIn_app (goodIn_of _ (by decide +kernel)) ggX4_errata_X4_differs
theorem dX4_errata_0 : decode cX4_errata 0 = .ok (.aload_n 0, 1) := by decide +kernel
theorem dX4_errata_1 : decode cX4_errata 1 = .ok (.aload_n 0, 1) := by decide +kernel
theorem dX4_errata_2 : decode cX4_errata 2 = .ok (.iload_n 1, 1) := by decide +kernel
theorem dX4_errata_3 : decode cX4_errata 3 = .ok (.iload_n 2, 1) := by decide +kernel
theorem dX4_errata_4 : decode cX4_errata 4 = .ok (.invokevirtual 111, 3) := by decide +kernel
theorem dX4_errata_7 : decode cX4_errata 7 = .ok (.invokevirtual 59, 3) := by decide +kernel
theorem dX4_errata_10 : decode cX4_errata 10 = .ok (.ifCond .eq 7, 3) := by decide +kernel
theorem dX4_errata_13 : decode cX4_errata 13 = .ok (.iconst 0, 1) := by decide +kernel
theorem dX4_errata_14 : decode cX4_errata 14 = .ok (.goto 9, 3) := by decide +kernel
theorem dX4_errata_17 : decode cX4_errata 17 = .ok (.aload_n 0, 1) := by decide +kernel
theorem dX4_errata_18 : decode cX4_errata 18 = .ok (.iload_n 1, 1) := by decide +kernel
theorem dX4_errata_19 : decode cX4_errata 19 = .ok (.iload_n 2, 1) := by decide +kernel
theorem dX4_errata_20 : decode cX4_errata 20 = .ok (.invokevirtual 114, 3) := by decide +kernel
theorem dX4_errata_23 : decode cX4_errata 23 = .ok (.ireturn, 1) := by decide +kernel
set_option maxRecDepth 20000 in
theorem ggX4_slip_X4_misses : GoodIn wsX4_slip wsX4_misses := goodIn_r _ [10, 1, 11, 12, 13, 14, 9, 15, 16, 17, 18, 19, 20, 21, 22, 23, 24, 37, 38, 39, 40, 41, 42, 43, 44, 45, 46, 47, 48, 49, 50] (by decide +kernel) (by decide +kernel)
set_option maxRecDepth 20000 in
theorem gX4_slip_X4_misses : GoodIn wsX4_slip (wsV RX4 111 RX4 yX4_misses wsX4_misses) := goodIn_app (goodIn_of _ (by decide +kernel)) ggX4_slip_X4_misses
set_option maxRecDepth 20000 in
theorem ggX4_slip_X4_fails : GoodIn wsX4_slip wsX4_fails := goodIn_r _ [28, 29, 37, 38, 39, 40, 41, 42, 43, 44, 45, 46, 47, 48, 49, 50] (by decide +kernel) (by decide +kernel)
set_option maxRecDepth 20000 in
theorem gX4_slip_X4_fails : GoodIn wsX4_slip (wsV RX4 59 RX4 yX4_fails wsX4_fails) := goodIn_app (goodIn_of _ (by decide +kernel)) ggX4_slip_X4_fails
set_option maxRecDepth 20000 in
theorem ggX4_slip_X4_differs : GoodIn wsX4_slip wsX4_differs := goodIn_r _ [33, 1, 2, 3, 4, 34, 35, 9, 36, 37, 38, 39, 40, 41, 42, 43, 44, 45, 46, 47, 48, 49, 50] (by decide +kernel) (by decide +kernel)
set_option maxRecDepth 20000 in
theorem gX4_slip_X4_differs : GoodIn wsX4_slip (wsV RX4 114 RX4 yX4_differs wsX4_differs) := goodIn_app (goodIn_of _ (by decide +kernel)) ggX4_slip_X4_differs
set_option maxRecDepth 20000 in
theorem ggX4_slip_X4_at : GoodIn wsX4_slip wsX4_at := goodIn_r _ [36] (by decide +kernel) (by decide +kernel)
set_option maxRecDepth 20000 in
theorem gX4_slip_X4_at : GoodIn wsX4_slip (va_wsS RX4 62 yX4_at wsX4_at) := goodIn_app (goodIn_of _ (by decide +kernel)) ggX4_slip_X4_at
theorem dX4_slip_0 : decode cX4_slip 0 = .ok (.aload_n 0, 1) := by decide +kernel
theorem dX4_slip_1 : decode cX4_slip 1 = .ok (.aload_n 0, 1) := by decide +kernel
theorem dX4_slip_2 : decode cX4_slip 2 = .ok (.iload_n 1, 1) := by decide +kernel
theorem dX4_slip_3 : decode cX4_slip 3 = .ok (.iload_n 2, 1) := by decide +kernel
theorem dX4_slip_4 : decode cX4_slip 4 = .ok (.invokevirtual 111, 3) := by decide +kernel
theorem dX4_slip_7 : decode cX4_slip 7 = .ok (.invokevirtual 59, 3) := by decide +kernel
theorem dX4_slip_10 : decode cX4_slip 10 = .ok (.ifCond .eq 5, 3) := by decide +kernel
theorem dX4_slip_13 : decode cX4_slip 13 = .ok (.iconst 0, 1) := by decide +kernel
theorem dX4_slip_14 : decode cX4_slip 14 = .ok (.ireturn, 1) := by decide +kernel
theorem dX4_slip_15 : decode cX4_slip 15 = .ok (.aload_n 0, 1) := by decide +kernel
theorem dX4_slip_16 : decode cX4_slip 16 = .ok (.iload_n 1, 1) := by decide +kernel
theorem dX4_slip_17 : decode cX4_slip 17 = .ok (.iload_n 2, 1) := by decide +kernel
theorem dX4_slip_18 : decode cX4_slip 18 = .ok (.invokevirtual 114, 3) := by decide +kernel
theorem dX4_slip_21 : decode cX4_slip 21 = .ok (.istore_n 3, 1) := by decide +kernel
theorem dX4_slip_22 : decode cX4_slip 22 = .ok (.iconst 0, 1) := by decide +kernel
theorem dX4_slip_23 : decode cX4_slip 23 = .ok (.istore 4, 2) := by decide +kernel
theorem dX4_slip_25 : decode cX4_slip 25 = .ok (.iconst 0, 1) := by decide +kernel
theorem dX4_slip_26 : decode cX4_slip 26 = .ok (.istore 5, 2) := by decide +kernel
theorem dX4_slip_28 : decode cX4_slip 28 = .ok (.iload 5, 2) := by decide +kernel
theorem dX4_slip_30 : decode cX4_slip 30 = .ok (.aload_n 0, 1) := by decide +kernel
theorem dX4_slip_31 : decode cX4_slip 31 = .ok (.getfield 7, 3) := by decide +kernel
theorem dX4_slip_34 : decode cX4_slip 34 = .ok (.iload_n 2, 1) := by decide +kernel
theorem dX4_slip_35 : decode cX4_slip 35 = .ok (.iaload, 1) := by decide +kernel
theorem dX4_slip_36 : decode cX4_slip 36 = .ok (.if_icmp .ge 49, 3) := by decide +kernel
theorem dX4_slip_39 : decode cX4_slip 39 = .ok (.iload 4, 2) := by decide +kernel
theorem dX4_slip_41 : decode cX4_slip 41 = .ok (.iload_n 3, 1) := by decide +kernel
theorem dX4_slip_42 : decode cX4_slip 42 = .ok (.iload 5, 2) := by decide +kernel
theorem dX4_slip_44 : decode cX4_slip 44 = .ok (.ishr, 1) := by decide +kernel
theorem dX4_slip_45 : decode cX4_slip 45 = .ok (.iconst 1, 1) := by decide +kernel
theorem dX4_slip_46 : decode cX4_slip 46 = .ok (.iand, 1) := by decide +kernel
theorem dX4_slip_47 : decode cX4_slip 47 = .ok (.iadd, 1) := by decide +kernel
theorem dX4_slip_48 : decode cX4_slip 48 = .ok (.istore 4, 2) := by decide +kernel
theorem dX4_slip_50 : decode cX4_slip 50 = .ok (.aload_n 0, 1) := by decide +kernel
theorem dX4_slip_51 : decode cX4_slip 51 = .ok (.getfield 39, 3) := by decide +kernel
theorem dX4_slip_54 : decode cX4_slip 54 = .ok (.bipush 12, 2) := by decide +kernel
theorem dX4_slip_56 : decode cX4_slip 56 = .ok (.iload_n 1, 1) := by decide +kernel
theorem dX4_slip_57 : decode cX4_slip 57 = .ok (.imul, 1) := by decide +kernel
theorem dX4_slip_58 : decode cX4_slip 58 = .ok (.iload 5, 2) := by decide +kernel
theorem dX4_slip_60 : decode cX4_slip 60 = .ok (.iadd, 1) := by decide +kernel
theorem dX4_slip_61 : decode cX4_slip 61 = .ok (.aload_n 0, 1) := by decide +kernel
theorem dX4_slip_62 : decode cX4_slip 62 = .ok (.getfield 23, 3) := by decide +kernel
theorem dX4_slip_65 : decode cX4_slip 65 = .ok (.iload_n 2, 1) := by decide +kernel
theorem dX4_slip_66 : decode cX4_slip 66 = .ok (.aload_n 0, 1) := by decide +kernel
theorem dX4_slip_67 : decode cX4_slip 67 = .ok (.getfield 36, 3) := by decide +kernel
theorem dX4_slip_70 : decode cX4_slip 70 = .ok (.iload_n 1, 1) := by decide +kernel
theorem dX4_slip_71 : decode cX4_slip 71 = .ok (.iaload, 1) := by decide +kernel
theorem dX4_slip_72 : decode cX4_slip 72 = .ok (.iload 5, 2) := by decide +kernel
theorem dX4_slip_74 : decode cX4_slip 74 = .ok (.invokestatic 62, 3) := by decide +kernel
theorem dX4_slip_77 : decode cX4_slip 77 = .ok (.iaload, 1) := by decide +kernel
theorem dX4_slip_78 : decode cX4_slip 78 = .ok (.iastore, 1) := by decide +kernel
theorem dX4_slip_79 : decode cX4_slip 79 = .ok (.iinc 5 1, 3) := by decide +kernel
theorem dX4_slip_82 : decode cX4_slip 82 = .ok (.goto (-54), 3) := by decide +kernel
theorem dX4_slip_85 : decode cX4_slip 85 = .ok (.aload_n 0, 1) := by decide +kernel
theorem dX4_slip_86 : decode cX4_slip 86 = .ok (.getfield 42, 3) := by decide +kernel
theorem dX4_slip_89 : decode cX4_slip 89 = .ok (.iload_n 1, 1) := by decide +kernel
theorem dX4_slip_90 : decode cX4_slip 90 = .ok (.dup2, 1) := by decide +kernel
theorem dX4_slip_91 : decode cX4_slip 91 = .ok (.iaload, 1) := by decide +kernel
theorem dX4_slip_92 : decode cX4_slip 92 = .ok (.iload 4, 2) := by decide +kernel
theorem dX4_slip_94 : decode cX4_slip 94 = .ok (.iadd, 1) := by decide +kernel
theorem dX4_slip_95 : decode cX4_slip 95 = .ok (.iastore, 1) := by decide +kernel
theorem dX4_slip_96 : decode cX4_slip 96 = .ok (.iload 4, 2) := by decide +kernel
theorem dX4_slip_98 : decode cX4_slip 98 = .ok (.ireturn, 1) := by decide +kernel
set_option maxRecDepth 20000 in
theorem ggX4_slips_X4_isCopy : GoodIn wsX4_slips wsX4_isCopy := goodIn_r _ [6, 7, 8, 9, 5, 10, 16, 17, 18, 19, 20, 21, 22, 23, 24, 25, 26, 27, 28, 29] (by decide +kernel) (by decide +kernel)
set_option maxRecDepth 20000 in
theorem gX4_slips_X4_isCopy : GoodIn wsX4_slips (wsV RX4 108 RX4 yX4_isCopy wsX4_isCopy) := goodIn_app (goodIn_of _ (by decide +kernel)) ggX4_slips_X4_isCopy
set_option maxRecDepth 20000 in
theorem ggX4_slips_X4_fails : GoodIn wsX4_slips wsX4_fails := goodIn_r _ [14, 15, 16, 17, 18, 19, 20, 21, 22, 23, 24, 25, 26, 27, 28, 29] (by decide +kernel) (by decide +kernel)
set_option maxRecDepth 20000 in
theorem gX4_slips_X4_fails : GoodIn wsX4_slips (wsV RX4 59 RX4 yX4_fails wsX4_fails) := goodIn_app (goodIn_of _ (by decide +kernel)) ggX4_slips_X4_fails
theorem dX4_slips_0 : decode cX4_slips 0 = .ok (.aload_n 0, 1) := by decide +kernel
theorem dX4_slips_1 : decode cX4_slips 1 = .ok (.aload_n 0, 1) := by decide +kernel
theorem dX4_slips_2 : decode cX4_slips 2 = .ok (.iload_n 1, 1) := by decide +kernel
theorem dX4_slips_3 : decode cX4_slips 3 = .ok (.invokevirtual 108, 3) := by decide +kernel
theorem dX4_slips_6 : decode cX4_slips 6 = .ok (.ifCond .eq 7, 3) := by decide +kernel
theorem dX4_slips_9 : decode cX4_slips 9 = .ok (.iconst 0, 1) := by decide +kernel
theorem dX4_slips_10 : decode cX4_slips 10 = .ok (.goto 4, 3) := by decide +kernel
theorem dX4_slips_13 : decode cX4_slips 13 = .ok (.iconst 1, 1) := by decide +kernel
theorem dX4_slips_14 : decode cX4_slips 14 = .ok (.invokevirtual 59, 3) := by decide +kernel
theorem dX4_slips_17 : decode cX4_slips 17 = .ok (.ifCond .eq 7, 3) := by decide +kernel
theorem dX4_slips_20 : decode cX4_slips 20 = .ok (.iconst 0, 1) := by decide +kernel
theorem dX4_slips_21 : decode cX4_slips 21 = .ok (.goto 9, 3) := by decide +kernel
theorem dX4_slips_24 : decode cX4_slips 24 = .ok (.aload_n 0, 1) := by decide +kernel
theorem dX4_slips_25 : decode cX4_slips 25 = .ok (.getfield 42, 3) := by decide +kernel
theorem dX4_slips_28 : decode cX4_slips 28 = .ok (.iload_n 1, 1) := by decide +kernel
theorem dX4_slips_29 : decode cX4_slips 29 = .ok (.iaload, 1) := by decide +kernel
theorem dX4_slips_30 : decode cX4_slips 30 = .ok (.ireturn, 1) := by decide +kernel
theorem dJ6_bitCount_0f7a4_0 : decode cJ6_bitCount_0f7a4 0 = .ok (.iload_n 0, 1) := by decide +kernel
theorem dJ6_bitCount_0f7a4_1 : decode cJ6_bitCount_0f7a4 1 = .ok (.iload_n 0, 1) := by decide +kernel
theorem dJ6_bitCount_0f7a4_2 : decode cJ6_bitCount_0f7a4 2 = .ok (.iconst 1, 1) := by decide +kernel
theorem dJ6_bitCount_0f7a4_3 : decode cJ6_bitCount_0f7a4 3 = .ok (.iushr, 1) := by decide +kernel
theorem dJ6_bitCount_0f7a4_4 : decode cJ6_bitCount_0f7a4 4 = .ok (.ldc_w 265, 3) := by decide +kernel
theorem dJ6_bitCount_0f7a4_7 : decode cJ6_bitCount_0f7a4 7 = .ok (.iand, 1) := by decide +kernel
theorem dJ6_bitCount_0f7a4_8 : decode cJ6_bitCount_0f7a4 8 = .ok (.isub, 1) := by decide +kernel
theorem dJ6_bitCount_0f7a4_9 : decode cJ6_bitCount_0f7a4 9 = .ok (.istore_n 0, 1) := by decide +kernel
theorem dJ6_bitCount_0f7a4_10 : decode cJ6_bitCount_0f7a4 10 = .ok (.iload_n 0, 1) := by decide +kernel
theorem dJ6_bitCount_0f7a4_11 : decode cJ6_bitCount_0f7a4 11 = .ok (.ldc_w 266, 3) := by decide +kernel
theorem dJ6_bitCount_0f7a4_14 : decode cJ6_bitCount_0f7a4 14 = .ok (.iand, 1) := by decide +kernel
theorem dJ6_bitCount_0f7a4_15 : decode cJ6_bitCount_0f7a4 15 = .ok (.iload_n 0, 1) := by decide +kernel
theorem dJ6_bitCount_0f7a4_16 : decode cJ6_bitCount_0f7a4 16 = .ok (.iconst 2, 1) := by decide +kernel
theorem dJ6_bitCount_0f7a4_17 : decode cJ6_bitCount_0f7a4 17 = .ok (.iushr, 1) := by decide +kernel
theorem dJ6_bitCount_0f7a4_18 : decode cJ6_bitCount_0f7a4 18 = .ok (.ldc_w 266, 3) := by decide +kernel
theorem dJ6_bitCount_0f7a4_21 : decode cJ6_bitCount_0f7a4 21 = .ok (.iand, 1) := by decide +kernel
theorem dJ6_bitCount_0f7a4_22 : decode cJ6_bitCount_0f7a4 22 = .ok (.iadd, 1) := by decide +kernel
theorem dJ6_bitCount_0f7a4_23 : decode cJ6_bitCount_0f7a4 23 = .ok (.istore_n 0, 1) := by decide +kernel
theorem dJ6_bitCount_0f7a4_24 : decode cJ6_bitCount_0f7a4 24 = .ok (.iload_n 0, 1) := by decide +kernel
theorem dJ6_bitCount_0f7a4_25 : decode cJ6_bitCount_0f7a4 25 = .ok (.iload_n 0, 1) := by decide +kernel
theorem dJ6_bitCount_0f7a4_26 : decode cJ6_bitCount_0f7a4 26 = .ok (.iconst 4, 1) := by decide +kernel
theorem dJ6_bitCount_0f7a4_27 : decode cJ6_bitCount_0f7a4 27 = .ok (.iushr, 1) := by decide +kernel
theorem dJ6_bitCount_0f7a4_28 : decode cJ6_bitCount_0f7a4 28 = .ok (.iadd, 1) := by decide +kernel
theorem dJ6_bitCount_0f7a4_29 : decode cJ6_bitCount_0f7a4 29 = .ok (.ldc_w 267, 3) := by decide +kernel
theorem dJ6_bitCount_0f7a4_32 : decode cJ6_bitCount_0f7a4 32 = .ok (.iand, 1) := by decide +kernel
theorem dJ6_bitCount_0f7a4_33 : decode cJ6_bitCount_0f7a4 33 = .ok (.istore_n 0, 1) := by decide +kernel
theorem dJ6_bitCount_0f7a4_34 : decode cJ6_bitCount_0f7a4 34 = .ok (.iload_n 0, 1) := by decide +kernel
theorem dJ6_bitCount_0f7a4_35 : decode cJ6_bitCount_0f7a4 35 = .ok (.iload_n 0, 1) := by decide +kernel
theorem dJ6_bitCount_0f7a4_36 : decode cJ6_bitCount_0f7a4 36 = .ok (.bipush 8, 2) := by decide +kernel
theorem dJ6_bitCount_0f7a4_38 : decode cJ6_bitCount_0f7a4 38 = .ok (.iushr, 1) := by decide +kernel
theorem dJ6_bitCount_0f7a4_39 : decode cJ6_bitCount_0f7a4 39 = .ok (.iadd, 1) := by decide +kernel
theorem dJ6_bitCount_0f7a4_40 : decode cJ6_bitCount_0f7a4 40 = .ok (.istore_n 0, 1) := by decide +kernel
theorem dJ6_bitCount_0f7a4_41 : decode cJ6_bitCount_0f7a4 41 = .ok (.iload_n 0, 1) := by decide +kernel
theorem dJ6_bitCount_0f7a4_42 : decode cJ6_bitCount_0f7a4 42 = .ok (.iload_n 0, 1) := by decide +kernel
theorem dJ6_bitCount_0f7a4_43 : decode cJ6_bitCount_0f7a4 43 = .ok (.bipush 16, 2) := by decide +kernel
theorem dJ6_bitCount_0f7a4_45 : decode cJ6_bitCount_0f7a4 45 = .ok (.iushr, 1) := by decide +kernel
theorem dJ6_bitCount_0f7a4_46 : decode cJ6_bitCount_0f7a4 46 = .ok (.iadd, 1) := by decide +kernel
theorem dJ6_bitCount_0f7a4_47 : decode cJ6_bitCount_0f7a4 47 = .ok (.istore_n 0, 1) := by decide +kernel
theorem dJ6_bitCount_0f7a4_48 : decode cJ6_bitCount_0f7a4 48 = .ok (.iload_n 0, 1) := by decide +kernel
theorem dJ6_bitCount_0f7a4_49 : decode cJ6_bitCount_0f7a4 49 = .ok (.bipush 63, 2) := by decide +kernel
theorem dJ6_bitCount_0f7a4_51 : decode cJ6_bitCount_0f7a4 51 = .ok (.iand, 1) := by decide +kernel
theorem dJ6_bitCount_0f7a4_52 : decode cJ6_bitCount_0f7a4 52 = .ok (.ireturn, 1) := by decide +kernel
theorem dJ9_abs_0f7a4_0 : decode cJ9_abs_0f7a4 0 = .ok (.iload_n 0, 1) := by decide +kernel
theorem dJ9_abs_0f7a4_1 : decode cJ9_abs_0f7a4 1 = .ok (.ifCond .ge 8, 3) := by decide +kernel
theorem dJ9_abs_0f7a4_4 : decode cJ9_abs_0f7a4 4 = .ok (.iload_n 0, 1) := by decide +kernel
theorem dJ9_abs_0f7a4_5 : decode cJ9_abs_0f7a4 5 = .ok (.ineg, 1) := by decide +kernel
theorem dJ9_abs_0f7a4_6 : decode cJ9_abs_0f7a4 6 = .ok (.goto 4, 3) := by decide +kernel
theorem dJ9_abs_0f7a4_9 : decode cJ9_abs_0f7a4 9 = .ok (.iload_n 0, 1) := by decide +kernel
theorem dJ9_abs_0f7a4_10 : decode cJ9_abs_0f7a4 10 = .ok (.ireturn, 1) := by decide +kernel
theorem dJ9_max_7cf53_0 : decode cJ9_max_7cf53 0 = .ok (.iload_n 0, 1) := by decide +kernel
theorem dJ9_max_7cf53_1 : decode cJ9_max_7cf53 1 = .ok (.iload_n 1, 1) := by decide +kernel
theorem dJ9_max_7cf53_2 : decode cJ9_max_7cf53 2 = .ok (.if_icmp .lt 7, 3) := by decide +kernel
theorem dJ9_max_7cf53_5 : decode cJ9_max_7cf53 5 = .ok (.iload_n 0, 1) := by decide +kernel
theorem dJ9_max_7cf53_6 : decode cJ9_max_7cf53 6 = .ok (.goto 4, 3) := by decide +kernel
theorem dJ9_max_7cf53_9 : decode cJ9_max_7cf53 9 = .ok (.iload_n 1, 1) := by decide +kernel
theorem dJ9_max_7cf53_10 : decode cJ9_max_7cf53 10 = .ok (.ireturn, 1) := by decide +kernel
theorem dJ9_min_7cf53_0 : decode cJ9_min_7cf53 0 = .ok (.iload_n 0, 1) := by decide +kernel
theorem dJ9_min_7cf53_1 : decode cJ9_min_7cf53 1 = .ok (.iload_n 1, 1) := by decide +kernel
theorem dJ9_min_7cf53_2 : decode cJ9_min_7cf53 2 = .ok (.if_icmp .gt 7, 3) := by decide +kernel
theorem dJ9_min_7cf53_5 : decode cJ9_min_7cf53 5 = .ok (.iload_n 0, 1) := by decide +kernel
theorem dJ9_min_7cf53_6 : decode cJ9_min_7cf53 6 = .ok (.goto 4, 3) := by decide +kernel
theorem dJ9_min_7cf53_9 : decode cJ9_min_7cf53 9 = .ok (.iload_n 1, 1) := by decide +kernel
theorem dJ9_min_7cf53_10 : decode cJ9_min_7cf53 10 = .ok (.ireturn, 1) := by decide +kernel
