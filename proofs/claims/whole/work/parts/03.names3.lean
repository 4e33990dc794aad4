theorem dX6_come_95 : decode cX6_come 95 = .ok (.iload 6, 2) := by decide +kernel
theorem dX6_come_97 : decode cX6_come 97 = .ok (.iconst 0, 1) := by decide +kernel
theorem dX6_come_98 : decode cX6_come 98 = .ok (.invokevirtual 35, 3) := by decide +kernel
theorem dX6_come_101 : decode cX6_come 101 = .ok (.iinc 6 1, 3) := by decide +kernel
theorem dX6_come_104 : decode cX6_come 104 = .ok (.goto (-19), 3) := by decide +kernel
theorem dX6_come_107 : decode cX6_come 107 = .ok (.aload_n 0, 1) := by decide +kernel
theorem dX6_come_108 : decode cX6_come 108 = .ok (.iload 5, 2) := by decide +kernel
theorem dX6_come_110 : decode cX6_come 110 = .ok (.iconst 0, 1) := by decide +kernel
theorem dX6_come_111 : decode cX6_come 111 = .ok (.iload_n 1, 1) := by decide +kernel
theorem dX6_come_112 : decode cX6_come 112 = .ok (.invokevirtual 35, 3) := by decide +kernel
theorem dX6_come_115 : decode cX6_come 115 = .ok (.aload_n 0, 1) := by decide +kernel
theorem dX6_come_116 : decode cX6_come 116 = .ok (.iload 5, 2) := by decide +kernel
theorem dX6_come_118 : decode cX6_come 118 = .ok (.iconst 1, 1) := by decide +kernel
theorem dX6_come_119 : decode cX6_come 119 = .ok (.iload_n 3, 1) := by decide +kernel
theorem dX6_come_120 : decode cX6_come 120 = .ok (.invokevirtual 35, 3) := by decide +kernel
theorem dX6_come_123 : decode cX6_come 123 = .ok (.aload_n 0, 1) := by decide +kernel
theorem dX6_come_124 : decode cX6_come 124 = .ok (.iload 5, 2) := by decide +kernel
theorem dX6_come_126 : decode cX6_come 126 = .ok (.iconst 3, 1) := by decide +kernel
theorem dX6_come_127 : decode cX6_come 127 = .ok (.iload_n 2, 1) := by decide +kernel
theorem dX6_come_128 : decode cX6_come 128 = .ok (.invokevirtual 35, 3) := by decide +kernel
theorem dX6_come_131 : decode cX6_come 131 = .ok (.aload_n 0, 1) := by decide +kernel
theorem dX6_come_132 : decode cX6_come 132 = .ok (.iload 5, 2) := by decide +kernel
theorem dX6_come_134 : decode cX6_come 134 = .ok (.iconst 4, 1) := by decide +kernel
theorem dX6_come_135 : decode cX6_come 135 = .ok (.iload 5, 2) := by decide +kernel
theorem dX6_come_137 : decode cX6_come 137 = .ok (.invokevirtual 35, 3) := by decide +kernel
theorem dX6_come_140 : decode cX6_come 140 = .ok (.aload_n 0, 1) := by decide +kernel
theorem dX6_come_141 : decode cX6_come 141 = .ok (.getfield 7, 3) := by decide +kernel
theorem dX6_come_144 : decode cX6_come 144 = .ok (.iconst 1, 1) := by decide +kernel
theorem dX6_come_145 : decode cX6_come 145 = .ok (.dup2, 1) := by decide +kernel
theorem dX6_come_146 : decode cX6_come 146 = .ok (.iaload, 1) := by decide +kernel
theorem dX6_come_147 : decode cX6_come 147 = .ok (.iconst 1, 1) := by decide +kernel
theorem dX6_come_148 : decode cX6_come 148 = .ok (.iadd, 1) := by decide +kernel
theorem dX6_come_149 : decode cX6_come 149 = .ok (.iastore, 1) := by decide +kernel
theorem dX6_come_150 : decode cX6_come 150 = .ok (.aload_n 0, 1) := by decide +kernel
theorem dX6_come_151 : decode cX6_come 151 = .ok (.getfield 7, 3) := by decide +kernel
theorem dX6_come_154 : decode cX6_come 154 = .ok (.iconst 4, 1) := by decide +kernel
theorem dX6_come_155 : decode cX6_come 155 = .ok (.dup2, 1) := by decide +kernel
theorem dX6_come_156 : decode cX6_come 156 = .ok (.iaload, 1) := by decide +kernel
theorem dX6_come_157 : decode cX6_come 157 = .ok (.iload_n 3, 1) := by decide +kernel
theorem dX6_come_158 : decode cX6_come 158 = .ok (.iadd, 1) := by decide +kernel
theorem dX6_come_159 : decode cX6_come 159 = .ok (.iastore, 1) := by decide +kernel
theorem dX6_come_160 : decode cX6_come 160 = .ok (.aload_n 0, 1) := by decide +kernel
theorem dX6_come_161 : decode cX6_come 161 = .ok (.getfield 7, 3) := by decide +kernel
theorem dX6_come_164 : decode cX6_come 164 = .ok (.iconst 5, 1) := by decide +kernel
theorem dX6_come_165 : decode cX6_come 165 = .ok (.dup2, 1) := by decide +kernel
theorem dX6_come_166 : decode cX6_come 166 = .ok (.iaload, 1) := by decide +kernel
theorem dX6_come_167 : decode cX6_come 167 = .ok (.iload_n 2, 1) := by decide +kernel
theorem dX6_come_168 : decode cX6_come 168 = .ok (.iadd, 1) := by decide +kernel
theorem dX6_come_169 : decode cX6_come 169 = .ok (.iastore, 1) := by decide +kernel
theorem dX6_come_170 : decode cX6_come 170 = .ok (.iload 5, 2) := by decide +kernel
theorem dX6_come_172 : decode cX6_come 172 = .ok (.ireturn, 1) := by decide +kernel
set_option maxRecDepth 20000 in
theorem ggX6_leave_X6_isGuest : GoodIn wsX6_leave wsX6_isGuest := goodIn_r _ [6, 1, 7, 8, 5, 9, 48, 49, 50, 51, 52, 53, 54, 55, 56, 57, 58, 59] (by decide +kernel) (by decide +kernel)
set_option maxRecDepth 20000 in
theorem gX6_leave_X6_isGuest : GoodIn wsX6_leave (wsV RX6 78 RX6 yX6_isGuest wsX6_isGuest) := goodIn_app (goodIn_of _ (by decide +kernel)) ggX6_leave_X6_isGuest
set_option maxRecDepth 20000 in
theorem ggX6_leave_X6_of : GoodIn wsX6_leave wsX6_of := goodIn_r _ [13, 1, 48, 49, 50, 51, 52, 53, 54, 55, 56, 57, 58, 59] (by decide +kernel) (by decide +kernel)
set_option maxRecDepth 20000 in
theorem gX6_leave_X6_of : GoodIn wsX6_leave (wsV RX6 27 RX6 yX6_of wsX6_of) := goodIn_app (goodIn_of _ (by decide +kernel)) ggX6_leave_X6_of
set_option maxRecDepth 20000 in
theorem ggX6_leave_X6_lentTo : GoodIn wsX6_leave wsX6_lentTo := goodIn_r _ [17, 1, 10, 11, 12, 5, 13, 48, 49, 50, 51, 52, 53, 54, 55, 56, 57, 58, 59] (by decide +kernel) (by decide +kernel)
set_option maxRecDepth 20000 in
theorem gX6_leave_X6_lentTo : GoodIn wsX6_leave (wsV RX6 81 RX6 yX6_lentTo wsX6_lentTo) := goodIn_app (goodIn_of _ (by decide +kernel)) ggX6_leave_X6_lentTo
set_option maxRecDepth 20000 in
theorem ggX6_leave_X6_standing : GoodIn wsX6_leave wsX6_standing := goodIn_r _ [21, 22, 23, 24, 5, 25, 1, 26, 27, 28, 29, 48, 49, 50, 51, 52, 53, 54, 55, 56, 57, 58, 59] (by decide +kernel) (by decide +kernel)
set_option maxRecDepth 20000 in
theorem gX6_leave_X6_standing : GoodIn wsX6_leave (wsV RX6 46 RX6 yX6_standing wsX6_standing) := goodIn_app (goodIn_of _ (by decide +kernel)) ggX6_leave_X6_standing
set_option maxRecDepth 20000 in
theorem ggX6_leave_X6_holds : GoodIn wsX6_leave wsX6_holds := goodIn_r _ [33, 34, 48, 49, 50, 51, 52, 53, 54, 55, 56, 57, 58, 59] (by decide +kernel) (by decide +kernel)
set_option maxRecDepth 20000 in
theorem gX6_leave_X6_holds : GoodIn wsX6_leave (wsV RX6 72 RX6 yX6_holds wsX6_holds) := goodIn_app (goodIn_of _ (by decide +kernel)) ggX6_leave_X6_holds
set_option maxRecDepth 20000 in
theorem ggX6_leave_X6_save : GoodIn wsX6_leave wsX6_save := goodIn_r _ [38, 39, 40, 41, 42, 5, 43, 1, 48, 49, 50, 51, 52, 53, 54, 55, 56, 57, 58, 59] (by decide +kernel) (by decide +kernel)
set_option maxRecDepth 20000 in
theorem gX6_leave_X6_save : GoodIn wsX6_leave (wsV RX6 75 RX6 yX6_save wsX6_save) := goodIn_app (goodIn_of _ (by decide +kernel)) ggX6_leave_X6_save
set_option maxRecDepth 20000 in
theorem ggX6_leave_X6_lay : GoodIn wsX6_leave wsX6_lay := goodIn_r _ [47, 1, 48, 49, 50, 51, 52, 53, 54, 55, 56, 57, 58, 59] (by decide +kernel) (by decide +kernel)
set_option maxRecDepth 20000 in
theorem gX6_leave_X6_lay : GoodIn wsX6_leave (wsV RX6 35 RX6 yX6_lay wsX6_lay) := goodIn_app (goodIn_of _ (by decide +kernel)) ggX6_leave_X6_lay
theorem dX6_leave_0 : decode cX6_leave 0 = .ok (.aload_n 0, 1) := by decide +kernel
theorem dX6_leave_1 : decode cX6_leave 1 = .ok (.iload_n 1, 1) := by decide +kernel
theorem dX6_leave_2 : decode cX6_leave 2 = .ok (.invokevirtual 78, 3) := by decide +kernel
theorem dX6_leave_5 : decode cX6_leave 5 = .ok (.istore_n 2, 1) := by decide +kernel
theorem dX6_leave_6 : decode cX6_leave 6 = .ok (.iload_n 2, 1) := by decide +kernel
theorem dX6_leave_7 : decode cX6_leave 7 = .ok (.ifCond .eq 45, 3) := by decide +kernel
theorem dX6_leave_10 : decode cX6_leave 10 = .ok (.aload_n 0, 1) := by decide +kernel
theorem dX6_leave_11 : decode cX6_leave 11 = .ok (.iload_n 1, 1) := by decide +kernel
theorem dX6_leave_12 : decode cX6_leave 12 = .ok (.iconst 4, 1) := by decide +kernel
theorem dX6_leave_13 : decode cX6_leave 13 = .ok (.invokevirtual 27, 3) := by decide +kernel
theorem dX6_leave_16 : decode cX6_leave 16 = .ok (.iload_n 1, 1) := by decide +kernel
theorem dX6_leave_17 : decode cX6_leave 17 = .ok (.if_icmp .ne 35, 3) := by decide +kernel
theorem dX6_leave_20 : decode cX6_leave 20 = .ok (.aload_n 0, 1) := by decide +kernel
theorem dX6_leave_21 : decode cX6_leave 21 = .ok (.iload_n 1, 1) := by decide +kernel
theorem dX6_leave_22 : decode cX6_leave 22 = .ok (.invokevirtual 81, 3) := by decide +kernel
theorem dX6_leave_25 : decode cX6_leave 25 = .ok (.iconst (-1), 1) := by decide +kernel
theorem dX6_leave_26 : decode cX6_leave 26 = .ok (.if_icmp .ne 26, 3) := by decide +kernel
theorem dX6_leave_29 : decode cX6_leave 29 = .ok (.aload_n 0, 1) := by decide +kernel
theorem dX6_leave_30 : decode cX6_leave 30 = .ok (.iload_n 1, 1) := by decide +kernel
theorem dX6_leave_31 : decode cX6_leave 31 = .ok (.bipush 6, 2) := by decide +kernel
theorem dX6_leave_33 : decode cX6_leave 33 = .ok (.invokevirtual 27, 3) := by decide +kernel
theorem dX6_leave_36 : decode cX6_leave 36 = .ok (.ifCond .ne 16, 3) := by decide +kernel
theorem dX6_leave_39 : decode cX6_leave 39 = .ok (.aload_n 0, 1) := by decide +kernel
theorem dX6_leave_40 : decode cX6_leave 40 = .ok (.iload_n 1, 1) := by decide +kernel
theorem dX6_leave_41 : decode cX6_leave 41 = .ok (.invokevirtual 46, 3) := by decide +kernel
theorem dX6_leave_44 : decode cX6_leave 44 = .ok (.iconst (-1), 1) := by decide +kernel
theorem dX6_leave_45 : decode cX6_leave 45 = .ok (.if_icmp .ne 7, 3) := by decide +kernel
theorem dX6_leave_48 : decode cX6_leave 48 = .ok (.iconst 1, 1) := by decide +kernel
theorem dX6_leave_49 : decode cX6_leave 49 = .ok (.goto 4, 3) := by decide +kernel
theorem dX6_leave_52 : decode cX6_leave 52 = .ok (.iconst 0, 1) := by decide +kernel
theorem dX6_leave_53 : decode cX6_leave 53 = .ok (.istore_n 3, 1) := by decide +kernel
theorem dX6_leave_54 : decode cX6_leave 54 = .ok (.aload_n 0, 1) := by decide +kernel
theorem dX6_leave_55 : decode cX6_leave 55 = .ok (.iload_n 2, 1) := by decide +kernel
theorem dX6_leave_56 : decode cX6_leave 56 = .ok (.ifCond .ne 7, 3) := by decide +kernel
theorem dX6_leave_59 : decode cX6_leave 59 = .ok (.iconst 1, 1) := by decide +kernel
theorem dX6_leave_60 : decode cX6_leave 60 = .ok (.goto 12, 3) := by decide +kernel
theorem dX6_leave_63 : decode cX6_leave 63 = .ok (.iload_n 3, 1) := by decide +kernel
theorem dX6_leave_64 : decode cX6_leave 64 = .ok (.ifCond .ne 7, 3) := by decide +kernel
theorem dX6_leave_67 : decode cX6_leave 67 = .ok (.iconst 2, 1) := by decide +kernel
theorem dX6_leave_68 : decode cX6_leave 68 = .ok (.goto 4, 3) := by decide +kernel
theorem dX6_leave_71 : decode cX6_leave 71 = .ok (.iconst 0, 1) := by decide +kernel
theorem dX6_leave_72 : decode cX6_leave 72 = .ok (.invokevirtual 72, 3) := by decide +kernel
theorem dX6_leave_75 : decode cX6_leave 75 = .ok (.ifCond .ne 5, 3) := by decide +kernel
theorem dX6_leave_78 : decode cX6_leave 78 = .ok (.iconst 0, 1) := by decide +kernel
theorem dX6_leave_79 : decode cX6_leave 79 = .ok (.ireturn, 1) := by decide +kernel
theorem dX6_leave_80 : decode cX6_leave 80 = .ok (.aload_n 0, 1) := by decide +kernel
theorem dX6_leave_81 : decode cX6_leave 81 = .ok (.invokevirtual 75, 3) := by decide +kernel
theorem dX6_leave_84 : decode cX6_leave 84 = .ok (.aload_n 0, 1) := by decide +kernel
theorem dX6_leave_85 : decode cX6_leave 85 = .ok (.iload_n 1, 1) := by decide +kernel
theorem dX6_leave_86 : decode cX6_leave 86 = .ok (.iconst 2, 1) := by decide +kernel
theorem dX6_leave_87 : decode cX6_leave 87 = .ok (.invokevirtual 27, 3) := by decide +kernel
theorem dX6_leave_90 : decode cX6_leave 90 = .ok (.istore 4, 2) := by decide +kernel
theorem dX6_leave_92 : decode cX6_leave 92 = .ok (.aload_n 0, 1) := by decide +kernel
theorem dX6_leave_93 : decode cX6_leave 93 = .ok (.getfield 7, 3) := by decide +kernel
theorem dX6_leave_96 : decode cX6_leave 96 = .ok (.iconst 4, 1) := by decide +kernel
theorem dX6_leave_97 : decode cX6_leave 97 = .ok (.dup2, 1) := by decide +kernel
theorem dX6_leave_98 : decode cX6_leave 98 = .ok (.iaload, 1) := by decide +kernel
theorem dX6_leave_99 : decode cX6_leave 99 = .ok (.aload_n 0, 1) := by decide +kernel
theorem dX6_leave_100 : decode cX6_leave 100 = .ok (.iload_n 1, 1) := by decide +kernel
theorem dX6_leave_101 : decode cX6_leave 101 = .ok (.iconst 1, 1) := by decide +kernel
theorem dX6_leave_102 : decode cX6_leave 102 = .ok (.invokevirtual 27, 3) := by decide +kernel
theorem dX6_leave_105 : decode cX6_leave 105 = .ok (.isub, 1) := by decide +kernel
theorem dX6_leave_106 : decode cX6_leave 106 = .ok (.iastore, 1) := by decide +kernel
theorem dX6_leave_107 : decode cX6_leave 107 = .ok (.aload_n 0, 1) := by decide +kernel
theorem dX6_leave_108 : decode cX6_leave 108 = .ok (.getfield 7, 3) := by decide +kernel
theorem dX6_leave_111 : decode cX6_leave 111 = .ok (.iconst 5, 1) := by decide +kernel
theorem dX6_leave_112 : decode cX6_leave 112 = .ok (.dup2, 1) := by decide +kernel
theorem dX6_leave_113 : decode cX6_leave 113 = .ok (.iaload, 1) := by decide +kernel
theorem dX6_leave_114 : decode cX6_leave 114 = .ok (.aload_n 0, 1) := by decide +kernel
theorem dX6_leave_115 : decode cX6_leave 115 = .ok (.iload_n 1, 1) := by decide +kernel
theorem dX6_leave_116 : decode cX6_leave 116 = .ok (.iconst 3, 1) := by decide +kernel
theorem dX6_leave_117 : decode cX6_leave 117 = .ok (.invokevirtual 27, 3) := by decide +kernel
theorem dX6_leave_120 : decode cX6_leave 120 = .ok (.isub, 1) := by decide +kernel
theorem dX6_leave_121 : decode cX6_leave 121 = .ok (.iastore, 1) := by decide +kernel
theorem dX6_leave_122 : decode cX6_leave 122 = .ok (.aload_n 0, 1) := by decide +kernel
theorem dX6_leave_123 : decode cX6_leave 123 = .ok (.getfield 7, 3) := by decide +kernel
theorem dX6_leave_126 : decode cX6_leave 126 = .ok (.iconst 1, 1) := by decide +kernel
theorem dX6_leave_127 : decode cX6_leave 127 = .ok (.dup2, 1) := by decide +kernel
theorem dX6_leave_128 : decode cX6_leave 128 = .ok (.iaload, 1) := by decide +kernel
theorem dX6_leave_129 : decode cX6_leave 129 = .ok (.iconst 1, 1) := by decide +kernel
theorem dX6_leave_130 : decode cX6_leave 130 = .ok (.isub, 1) := by decide +kernel
theorem dX6_leave_131 : decode cX6_leave 131 = .ok (.iastore, 1) := by decide +kernel
theorem dX6_leave_132 : decode cX6_leave 132 = .ok (.bipush 7, 2) := by decide +kernel
theorem dX6_leave_134 : decode cX6_leave 134 = .ok (.iload_n 1, 1) := by decide +kernel
theorem dX6_leave_135 : decode cX6_leave 135 = .ok (.imul, 1) := by decide +kernel
theorem dX6_leave_136 : decode cX6_leave 136 = .ok (.istore 5, 2) := by decide +kernel
theorem dX6_leave_138 : decode cX6_leave 138 = .ok (.iload 5, 2) := by decide +kernel
theorem dX6_leave_140 : decode cX6_leave 140 = .ok (.bipush 7, 2) := by decide +kernel
theorem dX6_leave_142 : decode cX6_leave 142 = .ok (.aload_n 0, 1) := by decide +kernel
theorem dX6_leave_143 : decode cX6_leave 143 = .ok (.getfield 7, 3) := by decide +kernel
theorem dX6_leave_146 : decode cX6_leave 146 = .ok (.iconst 1, 1) := by decide +kernel
theorem dX6_leave_147 : decode cX6_leave 147 = .ok (.iaload, 1) := by decide +kernel
theorem dX6_leave_148 : decode cX6_leave 148 = .ok (.imul, 1) := by decide +kernel
theorem dX6_leave_149 : decode cX6_leave 149 = .ok (.if_icmp .ge 32, 3) := by decide +kernel
theorem dX6_leave_152 : decode cX6_leave 152 = .ok (.aload_n 0, 1) := by decide +kernel
theorem dX6_leave_153 : decode cX6_leave 153 = .ok (.getfield 7, 3) := by decide +kernel
theorem dX6_leave_156 : decode cX6_leave 156 = .ok (.bipush 16, 2) := by decide +kernel
theorem dX6_leave_158 : decode cX6_leave 158 = .ok (.iload 5, 2) := by decide +kernel
theorem dX6_leave_160 : decode cX6_leave 160 = .ok (.iadd, 1) := by decide +kernel
theorem dX6_leave_161 : decode cX6_leave 161 = .ok (.aload_n 0, 1) := by decide +kernel
theorem dX6_leave_162 : decode cX6_leave 162 = .ok (.getfield 7, 3) := by decide +kernel
theorem dX6_leave_165 : decode cX6_leave 165 = .ok (.bipush 16, 2) := by decide +kernel
theorem dX6_leave_167 : decode cX6_leave 167 = .ok (.iload 5, 2) := by decide +kernel
theorem dX6_leave_169 : decode cX6_leave 169 = .ok (.iadd, 1) := by decide +kernel
theorem dX6_leave_170 : decode cX6_leave 170 = .ok (.bipush 7, 2) := by decide +kernel
theorem dX6_leave_172 : decode cX6_leave 172 = .ok (.iadd, 1) := by decide +kernel
theorem dX6_leave_173 : decode cX6_leave 173 = .ok (.iaload, 1) := by decide +kernel
theorem dX6_leave_174 : decode cX6_leave 174 = .ok (.iastore, 1) := by decide +kernel
theorem dX6_leave_175 : decode cX6_leave 175 = .ok (.iinc 5 1, 3) := by decide +kernel
theorem dX6_leave_178 : decode cX6_leave 178 = .ok (.goto (-40), 3) := by decide +kernel
theorem dX6_leave_181 : decode cX6_leave 181 = .ok (.iconst 0, 1) := by decide +kernel
theorem dX6_leave_182 : decode cX6_leave 182 = .ok (.istore 5, 2) := by decide +kernel
theorem dX6_leave_184 : decode cX6_leave 184 = .ok (.iload 5, 2) := by decide +kernel
theorem dX6_leave_186 : decode cX6_leave 186 = .ok (.aload_n 0, 1) := by decide +kernel
theorem dX6_leave_187 : decode cX6_leave 187 = .ok (.getfield 7, 3) := by decide +kernel
theorem dX6_leave_190 : decode cX6_leave 190 = .ok (.iconst 1, 1) := by decide +kernel
theorem dX6_leave_191 : decode cX6_leave 191 = .ok (.iaload, 1) := by decide +kernel
theorem dX6_leave_192 : decode cX6_leave 192 = .ok (.if_icmp .ge 46, 3) := by decide +kernel
theorem dX6_leave_195 : decode cX6_leave 195 = .ok (.aload_n 0, 1) := by decide +kernel
theorem dX6_leave_196 : decode cX6_leave 196 = .ok (.iload 5, 2) := by decide +kernel
theorem dX6_leave_198 : decode cX6_leave 198 = .ok (.iconst 4, 1) := by decide +kernel
theorem dX6_leave_199 : decode cX6_leave 199 = .ok (.aload_n 0, 1) := by decide +kernel
theorem dX6_leave_200 : decode cX6_leave 200 = .ok (.iload 5, 2) := by decide +kernel
theorem dX6_leave_202 : decode cX6_leave 202 = .ok (.iconst 4, 1) := by decide +kernel
theorem dX6_leave_203 : decode cX6_leave 203 = .ok (.invokevirtual 27, 3) := by decide +kernel
theorem dX6_leave_206 : decode cX6_leave 206 = .ok (.iload_n 1, 1) := by decide +kernel
theorem dX6_leave_207 : decode cX6_leave 207 = .ok (.if_icmp .le 15, 3) := by decide +kernel
theorem dX6_leave_210 : decode cX6_leave 210 = .ok (.aload_n 0, 1) := by decide +kernel
theorem dX6_leave_211 : decode cX6_leave 211 = .ok (.iload 5, 2) := by decide +kernel
theorem dX6_leave_213 : decode cX6_leave 213 = .ok (.iconst 4, 1) := by decide +kernel
theorem dX6_leave_214 : decode cX6_leave 214 = .ok (.invokevirtual 27, 3) := by decide +kernel
theorem dX6_leave_217 : decode cX6_leave 217 = .ok (.iconst 1, 1) := by decide +kernel
theorem dX6_leave_218 : decode cX6_leave 218 = .ok (.isub, 1) := by decide +kernel
theorem dX6_leave_219 : decode cX6_leave 219 = .ok (.goto 10, 3) := by decide +kernel
theorem dX6_leave_222 : decode cX6_leave 222 = .ok (.aload_n 0, 1) := by decide +kernel
theorem dX6_leave_223 : decode cX6_leave 223 = .ok (.iload 5, 2) := by decide +kernel
theorem dX6_leave_225 : decode cX6_leave 225 = .ok (.iconst 4, 1) := by decide +kernel
theorem dX6_leave_226 : decode cX6_leave 226 = .ok (.invokevirtual 27, 3) := by decide +kernel
theorem dX6_leave_229 : decode cX6_leave 229 = .ok (.invokevirtual 35, 3) := by decide +kernel
theorem dX6_leave_232 : decode cX6_leave 232 = .ok (.iinc 5 1, 3) := by decide +kernel
theorem dX6_leave_235 : decode cX6_leave 235 = .ok (.goto (-51), 3) := by decide +kernel
theorem dX6_leave_238 : decode cX6_leave 238 = .ok (.iconst 0, 1) := by decide +kernel
theorem dX6_leave_239 : decode cX6_leave 239 = .ok (.istore 5, 2) := by decide +kernel
theorem dX6_leave_241 : decode cX6_leave 241 = .ok (.iload 5, 2) := by decide +kernel
theorem dX6_leave_243 : decode cX6_leave 243 = .ok (.bipush 33, 2) := by decide +kernel
theorem dX6_leave_245 : decode cX6_leave 245 = .ok (.if_icmp .ge 61, 3) := by decide +kernel
theorem dX6_leave_248 : decode cX6_leave 248 = .ok (.iload 5, 2) := by decide +kernel
theorem dX6_leave_250 : decode cX6_leave 250 = .ok (.bipush 11, 2) := by decide +kernel
theorem dX6_leave_252 : decode cX6_leave 252 = .ok (.irem, 1) := by decide +kernel
theorem dX6_leave_253 : decode cX6_leave 253 = .ok (.ifCond .le 21, 3) := by decide +kernel
theorem dX6_leave_256 : decode cX6_leave 256 = .ok (.aload_n 0, 1) := by decide +kernel
theorem dX6_leave_257 : decode cX6_leave 257 = .ok (.getfield 7, 3) := by decide +kernel
theorem dX6_leave_260 : decode cX6_leave 260 = .ok (.bipush 86, 2) := by decide +kernel
theorem dX6_leave_262 : decode cX6_leave 262 = .ok (.iload 5, 2) := by decide +kernel
theorem dX6_leave_264 : decode cX6_leave 264 = .ok (.iadd, 1) := by decide +kernel
theorem dX6_leave_265 : decode cX6_leave 265 = .ok (.iaload, 1) := by decide +kernel
theorem dX6_leave_266 : decode cX6_leave 266 = .ok (.iload_n 1, 1) := by decide +kernel
theorem dX6_leave_267 : decode cX6_leave 267 = .ok (.if_icmp .le 7, 3) := by decide +kernel
theorem dX6_leave_270 : decode cX6_leave 270 = .ok (.iconst 1, 1) := by decide +kernel
theorem dX6_leave_271 : decode cX6_leave 271 = .ok (.goto 4, 3) := by decide +kernel
theorem dX6_leave_274 : decode cX6_leave 274 = .ok (.iconst 0, 1) := by decide +kernel
theorem dX6_leave_275 : decode cX6_leave 275 = .ok (.istore 6, 2) := by decide +kernel
theorem dX6_leave_277 : decode cX6_leave 277 = .ok (.aload_n 0, 1) := by decide +kernel
theorem dX6_leave_278 : decode cX6_leave 278 = .ok (.getfield 7, 3) := by decide +kernel
theorem dX6_leave_281 : decode cX6_leave 281 = .ok (.bipush 86, 2) := by decide +kernel
theorem dX6_leave_283 : decode cX6_leave 283 = .ok (.iload 5, 2) := by decide +kernel
theorem dX6_leave_285 : decode cX6_leave 285 = .ok (.iadd, 1) := by decide +kernel
theorem dX6_leave_286 : decode cX6_leave 286 = .ok (.dup2, 1) := by decide +kernel
theorem dX6_leave_287 : decode cX6_leave 287 = .ok (.iaload, 1) := by decide +kernel
theorem dX6_leave_288 : decode cX6_leave 288 = .ok (.iload 6, 2) := by decide +kernel
theorem dX6_leave_290 : decode cX6_leave 290 = .ok (.ifCond .eq 7, 3) := by decide +kernel
theorem dX6_leave_293 : decode cX6_leave 293 = .ok (.iconst 1, 1) := by decide +kernel
theorem dX6_leave_294 : decode cX6_leave 294 = .ok (.goto 4, 3) := by decide +kernel
theorem dX6_leave_297 : decode cX6_leave 297 = .ok (.iconst 0, 1) := by decide +kernel
theorem dX6_leave_298 : decode cX6_leave 298 = .ok (.isub, 1) := by decide +kernel
theorem dX6_leave_299 : decode cX6_leave 299 = .ok (.iastore, 1) := by decide +kernel
theorem dX6_leave_300 : decode cX6_leave 300 = .ok (.iinc 5 1, 3) := by decide +kernel
theorem dX6_leave_303 : decode cX6_leave 303 = .ok (.goto (-62), 3) := by decide +kernel
theorem dX6_leave_306 : decode cX6_leave 306 = .ok (.iload 4, 2) := by decide +kernel
theorem dX6_leave_308 : decode cX6_leave 308 = .ok (.ireturn, 1) := by decide +kernel
set_option maxRecDepth 20000 in
theorem ggX6_earn_X6_isGuest : GoodIn wsX6_earn wsX6_isGuest := goodIn_r _ [6, 1, 7, 8, 5, 9, 35, 36, 37, 38, 39, 40, 41, 42, 43, 44, 45, 46] (by decide +kernel) (by decide +kernel)
set_option maxRecDepth 20000 in
theorem gX6_earn_X6_isGuest : GoodIn wsX6_earn (wsV RX6 78 RX6 yX6_isGuest wsX6_isGuest) := goodIn_app (goodIn_of _ (by decide +kernel)) ggX6_earn_X6_isGuest
set_option maxRecDepth 20000 in
theorem ggX6_earn_X6_in : GoodIn wsX6_earn wsX6_in := goodIn_r _ [9] (by decide +kernel) (by decide +kernel)
set_option maxRecDepth 20000 in
theorem gX6_earn_X6_in : GoodIn wsX6_earn (va_wsS RX6 23 yX6_in wsX6_in) := goodIn_app (goodIn_of _ (by decide +kernel)) ggX6_earn_X6_in
set_option maxRecDepth 20000 in
theorem ggX6_earn_X6_holds : GoodIn wsX6_earn wsX6_holds := goodIn_r _ [13, 14, 35, 36, 37, 38, 39, 40, 41, 42, 43, 44, 45, 46] (by decide +kernel) (by decide +kernel)
set_option maxRecDepth 20000 in
theorem gX6_earn_X6_holds : GoodIn wsX6_earn (wsV RX6 72 RX6 yX6_holds wsX6_holds) := goodIn_app (goodIn_of _ (by decide +kernel)) ggX6_earn_X6_holds
set_option maxRecDepth 20000 in
theorem ggX6_earn_X6_save : GoodIn wsX6_earn wsX6_save := goodIn_r _ [18, 19, 20, 21, 22, 5, 23, 1, 35, 36, 37, 38, 39, 40, 41, 42, 43, 44, 45, 46] (by decide +kernel) (by decide +kernel)
set_option maxRecDepth 20000 in
theorem gX6_earn_X6_save : GoodIn wsX6_earn (wsV RX6 75 RX6 yX6_save wsX6_save) := goodIn_app (goodIn_of _ (by decide +kernel)) ggX6_earn_X6_save
set_option maxRecDepth 20000 in
theorem ggX6_earn_X6_of : GoodIn wsX6_earn wsX6_of := goodIn_r _ [27, 1, 35, 36, 37, 38, 39, 40, 41, 42, 43, 44, 45, 46] (by decide +kernel) (by decide +kernel)
set_option maxRecDepth 20000 in
theorem gX6_earn_X6_of : GoodIn wsX6_earn (wsV RX6 27 RX6 yX6_of wsX6_of) := goodIn_app (goodIn_of _ (by decide +kernel)) ggX6_earn_X6_of
set_option maxRecDepth 20000 in
theorem ggX6_earn_X6_lesser : GoodIn wsX6_earn wsX6_lesser := goodIn_r _ [30] (by decide +kernel) (by decide +kernel)
set_option maxRecDepth 20000 in
theorem gX6_earn_X6_lesser : GoodIn wsX6_earn (va_wsS RX6 53 yX6_lesser wsX6_lesser) := goodIn_app (goodIn_of _ (by decide +kernel)) ggX6_earn_X6_lesser
set_option maxRecDepth 20000 in
theorem ggX6_earn_X6_lay : GoodIn wsX6_earn wsX6_lay := goodIn_r _ [34, 1, 35, 36, 37, 38, 39, 40, 41, 42, 43, 44, 45, 46] (by decide +kernel) (by decide +kernel)
set_option maxRecDepth 20000 in
theorem gX6_earn_X6_lay : GoodIn wsX6_earn (wsV RX6 35 RX6 yX6_lay wsX6_lay) := goodIn_app (goodIn_of _ (by decide +kernel)) ggX6_earn_X6_lay
theorem dX6_earn_0 : decode cX6_earn 0 = .ok (.aload_n 0, 1) := by decide +kernel
theorem dX6_earn_1 : decode cX6_earn 1 = .ok (.aload_n 0, 1) := by decide +kernel
theorem dX6_earn_2 : decode cX6_earn 2 = .ok (.iload_n 1, 1) := by decide +kernel
theorem dX6_earn_3 : decode cX6_earn 3 = .ok (.invokevirtual 78, 3) := by decide +kernel
theorem dX6_earn_6 : decode cX6_earn 6 = .ok (.ifCond .ne 7, 3) := by decide +kernel
theorem dX6_earn_9 : decode cX6_earn 9 = .ok (.iconst 1, 1) := by decide +kernel
theorem dX6_earn_10 : decode cX6_earn 10 = .ok (.goto 18, 3) := by decide +kernel
theorem dX6_earn_13 : decode cX6_earn 13 = .ok (.iload_n 2, 1) := by decide +kernel
theorem dX6_earn_14 : decode cX6_earn 14 = .ok (.iconst 1, 1) := by decide +kernel
theorem dX6_earn_15 : decode cX6_earn 15 = .ok (.bipush 99, 2) := by decide +kernel
theorem dX6_earn_17 : decode cX6_earn 17 = .ok (.invokestatic 23, 3) := by decide +kernel
theorem dX6_earn_20 : decode cX6_earn 20 = .ok (.ifCond .ne 7, 3) := by decide +kernel
theorem dX6_earn_23 : decode cX6_earn 23 = .ok (.iconst 2, 1) := by decide +kernel
theorem dX6_earn_24 : decode cX6_earn 24 = .ok (.goto 4, 3) := by decide +kernel
theorem dX6_earn_27 : decode cX6_earn 27 = .ok (.iconst 0, 1) := by decide +kernel
theorem dX6_earn_28 : decode cX6_earn 28 = .ok (.invokevirtual 72, 3) := by decide +kernel
theorem dX6_earn_31 : decode cX6_earn 31 = .ok (.ifCond .ne 5, 3) := by decide +kernel
theorem dX6_earn_34 : decode cX6_earn 34 = .ok (.iconst 0, 1) := by decide +kernel
theorem dX6_earn_35 : decode cX6_earn 35 = .ok (.ireturn, 1) := by decide +kernel
theorem dX6_earn_36 : decode cX6_earn 36 = .ok (.aload_n 0, 1) := by decide +kernel
theorem dX6_earn_37 : decode cX6_earn 37 = .ok (.invokevirtual 75, 3) := by decide +kernel
theorem dX6_earn_40 : decode cX6_earn 40 = .ok (.iload_n 2, 1) := by decide +kernel
theorem dX6_earn_41 : decode cX6_earn 41 = .ok (.sipush 999, 3) := by decide +kernel
theorem dX6_earn_44 : decode cX6_earn 44 = .ok (.aload_n 0, 1) := by decide +kernel
theorem dX6_earn_45 : decode cX6_earn 45 = .ok (.iload_n 1, 1) := by decide +kernel
theorem dX6_earn_46 : decode cX6_earn 46 = .ok (.iconst 1, 1) := by decide +kernel
theorem dX6_earn_47 : decode cX6_earn 47 = .ok (.invokevirtual 27, 3) := by decide +kernel
theorem dX6_earn_50 : decode cX6_earn 50 = .ok (.isub, 1) := by decide +kernel
theorem dX6_earn_51 : decode cX6_earn 51 = .ok (.invokestatic 53, 3) := by decide +kernel
theorem dX6_earn_54 : decode cX6_earn 54 = .ok (.istore_n 3, 1) := by decide +kernel
theorem dX6_earn_55 : decode cX6_earn 55 = .ok (.aload_n 0, 1) := by decide +kernel
theorem dX6_earn_56 : decode cX6_earn 56 = .ok (.iload_n 1, 1) := by decide +kernel
theorem dX6_earn_57 : decode cX6_earn 57 = .ok (.iconst 1, 1) := by decide +kernel
theorem dX6_earn_58 : decode cX6_earn 58 = .ok (.aload_n 0, 1) := by decide +kernel
theorem dX6_earn_59 : decode cX6_earn 59 = .ok (.iload_n 1, 1) := by decide +kernel
theorem dX6_earn_60 : decode cX6_earn 60 = .ok (.iconst 1, 1) := by decide +kernel
theorem dX6_earn_61 : decode cX6_earn 61 = .ok (.invokevirtual 27, 3) := by decide +kernel
theorem dX6_earn_64 : decode cX6_earn 64 = .ok (.iload_n 3, 1) := by decide +kernel
theorem dX6_earn_65 : decode cX6_earn 65 = .ok (.iadd, 1) := by decide +kernel
theorem dX6_earn_66 : decode cX6_earn 66 = .ok (.invokevirtual 35, 3) := by decide +kernel
theorem dX6_earn_69 : decode cX6_earn 69 = .ok (.aload_n 0, 1) := by decide +kernel
theorem dX6_earn_70 : decode cX6_earn 70 = .ok (.getfield 7, 3) := by decide +kernel
theorem dX6_earn_73 : decode cX6_earn 73 = .ok (.iconst 4, 1) := by decide +kernel
theorem dX6_earn_74 : decode cX6_earn 74 = .ok (.dup2, 1) := by decide +kernel
theorem dX6_earn_75 : decode cX6_earn 75 = .ok (.iaload, 1) := by decide +kernel
theorem dX6_earn_76 : decode cX6_earn 76 = .ok (.iload_n 3, 1) := by decide +kernel
theorem dX6_earn_77 : decode cX6_earn 77 = .ok (.iadd, 1) := by decide +kernel
theorem dX6_earn_78 : decode cX6_earn 78 = .ok (.iastore, 1) := by decide +kernel
theorem dX6_earn_79 : decode cX6_earn 79 = .ok (.aload_n 0, 1) := by decide +kernel
theorem dX6_earn_80 : decode cX6_earn 80 = .ok (.iload_n 1, 1) := by decide +kernel
theorem dX6_earn_81 : decode cX6_earn 81 = .ok (.iconst 1, 1) := by decide +kernel
theorem dX6_earn_82 : decode cX6_earn 82 = .ok (.invokevirtual 27, 3) := by decide +kernel
theorem dX6_earn_85 : decode cX6_earn 85 = .ok (.ireturn, 1) := by decide +kernel
set_option maxRecDepth 20000 in
theorem ggX6_lend_X6_isGuest : GoodIn wsX6_lend wsX6_isGuest := goodIn_r _ [5, 6, 7, 8, 4, 9, 44, 45, 46, 47, 48, 49, 50, 51, 52, 53, 54, 55] (by decide +kernel) (by decide +kernel)
set_option maxRecDepth 20000 in
theorem gX6_lend_X6_isGuest : GoodIn wsX6_lend (wsV RX6 78 RX6 yX6_isGuest wsX6_isGuest) := goodIn_app (goodIn_of _ (by decide +kernel)) ggX6_lend_X6_isGuest
set_option maxRecDepth 20000 in
theorem ggX6_lend_X6_whyNoLoan : GoodIn wsX6_lend wsX6_whyNoLoan := goodIn_r _ [13, 14, 15, 16, 4, 17, 6, 18, 19, 20, 21, 44, 45, 46, 47, 48, 49, 50, 51, 52, 53, 54, 55] (by decide +kernel) (by decide +kernel)
set_option maxRecDepth 20000 in
theorem gX6_lend_X6_whyNoLoan : GoodIn wsX6_lend (wsV RX6 84 RX6 yX6_whyNoLoan wsX6_whyNoLoan) := goodIn_app (goodIn_of _ (by decide +kernel)) ggX6_lend_X6_whyNoLoan
set_option maxRecDepth 20000 in
theorem ggX6_lend_X6_holds : GoodIn wsX6_lend wsX6_holds := goodIn_r _ [25, 26, 44, 45, 46, 47, 48, 49, 50, 51, 52, 53, 54, 55] (by decide +kernel) (by decide +kernel)
set_option maxRecDepth 20000 in
theorem gX6_lend_X6_holds : GoodIn wsX6_lend (wsV RX6 72 RX6 yX6_holds wsX6_holds) := goodIn_app (goodIn_of _ (by decide +kernel)) ggX6_lend_X6_holds
set_option maxRecDepth 20000 in
theorem ggX6_lend_X6_save : GoodIn wsX6_lend wsX6_save := goodIn_r _ [30, 31, 32, 33, 34, 4, 35, 6, 44, 45, 46, 47, 48, 49, 50, 51, 52, 53, 54, 55] (by decide +kernel) (by decide +kernel)
set_option maxRecDepth 20000 in
theorem gX6_lend_X6_save : GoodIn wsX6_lend (wsV RX6 75 RX6 yX6_save wsX6_save) := goodIn_app (goodIn_of _ (by decide +kernel)) ggX6_lend_X6_save
set_option maxRecDepth 20000 in
theorem ggX6_lend_X6_lends : GoodIn wsX6_lend wsX6_lends := goodIn_r _ [39, 40, 41, 42, 4, 43, 6, 14, 15, 16, 17, 44, 45, 46, 47, 48, 49, 50, 51, 52, 53, 54, 55] (by decide +kernel) (by decide +kernel)
set_option maxRecDepth 20000 in
theorem gX6_lend_X6_lends : GoodIn wsX6_lend (wsV RX6 87 RX6 yX6_lends wsX6_lends) := goodIn_app (goodIn_of _ (by decide +kernel)) ggX6_lend_X6_lends
theorem dX6_lend_0 : decode cX6_lend 0 = .ok (.aload_n 0, 1) := by decide +kernel
theorem dX6_lend_1 : decode cX6_lend 1 = .ok (.iload_n 1, 1) := by decide +kernel
theorem dX6_lend_2 : decode cX6_lend 2 = .ok (.invokevirtual 78, 3) := by decide +kernel
theorem dX6_lend_5 : decode cX6_lend 5 = .ok (.ifCond .eq 15, 3) := by decide +kernel
theorem dX6_lend_8 : decode cX6_lend 8 = .ok (.aload_n 0, 1) := by decide +kernel
theorem dX6_lend_9 : decode cX6_lend 9 = .ok (.iload_n 2, 1) := by decide +kernel
theorem dX6_lend_10 : decode cX6_lend 10 = .ok (.invokevirtual 78, 3) := by decide +kernel
theorem dX6_lend_13 : decode cX6_lend 13 = .ok (.ifCond .eq 7, 3) := by decide +kernel
theorem dX6_lend_16 : decode cX6_lend 16 = .ok (.iconst 1, 1) := by decide +kernel
theorem dX6_lend_17 : decode cX6_lend 17 = .ok (.goto 4, 3) := by decide +kernel
theorem dX6_lend_20 : decode cX6_lend 20 = .ok (.iconst 0, 1) := by decide +kernel
theorem dX6_lend_21 : decode cX6_lend 21 = .ok (.istore_n 3, 1) := by decide +kernel
theorem dX6_lend_22 : decode cX6_lend 22 = .ok (.aload_n 0, 1) := by decide +kernel
theorem dX6_lend_23 : decode cX6_lend 23 = .ok (.iload_n 3, 1) := by decide +kernel
theorem dX6_lend_24 : decode cX6_lend 24 = .ok (.ifCond .ne 7, 3) := by decide +kernel
theorem dX6_lend_27 : decode cX6_lend 27 = .ok (.iconst 1, 1) := by decide +kernel
theorem dX6_lend_28 : decode cX6_lend 28 = .ok (.goto 17, 3) := by decide +kernel
theorem dX6_lend_31 : decode cX6_lend 31 = .ok (.aload_n 0, 1) := by decide +kernel
theorem dX6_lend_32 : decode cX6_lend 32 = .ok (.iload_n 1, 1) := by decide +kernel
theorem dX6_lend_33 : decode cX6_lend 33 = .ok (.iload_n 2, 1) := by decide +kernel
theorem dX6_lend_34 : decode cX6_lend 34 = .ok (.invokevirtual 84, 3) := by decide +kernel
theorem dX6_lend_37 : decode cX6_lend 37 = .ok (.ifCond .le 7, 3) := by decide +kernel
theorem dX6_lend_40 : decode cX6_lend 40 = .ok (.iconst 2, 1) := by decide +kernel
theorem dX6_lend_41 : decode cX6_lend 41 = .ok (.goto 4, 3) := by decide +kernel
theorem dX6_lend_44 : decode cX6_lend 44 = .ok (.iconst 0, 1) := by decide +kernel
theorem dX6_lend_45 : decode cX6_lend 45 = .ok (.invokevirtual 72, 3) := by decide +kernel
theorem dX6_lend_48 : decode cX6_lend 48 = .ok (.ifCond .ne 5, 3) := by decide +kernel
theorem dX6_lend_51 : decode cX6_lend 51 = .ok (.iconst 0, 1) := by decide +kernel
theorem dX6_lend_52 : decode cX6_lend 52 = .ok (.ireturn, 1) := by decide +kernel
theorem dX6_lend_53 : decode cX6_lend 53 = .ok (.aload_n 0, 1) := by decide +kernel
theorem dX6_lend_54 : decode cX6_lend 54 = .ok (.invokevirtual 75, 3) := by decide +kernel
theorem dX6_lend_57 : decode cX6_lend 57 = .ok (.aload_n 0, 1) := by decide +kernel
theorem dX6_lend_58 : decode cX6_lend 58 = .ok (.iload_n 1, 1) := by decide +kernel
theorem dX6_lend_59 : decode cX6_lend 59 = .ok (.iload_n 2, 1) := by decide +kernel
theorem dX6_lend_60 : decode cX6_lend 60 = .ok (.invokevirtual 87, 3) := by decide +kernel
theorem dX6_lend_63 : decode cX6_lend 63 = .ok (.ireturn, 1) := by decide +kernel
set_option maxRecDepth 20000 in
theorem ggX6_giveBack_X6_isGuest : GoodIn wsX6_giveBack wsX6_isGuest := goodIn_r _ [5, 6, 7, 8, 4, 9, 44, 45, 46, 47, 48, 49, 50, 51, 52, 53, 54, 55] (by decide +kernel) (by decide +kernel)
set_option maxRecDepth 20000 in
theorem gX6_giveBack_X6_isGuest : GoodIn wsX6_giveBack (wsV RX6 78 RX6 yX6_isGuest wsX6_isGuest) := goodIn_app (goodIn_of _ (by decide +kernel)) ggX6_giveBack_X6_isGuest
set_option maxRecDepth 20000 in
theorem ggX6_giveBack_X6_canGiveBack : GoodIn wsX6_giveBack wsX6_canGiveBack := goodIn_r _ [13, 14, 15, 16, 4, 17, 18, 19, 20, 21, 6, 44, 45, 46, 47, 48, 49, 50, 51, 52, 53, 54, 55] (by decide +kernel) (by decide +kernel)
set_option maxRecDepth 20000 in
theorem gX6_giveBack_X6_canGiveBack : GoodIn wsX6_giveBack (wsV RX6 90 RX6 yX6_canGiveBack wsX6_canGiveBack) := goodIn_app (goodIn_of _ (by decide +kernel)) ggX6_giveBack_X6_canGiveBack
set_option maxRecDepth 20000 in
theorem ggX6_giveBack_X6_holds : GoodIn wsX6_giveBack wsX6_holds := goodIn_r _ [25, 26, 44, 45, 46, 47, 48, 49, 50, 51, 52, 53, 54, 55] (by decide +kernel) (by decide +kernel)
set_option maxRecDepth 20000 in
theorem gX6_giveBack_X6_holds : GoodIn wsX6_giveBack (wsV RX6 72 RX6 yX6_holds wsX6_holds) := goodIn_app (goodIn_of _ (by decide +kernel)) ggX6_giveBack_X6_holds
set_option maxRecDepth 20000 in
theorem ggX6_giveBack_X6_save : GoodIn wsX6_giveBack wsX6_save := goodIn_r _ [30, 31, 32, 33, 34, 4, 35, 6, 44, 45, 46, 47, 48, 49, 50, 51, 52, 53, 54, 55] (by decide +kernel) (by decide +kernel)
set_option maxRecDepth 20000 in
theorem gX6_giveBack_X6_save : GoodIn wsX6_giveBack (wsV RX6 75 RX6 yX6_save wsX6_save) := goodIn_app (goodIn_of _ (by decide +kernel)) ggX6_giveBack_X6_save
set_option maxRecDepth 20000 in
theorem ggX6_giveBack_X6_of : GoodIn wsX6_giveBack wsX6_of := goodIn_r _ [21, 6, 44, 45, 46, 47, 48, 49, 50, 51, 52, 53, 54, 55] (by decide +kernel) (by decide +kernel)
set_option maxRecDepth 20000 in
theorem gX6_giveBack_X6_of : GoodIn wsX6_giveBack (wsV RX6 27 RX6 yX6_of wsX6_of) := goodIn_app (goodIn_of _ (by decide +kernel)) ggX6_giveBack_X6_of
set_option maxRecDepth 20000 in
theorem ggX6_giveBack_X6_isBorrowed : GoodIn wsX6_giveBack wsX6_isBorrowed := goodIn_r _ [17, 18, 19, 20, 4, 21, 6, 44, 45, 46, 47, 48, 49, 50, 51, 52, 53, 54, 55] (by decide +kernel) (by decide +kernel)
set_option maxRecDepth 20000 in
theorem gX6_giveBack_X6_isBorrowed : GoodIn wsX6_giveBack (wsV RX6 31 RX6 yX6_isBorrowed wsX6_isBorrowed) := goodIn_app (goodIn_of _ (by decide +kernel)) ggX6_giveBack_X6_isBorrowed
set_option maxRecDepth 20000 in
theorem ggX6_giveBack_X6_lay : GoodIn wsX6_giveBack wsX6_lay := goodIn_r _ [39, 6, 44, 45, 46, 47, 48, 49, 50, 51, 52, 53, 54, 55] (by decide +kernel) (by decide +kernel)
set_option maxRecDepth 20000 in
theorem gX6_giveBack_X6_lay : GoodIn wsX6_giveBack (wsV RX6 35 RX6 yX6_lay wsX6_lay) := goodIn_app (goodIn_of _ (by decide +kernel)) ggX6_giveBack_X6_lay
set_option maxRecDepth 20000 in
theorem ggX6_giveBack_X6_lentTo : GoodIn wsX6_giveBack wsX6_lentTo := goodIn_r _ [43, 6, 18, 19, 20, 4, 21, 44, 45, 46, 47, 48, 49, 50, 51, 52, 53, 54, 55] (by decide +kernel) (by decide +kernel)
set_option maxRecDepth 20000 in
theorem gX6_giveBack_X6_lentTo : GoodIn wsX6_giveBack (wsV RX6 81 RX6 yX6_lentTo wsX6_lentTo) := goodIn_app (goodIn_of _ (by decide +kernel)) ggX6_giveBack_X6_lentTo
theorem dX6_giveBack_0 : decode cX6_giveBack 0 = .ok (.aload_n 0, 1) := by decide +kernel
theorem dX6_giveBack_1 : decode cX6_giveBack 1 = .ok (.iload_n 1, 1) := by decide +kernel
theorem dX6_giveBack_2 : decode cX6_giveBack 2 = .ok (.invokevirtual 78, 3) := by decide +kernel
theorem dX6_giveBack_5 : decode cX6_giveBack 5 = .ok (.istore_n 2, 1) := by decide +kernel
theorem dX6_giveBack_6 : decode cX6_giveBack 6 = .ok (.aload_n 0, 1) := by decide +kernel
theorem dX6_giveBack_7 : decode cX6_giveBack 7 = .ok (.iload_n 2, 1) := by decide +kernel
theorem dX6_giveBack_8 : decode cX6_giveBack 8 = .ok (.ifCond .ne 7, 3) := by decide +kernel
theorem dX6_giveBack_11 : decode cX6_giveBack 11 = .ok (.iconst 1, 1) := by decide +kernel
theorem dX6_giveBack_12 : decode cX6_giveBack 12 = .ok (.goto 16, 3) := by decide +kernel
theorem dX6_giveBack_15 : decode cX6_giveBack 15 = .ok (.aload_n 0, 1) := by decide +kernel
theorem dX6_giveBack_16 : decode cX6_giveBack 16 = .ok (.iload_n 1, 1) := by decide +kernel
theorem dX6_giveBack_17 : decode cX6_giveBack 17 = .ok (.invokevirtual 90, 3) := by decide +kernel
theorem dX6_giveBack_20 : decode cX6_giveBack 20 = .ok (.ifCond .ne 7, 3) := by decide +kernel
theorem dX6_giveBack_23 : decode cX6_giveBack 23 = .ok (.iconst 2, 1) := by decide +kernel
theorem dX6_giveBack_24 : decode cX6_giveBack 24 = .ok (.goto 4, 3) := by decide +kernel
theorem dX6_giveBack_27 : decode cX6_giveBack 27 = .ok (.iconst 0, 1) := by decide +kernel
theorem dX6_giveBack_28 : decode cX6_giveBack 28 = .ok (.invokevirtual 72, 3) := by decide +kernel
theorem dX6_giveBack_31 : decode cX6_giveBack 31 = .ok (.ifCond .ne 5, 3) := by decide +kernel
theorem dX6_giveBack_34 : decode cX6_giveBack 34 = .ok (.iconst 0, 1) := by decide +kernel
theorem dX6_giveBack_35 : decode cX6_giveBack 35 = .ok (.ireturn, 1) := by decide +kernel
theorem dX6_giveBack_36 : decode cX6_giveBack 36 = .ok (.aload_n 0, 1) := by decide +kernel
theorem dX6_giveBack_37 : decode cX6_giveBack 37 = .ok (.invokevirtual 75, 3) := by decide +kernel
theorem dX6_giveBack_40 : decode cX6_giveBack 40 = .ok (.aload_n 0, 1) := by decide +kernel
theorem dX6_giveBack_41 : decode cX6_giveBack 41 = .ok (.iload_n 1, 1) := by decide +kernel
theorem dX6_giveBack_42 : decode cX6_giveBack 42 = .ok (.iconst 4, 1) := by decide +kernel
theorem dX6_giveBack_43 : decode cX6_giveBack 43 = .ok (.invokevirtual 27, 3) := by decide +kernel
theorem dX6_giveBack_46 : decode cX6_giveBack 46 = .ok (.istore_n 3, 1) := by decide +kernel
theorem dX6_giveBack_47 : decode cX6_giveBack 47 = .ok (.aload_n 0, 1) := by decide +kernel
theorem dX6_giveBack_48 : decode cX6_giveBack 48 = .ok (.iload_n 3, 1) := by decide +kernel
theorem dX6_giveBack_49 : decode cX6_giveBack 49 = .ok (.iconst 4, 1) := by decide +kernel
theorem dX6_giveBack_50 : decode cX6_giveBack 50 = .ok (.aload_n 0, 1) := by decide +kernel
theorem dX6_giveBack_51 : decode cX6_giveBack 51 = .ok (.iload_n 3, 1) := by decide +kernel
theorem dX6_giveBack_52 : decode cX6_giveBack 52 = .ok (.invokevirtual 31, 3) := by decide +kernel
theorem dX6_giveBack_55 : decode cX6_giveBack 55 = .ok (.ifCond .eq 12, 3) := by decide +kernel
theorem dX6_giveBack_58 : decode cX6_giveBack 58 = .ok (.aload_n 0, 1) := by decide +kernel
theorem dX6_giveBack_59 : decode cX6_giveBack 59 = .ok (.iload_n 3, 1) := by decide +kernel
theorem dX6_giveBack_60 : decode cX6_giveBack 60 = .ok (.iconst 4, 1) := by decide +kernel
theorem dX6_giveBack_61 : decode cX6_giveBack 61 = .ok (.invokevirtual 27, 3) := by decide +kernel
theorem dX6_giveBack_64 : decode cX6_giveBack 64 = .ok (.goto 4, 3) := by decide +kernel
theorem dX6_giveBack_67 : decode cX6_giveBack 67 = .ok (.iload_n 3, 1) := by decide +kernel
theorem dX6_giveBack_68 : decode cX6_giveBack 68 = .ok (.invokevirtual 35, 3) := by decide +kernel
theorem dX6_giveBack_71 : decode cX6_giveBack 71 = .ok (.aload_n 0, 1) := by decide +kernel
theorem dX6_giveBack_72 : decode cX6_giveBack 72 = .ok (.iload_n 1, 1) := by decide +kernel
theorem dX6_giveBack_73 : decode cX6_giveBack 73 = .ok (.iconst 4, 1) := by decide +kernel
theorem dX6_giveBack_74 : decode cX6_giveBack 74 = .ok (.iconst (-1), 1) := by decide +kernel
theorem dX6_giveBack_75 : decode cX6_giveBack 75 = .ok (.invokevirtual 35, 3) := by decide +kernel
theorem dX6_giveBack_78 : decode cX6_giveBack 78 = .ok (.aload_n 0, 1) := by decide +kernel
theorem dX6_giveBack_79 : decode cX6_giveBack 79 = .ok (.iload_n 1, 1) := by decide +kernel
theorem dX6_giveBack_80 : decode cX6_giveBack 80 = .ok (.iconst 4, 1) := by decide +kernel
theorem dX6_giveBack_81 : decode cX6_giveBack 81 = .ok (.aload_n 0, 1) := by decide +kernel
theorem dX6_giveBack_82 : decode cX6_giveBack 82 = .ok (.iload_n 1, 1) := by decide +kernel
theorem dX6_giveBack_83 : decode cX6_giveBack 83 = .ok (.invokevirtual 81, 3) := by decide +kernel
theorem dX6_giveBack_86 : decode cX6_giveBack 86 = .ok (.iconst (-1), 1) := by decide +kernel
theorem dX6_giveBack_87 : decode cX6_giveBack 87 = .ok (.if_icmp .ne 7, 3) := by decide +kernel
theorem dX6_giveBack_90 : decode cX6_giveBack 90 = .ok (.iload_n 1, 1) := by decide +kernel
theorem dX6_giveBack_91 : decode cX6_giveBack 91 = .ok (.goto 4, 3) := by decide +kernel
theorem dX6_giveBack_94 : decode cX6_giveBack 94 = .ok (.iconst (-1), 1) := by decide +kernel
theorem dX6_giveBack_95 : decode cX6_giveBack 95 = .ok (.invokevirtual 35, 3) := by decide +kernel
theorem dX6_giveBack_98 : decode cX6_giveBack 98 = .ok (.iload_n 3, 1) := by decide +kernel
theorem dX6_giveBack_99 : decode cX6_giveBack 99 = .ok (.ireturn, 1) := by decide +kernel
set_option maxRecDepth 20000 in
theorem ggX6_mask_X6_isGuest : GoodIn wsX6_mask wsX6_isGuest := goodIn_r _ [5, 6, 7, 8, 4, 9, 44, 45, 46, 47, 48, 49, 50, 51, 52, 53, 54, 55] (by decide +kernel) (by decide +kernel)
set_option maxRecDepth 20000 in
theorem gX6_mask_X6_isGuest : GoodIn wsX6_mask (wsV RX6 78 RX6 yX6_isGuest wsX6_isGuest) := goodIn_app (goodIn_of _ (by decide +kernel)) ggX6_mask_X6_isGuest
set_option maxRecDepth 20000 in
theorem ggX6_mask_X6_whyNoMask : GoodIn wsX6_mask wsX6_whyNoMask := goodIn_r _ [13, 14, 15, 16, 4, 17, 6, 44, 45, 46, 47, 48, 49, 50, 51, 52, 53, 54, 55] (by decide +kernel) (by decide +kernel)
set_option maxRecDepth 20000 in
theorem gX6_mask_X6_whyNoMask : GoodIn wsX6_mask (wsV RX6 93 RX6 yX6_whyNoMask wsX6_whyNoMask) := goodIn_app (goodIn_of _ (by decide +kernel)) ggX6_mask_X6_whyNoMask
set_option maxRecDepth 20000 in
theorem ggX6_mask_X6_holds : GoodIn wsX6_mask wsX6_holds := goodIn_r _ [21, 22, 44, 45, 46, 47, 48, 49, 50, 51, 52, 53, 54, 55] (by decide +kernel) (by decide +kernel)
set_option maxRecDepth 20000 in
theorem gX6_mask_X6_holds : GoodIn wsX6_mask (wsV RX6 72 RX6 yX6_holds wsX6_holds) := goodIn_app (goodIn_of _ (by decide +kernel)) ggX6_mask_X6_holds
set_option maxRecDepth 20000 in
theorem ggX6_mask_X6_save : GoodIn wsX6_mask wsX6_save := goodIn_r _ [26, 27, 28, 29, 30, 4, 31, 6, 44, 45, 46, 47, 48, 49, 50, 51, 52, 53, 54, 55] (by decide +kernel) (by decide +kernel)
set_option maxRecDepth 20000 in
theorem gX6_mask_X6_save : GoodIn wsX6_mask (wsV RX6 75 RX6 yX6_save wsX6_save) := goodIn_app (goodIn_of _ (by decide +kernel)) ggX6_mask_X6_save
set_option maxRecDepth 20000 in
theorem ggX6_mask_X6_masks : GoodIn wsX6_mask wsX6_masks := goodIn_r _ [35, 6, 36, 37, 38, 4, 39, 14, 15, 16, 17, 40, 41, 42, 43, 44, 45, 46, 47, 48, 49, 50, 51, 52, 53, 54, 55] (by decide +kernel) (by decide +kernel)
set_option maxRecDepth 20000 in
theorem gX6_mask_X6_masks : GoodIn wsX6_mask (wsV RX6 96 RX6 yX6_masks wsX6_masks) := goodIn_app (goodIn_of _ (by decide +kernel)) ggX6_mask_X6_masks
theorem dX6_mask_0 : decode cX6_mask 0 = .ok (.aload_n 0, 1) := by decide +kernel
theorem dX6_mask_1 : decode cX6_mask 1 = .ok (.iload_n 1, 1) := by decide +kernel
theorem dX6_mask_2 : decode cX6_mask 2 = .ok (.invokevirtual 78, 3) := by decide +kernel
theorem dX6_mask_5 : decode cX6_mask 5 = .ok (.istore_n 2, 1) := by decide +kernel
theorem dX6_mask_6 : decode cX6_mask 6 = .ok (.aload_n 0, 1) := by decide +kernel
theorem dX6_mask_7 : decode cX6_mask 7 = .ok (.iload_n 2, 1) := by decide +kernel
theorem dX6_mask_8 : decode cX6_mask 8 = .ok (.ifCond .ne 7, 3) := by decide +kernel
theorem dX6_mask_11 : decode cX6_mask 11 = .ok (.iconst 1, 1) := by decide +kernel
theorem dX6_mask_12 : decode cX6_mask 12 = .ok (.goto 16, 3) := by decide +kernel
theorem dX6_mask_15 : decode cX6_mask 15 = .ok (.aload_n 0, 1) := by decide +kernel
theorem dX6_mask_16 : decode cX6_mask 16 = .ok (.iload_n 1, 1) := by decide +kernel
theorem dX6_mask_17 : decode cX6_mask 17 = .ok (.invokevirtual 93, 3) := by decide +kernel
theorem dX6_mask_20 : decode cX6_mask 20 = .ok (.ifCond .le 7, 3) := by decide +kernel
theorem dX6_mask_23 : decode cX6_mask 23 = .ok (.iconst 2, 1) := by decide +kernel
theorem dX6_mask_24 : decode cX6_mask 24 = .ok (.goto 4, 3) := by decide +kernel
theorem dX6_mask_27 : decode cX6_mask 27 = .ok (.iconst 0, 1) := by decide +kernel
theorem dX6_mask_28 : decode cX6_mask 28 = .ok (.invokevirtual 72, 3) := by decide +kernel
theorem dX6_mask_31 : decode cX6_mask 31 = .ok (.ifCond .ne 5, 3) := by decide +kernel
theorem dX6_mask_34 : decode cX6_mask 34 = .ok (.iconst 0, 1) := by decide +kernel
theorem dX6_mask_35 : decode cX6_mask 35 = .ok (.ireturn, 1) := by decide +kernel
theorem dX6_mask_36 : decode cX6_mask 36 = .ok (.aload_n 0, 1) := by decide +kernel
theorem dX6_mask_37 : decode cX6_mask 37 = .ok (.invokevirtual 75, 3) := by decide +kernel
theorem dX6_mask_40 : decode cX6_mask 40 = .ok (.aload_n 0, 1) := by decide +kernel
theorem dX6_mask_41 : decode cX6_mask 41 = .ok (.iload_n 1, 1) := by decide +kernel
theorem dX6_mask_42 : decode cX6_mask 42 = .ok (.invokevirtual 96, 3) := by decide +kernel
theorem dX6_mask_45 : decode cX6_mask 45 = .ok (.ireturn, 1) := by decide +kernel
set_option maxRecDepth 20000 in
theorem ggX6_pay_X6_isGuest : GoodIn wsX6_pay wsX6_isGuest := goodIn_r _ [5, 6, 7, 8, 4, 9, 43, 44, 45, 46, 47, 48, 49, 50, 51, 52, 53, 54] (by decide +kernel) (by decide +kernel)
set_option maxRecDepth 20000 in
theorem gX6_pay_X6_isGuest : GoodIn wsX6_pay (wsV RX6 78 RX6 yX6_isGuest wsX6_isGuest) := goodIn_app (goodIn_of _ (by decide +kernel)) ggX6_pay_X6_isGuest
set_option maxRecDepth 20000 in
theorem ggX6_pay_X6_holds : GoodIn wsX6_pay wsX6_holds := goodIn_r _ [13, 14, 43, 44, 45, 46, 47, 48, 49, 50, 51, 52, 53, 54] (by decide +kernel) (by decide +kernel)
set_option maxRecDepth 20000 in
theorem gX6_pay_X6_holds : GoodIn wsX6_pay (wsV RX6 72 RX6 yX6_holds wsX6_holds) := goodIn_app (goodIn_of _ (by decide +kernel)) ggX6_pay_X6_holds
set_option maxRecDepth 20000 in
theorem ggX6_pay_X6_save : GoodIn wsX6_pay wsX6_save := goodIn_r _ [18, 19, 20, 21, 22, 4, 23, 6, 43, 44, 45, 46, 47, 48, 49, 50, 51, 52, 53, 54] (by decide +kernel) (by decide +kernel)
set_option maxRecDepth 20000 in
theorem gX6_pay_X6_save : GoodIn wsX6_pay (wsV RX6 75 RX6 yX6_save wsX6_save) := goodIn_app (goodIn_of _ (by decide +kernel)) ggX6_pay_X6_save
set_option maxRecDepth 20000 in
theorem ggX6_pay_X6_pays : GoodIn wsX6_pay wsX6_pays := goodIn_r _ [27, 28, 29, 30, 4, 31, 6, 32, 33, 34, 35, 36, 37, 38, 39, 40, 41, 42, 43, 44, 45, 46, 47, 48, 49, 50, 51, 52, 53, 54] (by decide +kernel) (by decide +kernel)
set_option maxRecDepth 20000 in
theorem gX6_pay_X6_pays : GoodIn wsX6_pay (wsV RX6 99 RX6 yX6_pays wsX6_pays) := goodIn_app (goodIn_of _ (by decide +kernel)) ggX6_pay_X6_pays
theorem dX6_pay_0 : decode cX6_pay 0 = .ok (.aload_n 0, 1) := by decide +kernel
theorem dX6_pay_1 : decode cX6_pay 1 = .ok (.aload_n 0, 1) := by decide +kernel
theorem dX6_pay_2 : decode cX6_pay 2 = .ok (.iload_n 1, 1) := by decide +kernel
theorem dX6_pay_3 : decode cX6_pay 3 = .ok (.invokevirtual 78, 3) := by decide +kernel
theorem dX6_pay_6 : decode cX6_pay 6 = .ok (.ifCond .eq 7, 3) := by decide +kernel
theorem dX6_pay_9 : decode cX6_pay 9 = .ok (.iconst 0, 1) := by decide +kernel
theorem dX6_pay_10 : decode cX6_pay 10 = .ok (.goto 4, 3) := by decide +kernel
theorem dX6_pay_13 : decode cX6_pay 13 = .ok (.iconst 1, 1) := by decide +kernel
theorem dX6_pay_14 : decode cX6_pay 14 = .ok (.invokevirtual 72, 3) := by decide +kernel
theorem dX6_pay_17 : decode cX6_pay 17 = .ok (.ifCond .ne 5, 3) := by decide +kernel
theorem dX6_pay_20 : decode cX6_pay 20 = .ok (.iconst 0, 1) := by decide +kernel
theorem dX6_pay_21 : decode cX6_pay 21 = .ok (.ireturn, 1) := by decide +kernel
theorem dX6_pay_22 : decode cX6_pay 22 = .ok (.aload_n 0, 1) := by decide +kernel
theorem dX6_pay_23 : decode cX6_pay 23 = .ok (.invokevirtual 75, 3) := by decide +kernel
theorem dX6_pay_26 : decode cX6_pay 26 = .ok (.aload_n 0, 1) := by decide +kernel
theorem dX6_pay_27 : decode cX6_pay 27 = .ok (.iload_n 1, 1) := by decide +kernel
theorem dX6_pay_28 : decode cX6_pay 28 = .ok (.invokevirtual 99, 3) := by decide +kernel
theorem dX6_pay_31 : decode cX6_pay 31 = .ok (.ireturn, 1) := by decide +kernel
set_option maxRecDepth 20000 in
theorem ggX6_queue_X6_isGuest : GoodIn wsX6_queue wsX6_isGuest := goodIn_r _ [5, 6, 7, 8, 4, 9, 51, 52, 53, 54, 55, 56, 57, 58, 59, 60, 61, 62] (by decide +kernel) (by decide +kernel)
set_option maxRecDepth 20000 in
theorem gX6_queue_X6_isGuest : GoodIn wsX6_queue (wsV RX6 78 RX6 yX6_isGuest wsX6_isGuest) := goodIn_app (goodIn_of _ (by decide +kernel)) ggX6_queue_X6_isGuest
set_option maxRecDepth 20000 in
theorem ggX6_queue_X6_isGate : GoodIn wsX6_queue wsX6_isGate := goodIn_r _ [12, 7, 8, 4, 9] (by decide +kernel) (by decide +kernel)
set_option maxRecDepth 20000 in
theorem gX6_queue_X6_isGate : GoodIn wsX6_queue (va_wsS RX6 102 yX6_isGate wsX6_isGate) := goodIn_app (goodIn_of _ (by decide +kernel)) ggX6_queue_X6_isGate
set_option maxRecDepth 20000 in
theorem ggX6_queue_X6_whyNoLine : GoodIn wsX6_queue wsX6_whyNoLine := goodIn_r _ [16, 6, 17, 18, 19, 4, 20, 21, 22, 23, 24, 25, 26, 27, 28, 29, 30, 31, 32, 51, 52, 53, 54, 55, 56, 57, 58, 59, 60, 61, 62] (by decide +kernel) (by decide +kernel)
set_option maxRecDepth 20000 in
theorem gX6_queue_X6_whyNoLine : GoodIn wsX6_queue (wsV RX6 105 RX6 yX6_whyNoLine wsX6_whyNoLine) := goodIn_app (goodIn_of _ (by decide +kernel)) ggX6_queue_X6_whyNoLine
set_option maxRecDepth 20000 in
theorem ggX6_queue_X6_holds : GoodIn wsX6_queue wsX6_holds := goodIn_r _ [36, 37, 51, 52, 53, 54, 55, 56, 57, 58, 59, 60, 61, 62] (by decide +kernel) (by decide +kernel)
set_option maxRecDepth 20000 in
theorem gX6_queue_X6_holds : GoodIn wsX6_queue (wsV RX6 72 RX6 yX6_holds wsX6_holds) := goodIn_app (goodIn_of _ (by decide +kernel)) ggX6_queue_X6_holds
set_option maxRecDepth 20000 in
theorem ggX6_queue_X6_save : GoodIn wsX6_queue wsX6_save := goodIn_r _ [41, 42, 43, 44, 45, 4, 46, 6, 51, 52, 53, 54, 55, 56, 57, 58, 59, 60, 61, 62] (by decide +kernel) (by decide +kernel)
set_option maxRecDepth 20000 in
theorem gX6_queue_X6_save : GoodIn wsX6_queue (wsV RX6 75 RX6 yX6_save wsX6_save) := goodIn_app (goodIn_of _ (by decide +kernel)) ggX6_queue_X6_save
set_option maxRecDepth 20000 in
theorem ggX6_queue_X6_queues : GoodIn wsX6_queue wsX6_queues := goodIn_r _ [50, 6, 51, 52, 53, 54, 55, 56, 57, 58, 59, 60, 61, 62] (by decide +kernel) (by decide +kernel)
set_option maxRecDepth 20000 in
theorem gX6_queue_X6_queues : GoodIn wsX6_queue (wsV RX6 108 RX6 yX6_queues wsX6_queues) := goodIn_app (goodIn_of _ (by decide +kernel)) ggX6_queue_X6_queues
theorem dX6_queue_0 : decode cX6_queue 0 = .ok (.aload_n 0, 1) := by decide +kernel
theorem dX6_queue_1 : decode cX6_queue 1 = .ok (.iload_n 1, 1) := by decide +kernel
theorem dX6_queue_2 : decode cX6_queue 2 = .ok (.invokevirtual 78, 3) := by decide +kernel
theorem dX6_queue_5 : decode cX6_queue 5 = .ok (.ifCond .eq 14, 3) := by decide +kernel
theorem dX6_queue_8 : decode cX6_queue 8 = .ok (.iload_n 2, 1) := by decide +kernel
theorem dX6_queue_9 : decode cX6_queue 9 = .ok (.invokestatic 102, 3) := by decide +kernel
theorem dX6_queue_12 : decode cX6_queue 12 = .ok (.ifCond .eq 7, 3) := by decide +kernel
theorem dX6_queue_15 : decode cX6_queue 15 = .ok (.iconst 1, 1) := by decide +kernel
theorem dX6_queue_16 : decode cX6_queue 16 = .ok (.goto 4, 3) := by decide +kernel
theorem dX6_queue_19 : decode cX6_queue 19 = .ok (.iconst 0, 1) := by decide +kernel
theorem dX6_queue_20 : decode cX6_queue 20 = .ok (.istore_n 3, 1) := by decide +kernel
theorem dX6_queue_21 : decode cX6_queue 21 = .ok (.aload_n 0, 1) := by decide +kernel
theorem dX6_queue_22 : decode cX6_queue 22 = .ok (.iload_n 3, 1) := by decide +kernel
theorem dX6_queue_23 : decode cX6_queue 23 = .ok (.ifCond .ne 7, 3) := by decide +kernel
theorem dX6_queue_26 : decode cX6_queue 26 = .ok (.iconst 1, 1) := by decide +kernel
theorem dX6_queue_27 : decode cX6_queue 27 = .ok (.goto 16, 3) := by decide +kernel
theorem dX6_queue_30 : decode cX6_queue 30 = .ok (.aload_n 0, 1) := by decide +kernel
theorem dX6_queue_31 : decode cX6_queue 31 = .ok (.iload_n 1, 1) := by decide +kernel
theorem dX6_queue_32 : decode cX6_queue 32 = .ok (.invokevirtual 105, 3) := by decide +kernel
theorem dX6_queue_35 : decode cX6_queue 35 = .ok (.ifCond .le 7, 3) := by decide +kernel
theorem dX6_queue_38 : decode cX6_queue 38 = .ok (.iconst 2, 1) := by decide +kernel
theorem dX6_queue_39 : decode cX6_queue 39 = .ok (.goto 4, 3) := by decide +kernel
theorem dX6_queue_42 : decode cX6_queue 42 = .ok (.iconst 0, 1) := by decide +kernel
theorem dX6_queue_43 : decode cX6_queue 43 = .ok (.invokevirtual 72, 3) := by decide +kernel
theorem dX6_queue_46 : decode cX6_queue 46 = .ok (.ifCond .ne 5, 3) := by decide +kernel
theorem dX6_queue_49 : decode cX6_queue 49 = .ok (.iconst 0, 1) := by decide +kernel
theorem dX6_queue_50 : decode cX6_queue 50 = .ok (.ireturn, 1) := by decide +kernel
theorem dX6_queue_51 : decode cX6_queue 51 = .ok (.aload_n 0, 1) := by decide +kernel
theorem dX6_queue_52 : decode cX6_queue 52 = .ok (.invokevirtual 75, 3) := by decide +kernel
theorem dX6_queue_55 : decode cX6_queue 55 = .ok (.aload_n 0, 1) := by decide +kernel
theorem dX6_queue_56 : decode cX6_queue 56 = .ok (.iload_n 1, 1) := by decide +kernel
theorem dX6_queue_57 : decode cX6_queue 57 = .ok (.iload_n 2, 1) := by decide +kernel
theorem dX6_queue_58 : decode cX6_queue 58 = .ok (.invokevirtual 108, 3) := by decide +kernel
theorem dX6_queue_61 : decode cX6_queue 61 = .ok (.ireturn, 1) := by decide +kernel
set_option maxRecDepth 20000 in
theorem ggX6_open_X6_isGate : GoodIn wsX6_open wsX6_isGate := goodIn_r _ [4, 5, 6, 3, 7] (by decide +kernel) (by decide +kernel)
set_option maxRecDepth 20000 in
theorem gX6_open_X6_isGate : GoodIn wsX6_open (va_wsS RX6 102 yX6_isGate wsX6_isGate) := goodIn_app (goodIn_of _ (by decide +kernel)) ggX6_open_X6_isGate
set_option maxRecDepth 20000 in
theorem ggX6_open_X6_lineLength : GoodIn wsX6_open wsX6_lineLength := goodIn_r _ [11, 12, 63, 64, 65, 66, 67, 68, 69, 70, 71, 72, 73, 74] (by decide +kernel) (by decide +kernel)
set_option maxRecDepth 20000 in
theorem gX6_open_X6_lineLength : GoodIn wsX6_open (wsV RX6 39 RX6 yX6_lineLength wsX6_lineLength) := goodIn_app (goodIn_of _ (by decide +kernel)) ggX6_open_X6_lineLength
set_option maxRecDepth 20000 in
theorem ggX6_open_X6_holds : GoodIn wsX6_open wsX6_holds := goodIn_r _ [16, 17, 63, 64, 65, 66, 67, 68, 69, 70, 71, 72, 73, 74] (by decide +kernel) (by decide +kernel)
set_option maxRecDepth 20000 in
theorem gX6_open_X6_holds : GoodIn wsX6_open (wsV RX6 72 RX6 yX6_holds wsX6_holds) := goodIn_app (goodIn_of _ (by decide +kernel)) ggX6_open_X6_holds
set_option maxRecDepth 20000 in
theorem ggX6_open_X6_save : GoodIn wsX6_open wsX6_save := goodIn_r _ [21, 22, 23, 24, 25, 3, 26, 12, 63, 64, 65, 66, 67, 68, 69, 70, 71, 72, 73, 74] (by decide +kernel) (by decide +kernel)
set_option maxRecDepth 20000 in
theorem gX6_open_X6_save : GoodIn wsX6_open (wsV RX6 75 RX6 yX6_save wsX6_save) := goodIn_app (goodIn_of _ (by decide +kernel)) ggX6_open_X6_save
set_option maxRecDepth 20000 in
theorem ggX6_open_X6_opens : GoodIn wsX6_open wsX6_opens := goodIn_r _ [30, 12, 31, 32, 33, 34, 3, 35, 36, 37, 38, 39, 40, 41, 42, 43, 44, 45, 46, 47, 48, 49, 50, 51, 52, 53, 54, 55, 56, 57, 58, 59, 60, 61, 62, 63, 64, 65, 66, 67, 68, 69, 70, 71, 72, 73, 74] (by decide +kernel) (by decide +kernel)
set_option maxRecDepth 20000 in
theorem gX6_open_X6_opens : GoodIn wsX6_open (wsV RX6 111 RX6 yX6_opens wsX6_opens) := goodIn_app (goodIn_of _ (by decide +kernel)) ggX6_open_X6_opens
theorem dX6_open_0 : decode cX6_open 0 = .ok (.iload_n 1, 1) := by decide +kernel
theorem dX6_open_1 : decode cX6_open 1 = .ok (.invokestatic 102, 3) := by decide +kernel
theorem dX6_open_4 : decode cX6_open 4 = .ok (.istore_n 2, 1) := by decide +kernel
theorem dX6_open_5 : decode cX6_open 5 = .ok (.aload_n 0, 1) := by decide +kernel
theorem dX6_open_6 : decode cX6_open 6 = .ok (.iload_n 2, 1) := by decide +kernel
theorem dX6_open_7 : decode cX6_open 7 = .ok (.ifCond .ne 7, 3) := by decide +kernel
theorem dX6_open_10 : decode cX6_open 10 = .ok (.iconst 1, 1) := by decide +kernel
theorem dX6_open_11 : decode cX6_open 11 = .ok (.goto 16, 3) := by decide +kernel
theorem dX6_open_14 : decode cX6_open 14 = .ok (.aload_n 0, 1) := by decide +kernel
theorem dX6_open_15 : decode cX6_open 15 = .ok (.iload_n 1, 1) := by decide +kernel
theorem dX6_open_16 : decode cX6_open 16 = .ok (.invokevirtual 39, 3) := by decide +kernel
theorem dX6_open_19 : decode cX6_open 19 = .ok (.ifCond .ne 7, 3) := by decide +kernel
theorem dX6_open_22 : decode cX6_open 22 = .ok (.iconst 2, 1) := by decide +kernel
theorem dX6_open_23 : decode cX6_open 23 = .ok (.goto 4, 3) := by decide +kernel
theorem dX6_open_26 : decode cX6_open 26 = .ok (.iconst 0, 1) := by decide +kernel
theorem dX6_open_27 : decode cX6_open 27 = .ok (.invokevirtual 72, 3) := by decide +kernel
theorem dX6_open_30 : decode cX6_open 30 = .ok (.ifCond .ne 5, 3) := by decide +kernel
theorem dX6_open_33 : decode cX6_open 33 = .ok (.iconst 0, 1) := by decide +kernel
theorem dX6_open_34 : decode cX6_open 34 = .ok (.ireturn, 1) := by decide +kernel
theorem dX6_open_35 : decode cX6_open 35 = .ok (.aload_n 0, 1) := by decide +kernel
theorem dX6_open_36 : decode cX6_open 36 = .ok (.invokevirtual 75, 3) := by decide +kernel
theorem dX6_open_39 : decode cX6_open 39 = .ok (.aload_n 0, 1) := by decide +kernel
theorem dX6_open_40 : decode cX6_open 40 = .ok (.iload_n 1, 1) := by decide +kernel
theorem dX6_open_41 : decode cX6_open 41 = .ok (.invokevirtual 111, 3) := by decide +kernel
theorem dX6_open_44 : decode cX6_open 44 = .ok (.ireturn, 1) := by decide +kernel
set_option maxRecDepth 20000 in
theorem ggX6_night_X6_save : GoodIn wsX6_night wsX6_save := goodIn_r _ [6, 7, 8, 9, 10, 5, 11, 12, 25, 26, 27, 28, 29, 30, 31, 32, 33, 34, 35, 36] (by decide +kernel) (by decide +kernel)
set_option maxRecDepth 20000 in
theorem gX6_night_X6_save : GoodIn wsX6_night (wsV RX6 75 RX6 yX6_save wsX6_save) := goodIn_app (goodIn_of _ (by decide +kernel)) ggX6_night_X6_save
set_option maxRecDepth 20000 in
theorem ggX6_night_X6_nights : GoodIn wsX6_night wsX6_nights := goodIn_r _ [16, 12, 17, 18, 19, 5, 20, 21, 22, 23, 24, 25, 26, 27, 28, 29, 30, 31, 32, 33, 34, 35, 36] (by decide +kernel) (by decide +kernel)
set_option maxRecDepth 20000 in
theorem gX6_night_X6_nights : GoodIn wsX6_night (wsV RX6 114 RX6 yX6_nights wsX6_nights) := goodIn_app (goodIn_of _ (by decide +kernel)) ggX6_night_X6_nights
theorem dX6_night_0 : decode cX6_night 0 = .ok (.aload_n 0, 1) := by decide +kernel
theorem dX6_night_1 : decode cX6_night 1 = .ok (.iconst 0, 1) := by decide +kernel
theorem dX6_night_2 : decode cX6_night 2 = .ok (.putfield 19, 3) := by decide +kernel
theorem dX6_night_5 : decode cX6_night 5 = .ok (.aload_n 0, 1) := by decide +kernel
theorem dX6_night_6 : decode cX6_night 6 = .ok (.invokevirtual 75, 3) := by decide +kernel
theorem dX6_night_9 : decode cX6_night 9 = .ok (.aload_n 0, 1) := by decide +kernel
theorem dX6_night_10 : decode cX6_night 10 = .ok (.invokevirtual 114, 3) := by decide +kernel
theorem dX6_night_13 : decode cX6_night 13 = .ok (.ireturn, 1) := by decide +kernel
theorem dX6_most_0 : decode cX6_most 0 = .ok (.iload_n 0, 1) := by decide +kernel
theorem dX6_most_1 : decode cX6_most 1 = .ok (.lookupswitch 44 #[(0, 35), (1, 38), (5, 41)], 35) := by decide +kernel
theorem dX6_most_36 : decode cX6_most 36 = .ok (.bipush 20, 2) := by decide +kernel
theorem dX6_most_38 : decode cX6_most 38 = .ok (.ireturn, 1) := by decide +kernel
theorem dX6_most_39 : decode cX6_most 39 = .ok (.bipush 10, 2) := by decide +kernel
theorem dX6_most_41 : decode cX6_most 41 = .ok (.ireturn, 1) := by decide +kernel
theorem dX6_most_42 : decode cX6_most 42 = .ok (.bipush 99, 2) := by decide +kernel
theorem dX6_most_44 : decode cX6_most 44 = .ok (.ireturn, 1) := by decide +kernel
theorem dX6_most_45 : decode cX6_most 45 = .ok (.bipush 9, 2) := by decide +kernel
theorem dX6_most_47 : decode cX6_most 47 = .ok (.ireturn, 1) := by decide +kernel
set_option maxRecDepth 20000 in
theorem ggX6_set_X6_in : GoodIn wsX6_set wsX6_in := goodIn_r _ [5] (by decide +kernel) (by decide +kernel)
set_option maxRecDepth 20000 in
theorem gX6_set_X6_in : GoodIn wsX6_set (va_wsS RX6 23 yX6_in wsX6_in) := goodIn_app (goodIn_of _ (by decide +kernel)) ggX6_set_X6_in
set_option maxRecDepth 20000 in
theorem ggX6_set_X6_most : GoodIn wsX6_set wsX6_most := goodIn_r _ [8] (by decide +kernel) (by decide +kernel)
set_option maxRecDepth 20000 in
theorem gX6_set_X6_most : GoodIn wsX6_set (va_wsS RX6 118 yX6_most wsX6_most) := goodIn_app (goodIn_of _ (by decide +kernel)) ggX6_set_X6_most
set_option maxRecDepth 20000 in
theorem ggX6_set_X6_holds : GoodIn wsX6_set wsX6_holds := goodIn_r _ [12, 13, 23, 24, 25, 26, 27, 28, 29, 30, 31, 32, 33, 34] (by decide +kernel) (by decide +kernel)
set_option maxRecDepth 20000 in
theorem gX6_set_X6_holds : GoodIn wsX6_set (wsV RX6 72 RX6 yX6_holds wsX6_holds) := goodIn_app (goodIn_of _ (by decide +kernel)) ggX6_set_X6_holds
set_option maxRecDepth 20000 in
theorem ggX6_set_X6_save : GoodIn wsX6_set wsX6_save := goodIn_r _ [17, 18, 19, 20, 21, 4, 22, 1, 23, 24, 25, 26, 27, 28, 29, 30, 31, 32, 33, 34] (by decide +kernel) (by decide +kernel)
set_option maxRecDepth 20000 in
theorem gX6_set_X6_save : GoodIn wsX6_set (wsV RX6 75 RX6 yX6_save wsX6_save) := goodIn_app (goodIn_of _ (by decide +kernel)) ggX6_set_X6_save
theorem dX6_set_0 : decode cX6_set 0 = .ok (.iload_n 1, 1) := by decide +kernel
theorem dX6_set_1 : decode cX6_set 1 = .ok (.iconst 0, 1) := by decide +kernel
theorem dX6_set_2 : decode cX6_set 2 = .ok (.iconst 5, 1) := by decide +kernel
theorem dX6_set_3 : decode cX6_set 3 = .ok (.invokestatic 23, 3) := by decide +kernel
theorem dX6_set_6 : decode cX6_set 6 = .ok (.istore_n 3, 1) := by decide +kernel
theorem dX6_set_7 : decode cX6_set 7 = .ok (.iload_n 1, 1) := by decide +kernel
theorem dX6_set_8 : decode cX6_set 8 = .ok (.iconst 3, 1) := by decide +kernel
theorem dX6_set_9 : decode cX6_set 9 = .ok (.if_icmp .eq 8, 3) := by decide +kernel
theorem dX6_set_12 : decode cX6_set 12 = .ok (.iload_n 1, 1) := by decide +kernel
theorem dX6_set_13 : decode cX6_set 13 = .ok (.iconst 4, 1) := by decide +kernel
theorem dX6_set_14 : decode cX6_set 14 = .ok (.if_icmp .ne 7, 3) := by decide +kernel
theorem dX6_set_17 : decode cX6_set 17 = .ok (.iconst 1, 1) := by decide +kernel
theorem dX6_set_18 : decode cX6_set 18 = .ok (.goto 4, 3) := by decide +kernel
theorem dX6_set_21 : decode cX6_set 21 = .ok (.iconst 0, 1) := by decide +kernel
theorem dX6_set_22 : decode cX6_set 22 = .ok (.istore 4, 2) := by decide +kernel
theorem dX6_set_24 : decode cX6_set 24 = .ok (.aload_n 0, 1) := by decide +kernel
theorem dX6_set_25 : decode cX6_set 25 = .ok (.iload_n 3, 1) := by decide +kernel
theorem dX6_set_26 : decode cX6_set 26 = .ok (.ifCond .ne 7, 3) := by decide +kernel
theorem dX6_set_29 : decode cX6_set 29 = .ok (.iconst 1, 1) := by decide +kernel
theorem dX6_set_30 : decode cX6_set 30 = .ok (.goto 21, 3) := by decide +kernel
theorem dX6_set_33 : decode cX6_set 33 = .ok (.iload_n 2, 1) := by decide +kernel
theorem dX6_set_34 : decode cX6_set 34 = .ok (.iload 4, 2) := by decide +kernel
theorem dX6_set_36 : decode cX6_set 36 = .ok (.iload_n 1, 1) := by decide +kernel
theorem dX6_set_37 : decode cX6_set 37 = .ok (.invokestatic 118, 3) := by decide +kernel
theorem dX6_set_40 : decode cX6_set 40 = .ok (.invokestatic 23, 3) := by decide +kernel
theorem dX6_set_43 : decode cX6_set 43 = .ok (.ifCond .ne 7, 3) := by decide +kernel
theorem dX6_set_46 : decode cX6_set 46 = .ok (.iconst 2, 1) := by decide +kernel
theorem dX6_set_47 : decode cX6_set 47 = .ok (.goto 4, 3) := by decide +kernel
theorem dX6_set_50 : decode cX6_set 50 = .ok (.iconst 0, 1) := by decide +kernel
theorem dX6_set_51 : decode cX6_set 51 = .ok (.invokevirtual 72, 3) := by decide +kernel
theorem dX6_set_54 : decode cX6_set 54 = .ok (.ifCond .ne 5, 3) := by decide +kernel
theorem dX6_set_57 : decode cX6_set 57 = .ok (.iconst 0, 1) := by decide +kernel
theorem dX6_set_58 : decode cX6_set 58 = .ok (.ireturn, 1) := by decide +kernel
theorem dX6_set_59 : decode cX6_set 59 = .ok (.aload_n 0, 1) := by decide +kernel
theorem dX6_set_60 : decode cX6_set 60 = .ok (.invokevirtual 75, 3) := by decide +kernel
theorem dX6_set_63 : decode cX6_set 63 = .ok (.aload_n 0, 1) := by decide +kernel
theorem dX6_set_64 : decode cX6_set 64 = .ok (.getfield 7, 3) := by decide +kernel
theorem dX6_set_67 : decode cX6_set 67 = .ok (.bipush 10, 2) := by decide +kernel
theorem dX6_set_69 : decode cX6_set 69 = .ok (.iload_n 1, 1) := by decide +kernel
theorem dX6_set_70 : decode cX6_set 70 = .ok (.iadd, 1) := by decide +kernel
theorem dX6_set_71 : decode cX6_set 71 = .ok (.iaload, 1) := by decide +kernel
theorem dX6_set_72 : decode cX6_set 72 = .ok (.istore 5, 2) := by decide +kernel
theorem dX6_set_74 : decode cX6_set 74 = .ok (.aload_n 0, 1) := by decide +kernel
theorem dX6_set_75 : decode cX6_set 75 = .ok (.getfield 7, 3) := by decide +kernel
theorem dX6_set_78 : decode cX6_set 78 = .ok (.bipush 10, 2) := by decide +kernel
theorem dX6_set_80 : decode cX6_set 80 = .ok (.iload_n 1, 1) := by decide +kernel
theorem dX6_set_81 : decode cX6_set 81 = .ok (.iadd, 1) := by decide +kernel
theorem dX6_set_82 : decode cX6_set 82 = .ok (.iload_n 2, 1) := by decide +kernel
theorem dX6_set_83 : decode cX6_set 83 = .ok (.iastore, 1) := by decide +kernel
theorem dX6_set_84 : decode cX6_set 84 = .ok (.iload 5, 2) := by decide +kernel
theorem dX6_set_86 : decode cX6_set 86 = .ok (.ireturn, 1) := by decide +kernel
set_option maxRecDepth 20000 in
theorem ggX6_append_X6_in : GoodIn wsX6_append wsX6_in := goodIn_r _ [6] (by decide +kernel) (by decide +kernel)
set_option maxRecDepth 20000 in
theorem gX6_append_X6_in : GoodIn wsX6_append (va_wsS RX6 23 yX6_in wsX6_in) := goodIn_app (goodIn_of _ (by decide +kernel)) ggX6_append_X6_in
set_option maxRecDepth 20000 in
theorem ggX6_append_X6_holds : GoodIn wsX6_append wsX6_holds := goodIn_r _ [10, 11, 12, 13, 14, 15, 16, 17, 18, 19, 20, 21, 22, 23] (by decide +kernel) (by decide +kernel)
set_option maxRecDepth 20000 in
theorem gX6_append_X6_holds : GoodIn wsX6_append (wsV RX6 72 RX6 yX6_holds wsX6_holds) := goodIn_app (goodIn_of _ (by decide +kernel)) ggX6_append_X6_holds
theorem dX6_append_0 : decode cX6_append 0 = .ok (.aload_n 0, 1) := by decide +kernel
theorem dX6_append_1 : decode cX6_append 1 = .ok (.iload_n 1, 1) := by decide +kernel
theorem dX6_append_2 : decode cX6_append 2 = .ok (.bipush 33, 2) := by decide +kernel
theorem dX6_append_4 : decode cX6_append 4 = .ok (.bipush 126, 2) := by decide +kernel
theorem dX6_append_6 : decode cX6_append 6 = .ok (.invokestatic 23, 3) := by decide +kernel
theorem dX6_append_9 : decode cX6_append 9 = .ok (.ifCond .ne 7, 3) := by decide +kernel
theorem dX6_append_12 : decode cX6_append 12 = .ok (.iconst 1, 1) := by decide +kernel
theorem dX6_append_13 : decode cX6_append 13 = .ok (.goto 17, 3) := by decide +kernel
theorem dX6_append_16 : decode cX6_append 16 = .ok (.aload_n 0, 1) := by decide +kernel
theorem dX6_append_17 : decode cX6_append 17 = .ok (.getfield 121, 3) := by decide +kernel
theorem dX6_append_20 : decode cX6_append 20 = .ok (.bipush 60, 2) := by decide +kernel
theorem dX6_append_22 : decode cX6_append 22 = .ok (.if_icmp .ne 7, 3) := by decide +kernel
theorem dX6_append_25 : decode cX6_append 25 = .ok (.iconst 2, 1) := by decide +kernel
theorem dX6_append_26 : decode cX6_append 26 = .ok (.goto 4, 3) := by decide +kernel
theorem dX6_append_29 : decode cX6_append 29 = .ok (.iconst 0, 1) := by decide +kernel
theorem dX6_append_30 : decode cX6_append 30 = .ok (.invokevirtual 72, 3) := by decide +kernel
theorem dX6_append_33 : decode cX6_append 33 = .ok (.ifCond .ne 5, 3) := by decide +kernel
theorem dX6_append_36 : decode cX6_append 36 = .ok (.iconst 0, 1) := by decide +kernel
theorem dX6_append_37 : decode cX6_append 37 = .ok (.ireturn, 1) := by decide +kernel
theorem dX6_append_38 : decode cX6_append 38 = .ok (.aload_n 0, 1) := by decide +kernel
theorem dX6_append_39 : decode cX6_append 39 = .ok (.getfield 13, 3) := by decide +kernel
theorem dX6_append_42 : decode cX6_append 42 = .ok (.aload_n 0, 1) := by decide +kernel
theorem dX6_append_43 : decode cX6_append 43 = .ok (.getfield 121, 3) := by decide +kernel
theorem dX6_append_46 : decode cX6_append 46 = .ok (.iload_n 1, 1) := by decide +kernel
theorem dX6_append_47 : decode cX6_append 47 = .ok (.iastore, 1) := by decide +kernel
theorem dX6_append_48 : decode cX6_append 48 = .ok (.aload_n 0, 1) := by decide +kernel
theorem dX6_append_49 : decode cX6_append 49 = .ok (.dup, 1) := by decide +kernel
theorem dX6_append_50 : decode cX6_append 50 = .ok (.getfield 121, 3) := by decide +kernel
theorem dX6_append_53 : decode cX6_append 53 = .ok (.iconst 1, 1) := by decide +kernel
theorem dX6_append_54 : decode cX6_append 54 = .ok (.iadd, 1) := by decide +kernel
theorem dX6_append_55 : decode cX6_append 55 = .ok (.putfield 121, 3) := by decide +kernel
theorem dX6_append_58 : decode cX6_append 58 = .ok (.aload_n 0, 1) := by decide +kernel
theorem dX6_append_59 : decode cX6_append 59 = .ok (.getfield 121, 3) := by decide +kernel
theorem dX6_append_62 : decode cX6_append 62 = .ok (.ireturn, 1) := by decide +kernel
theorem dX6_clearBuffer_0 : decode cX6_clearBuffer 0 = .ok (.aload_n 0, 1) := by decide +kernel
theorem dX6_clearBuffer_1 : decode cX6_clearBuffer 1 = .ok (.iconst 0, 1) := by decide +kernel
theorem dX6_clearBuffer_2 : decode cX6_clearBuffer 2 = .ok (.putfield 19, 3) := by decide +kernel
theorem dX6_clearBuffer_5 : decode cX6_clearBuffer 5 = .ok (.aload_n 0, 1) := by decide +kernel
theorem dX6_clearBuffer_6 : decode cX6_clearBuffer 6 = .ok (.getfield 121, 3) := by decide +kernel
theorem dX6_clearBuffer_9 : decode cX6_clearBuffer 9 = .ok (.istore_n 1, 1) := by decide +kernel
theorem dX6_clearBuffer_10 : decode cX6_clearBuffer 10 = .ok (.aload_n 0, 1) := by decide +kernel
theorem dX6_clearBuffer_11 : decode cX6_clearBuffer 11 = .ok (.iconst 0, 1) := by decide +kernel
theorem dX6_clearBuffer_12 : decode cX6_clearBuffer 12 = .ok (.putfield 121, 3) := by decide +kernel
theorem dX6_clearBuffer_15 : decode cX6_clearBuffer 15 = .ok (.iload_n 1, 1) := by decide +kernel
theorem dX6_clearBuffer_16 : decode cX6_clearBuffer 16 = .ok (.ireturn, 1) := by decide +kernel
theorem dX6_sign_0 : decode cX6_sign 0 = .ok (.aload_n 0, 1) := by decide +kernel
theorem dX6_sign_1 : decode cX6_sign 1 = .ok (.getfield 124, 3) := by decide +kernel
theorem dX6_sign_4 : decode cX6_sign 4 = .ok (.aload_n 0, 1) := by decide +kernel
theorem dX6_sign_5 : decode cX6_sign 5 = .ok (.getfield 121, 3) := by decide +kernel
theorem dX6_sign_8 : decode cX6_sign 8 = .ok (.if_icmp .ge 15, 3) := by decide +kernel
theorem dX6_sign_11 : decode cX6_sign 11 = .ok (.aload_n 0, 1) := by decide +kernel
theorem dX6_sign_12 : decode cX6_sign 12 = .ok (.getfield 13, 3) := by decide +kernel
theorem dX6_sign_15 : decode cX6_sign 15 = .ok (.aload_n 0, 1) := by decide +kernel
theorem dX6_sign_16 : decode cX6_sign 16 = .ok (.getfield 124, 3) := by decide +kernel
theorem dX6_sign_19 : decode cX6_sign 19 = .ok (.iaload, 1) := by decide +kernel
theorem dX6_sign_20 : decode cX6_sign 20 = .ok (.goto 4, 3) := by decide +kernel
theorem dX6_sign_23 : decode cX6_sign 23 = .ok (.iconst 0, 1) := by decide +kernel
theorem dX6_sign_24 : decode cX6_sign 24 = .ok (.ireturn, 1) := by decide +kernel
set_option maxRecDepth 20000 in
theorem ggX6_takes_X6_sign : GoodIn wsX6_takes wsX6_sign := goodIn_r _ [6, 1, 7, 8, 9, 10, 11, 12, 13, 14, 15, 16, 17, 18, 19, 20] (by decide +kernel) (by decide +kernel)
set_option maxRecDepth 20000 in
theorem gX6_takes_X6_sign : GoodIn wsX6_takes (wsV RX6 127 RX6 yX6_sign wsX6_sign) := goodIn_app (goodIn_of _ (by decide +kernel)) ggX6_takes_X6_sign
theorem dX6_takes_0 : decode cX6_takes 0 = .ok (.aload_n 0, 1) := by decide +kernel
theorem dX6_takes_1 : decode cX6_takes 1 = .ok (.invokevirtual 127, 3) := by decide +kernel
theorem dX6_takes_4 : decode cX6_takes 4 = .ok (.iload_n 1, 1) := by decide +kernel
theorem dX6_takes_5 : decode cX6_takes 5 = .ok (.if_icmp .ne 7, 3) := by decide +kernel
theorem dX6_takes_8 : decode cX6_takes 8 = .ok (.iconst 1, 1) := by decide +kernel
theorem dX6_takes_9 : decode cX6_takes 9 = .ok (.goto 4, 3) := by decide +kernel
theorem dX6_takes_12 : decode cX6_takes 12 = .ok (.iconst 0, 1) := by decide +kernel
theorem dX6_takes_13 : decode cX6_takes 13 = .ok (.istore_n 2, 1) := by decide +kernel
theorem dX6_takes_14 : decode cX6_takes 14 = .ok (.aload_n 0, 1) := by decide +kernel
theorem dX6_takes_15 : decode cX6_takes 15 = .ok (.dup, 1) := by decide +kernel
theorem dX6_takes_16 : decode cX6_takes 16 = .ok (.getfield 124, 3) := by decide +kernel
theorem dX6_takes_19 : decode cX6_takes 19 = .ok (.iload_n 2, 1) := by decide +kernel
theorem dX6_takes_20 : decode cX6_takes 20 = .ok (.ifCond .eq 7, 3) := by decide +kernel
theorem dX6_takes_23 : decode cX6_takes 23 = .ok (.iconst 1, 1) := by decide +kernel
theorem dX6_takes_24 : decode cX6_takes 24 = .ok (.goto 4, 3) := by decide +kernel
theorem dX6_takes_27 : decode cX6_takes 27 = .ok (.iconst 0, 1) := by decide +kernel
theorem dX6_takes_28 : decode cX6_takes 28 = .ok (.iadd, 1) := by decide +kernel
theorem dX6_takes_29 : decode cX6_takes 29 = .ok (.putfield 124, 3) := by decide +kernel
theorem dX6_takes_32 : decode cX6_takes 32 = .ok (.iload_n 2, 1) := by decide +kernel
theorem dX6_takes_33 : decode cX6_takes 33 = .ok (.ireturn, 1) := by decide +kernel
set_option maxRecDepth 20000 in
theorem ggX6_figure_X6_sign : GoodIn wsX6_figure wsX6_sign := goodIn_r _ [6, 1, 7, 8, 12, 13, 14, 15, 16, 17, 18, 19, 20, 21, 22, 23] (by decide +kernel) (by decide +kernel)
set_option maxRecDepth 20000 in
theorem gX6_figure_X6_sign : GoodIn wsX6_figure (wsV RX6 127 RX6 yX6_sign wsX6_sign) := goodIn_app (goodIn_of _ (by decide +kernel)) ggX6_figure_X6_sign
set_option maxRecDepth 20000 in
theorem ggX6_figure_X6_in : GoodIn wsX6_figure wsX6_in := goodIn_r _ [11] (by decide +kernel) (by decide +kernel)
set_option maxRecDepth 20000 in
theorem gX6_figure_X6_in : GoodIn wsX6_figure (va_wsS RX6 23 yX6_in wsX6_in) := goodIn_app (goodIn_of _ (by decide +kernel)) ggX6_figure_X6_in
theorem dX6_figure_0 : decode cX6_figure 0 = .ok (.aload_n 0, 1) := by decide +kernel
theorem dX6_figure_1 : decode cX6_figure 1 = .ok (.invokevirtual 127, 3) := by decide +kernel
theorem dX6_figure_4 : decode cX6_figure 4 = .ok (.bipush 48, 2) := by decide +kernel
theorem dX6_figure_6 : decode cX6_figure 6 = .ok (.iload_n 1, 1) := by decide +kernel
theorem dX6_figure_7 : decode cX6_figure 7 = .ok (.iadd, 1) := by decide +kernel
theorem dX6_figure_8 : decode cX6_figure 8 = .ok (.bipush 48, 2) := by decide +kernel
theorem dX6_figure_10 : decode cX6_figure 10 = .ok (.iload_n 2, 1) := by decide +kernel
theorem dX6_figure_11 : decode cX6_figure 11 = .ok (.iadd, 1) := by decide +kernel
theorem dX6_figure_12 : decode cX6_figure 12 = .ok (.invokestatic 23, 3) := by decide +kernel
theorem dX6_figure_15 : decode cX6_figure 15 = .ok (.ifCond .eq 13, 3) := by decide +kernel
theorem dX6_figure_18 : decode cX6_figure 18 = .ok (.aload_n 0, 1) := by decide +kernel
theorem dX6_figure_19 : decode cX6_figure 19 = .ok (.invokevirtual 127, 3) := by decide +kernel
theorem dX6_figure_22 : decode cX6_figure 22 = .ok (.bipush 48, 2) := by decide +kernel
theorem dX6_figure_24 : decode cX6_figure 24 = .ok (.isub, 1) := by decide +kernel
theorem dX6_figure_25 : decode cX6_figure 25 = .ok (.goto 4, 3) := by decide +kernel
theorem dX6_figure_28 : decode cX6_figure 28 = .ok (.iconst (-1), 1) := by decide +kernel
theorem dX6_figure_29 : decode cX6_figure 29 = .ok (.istore_n 3, 1) := by decide +kernel
theorem dX6_figure_30 : decode cX6_figure 30 = .ok (.aload_n 0, 1) := by decide +kernel
theorem dX6_figure_31 : decode cX6_figure 31 = .ok (.dup, 1) := by decide +kernel
theorem dX6_figure_32 : decode cX6_figure 32 = .ok (.getfield 124, 3) := by decide +kernel
theorem dX6_figure_35 : decode cX6_figure 35 = .ok (.iload_n 3, 1) := by decide +kernel
theorem dX6_figure_36 : decode cX6_figure 36 = .ok (.iconst (-1), 1) := by decide +kernel
theorem dX6_figure_37 : decode cX6_figure 37 = .ok (.if_icmp .ne 7, 3) := by decide +kernel
theorem dX6_figure_40 : decode cX6_figure 40 = .ok (.iconst 0, 1) := by decide +kernel
theorem dX6_figure_41 : decode cX6_figure 41 = .ok (.goto 4, 3) := by decide +kernel
theorem dX6_figure_44 : decode cX6_figure 44 = .ok (.iconst 1, 1) := by decide +kernel
theorem dX6_figure_45 : decode cX6_figure 45 = .ok (.iadd, 1) := by decide +kernel
theorem dX6_figure_46 : decode cX6_figure 46 = .ok (.putfield 124, 3) := by decide +kernel
theorem dX6_figure_49 : decode cX6_figure 49 = .ok (.iload_n 3, 1) := by decide +kernel
theorem dX6_figure_50 : decode cX6_figure 50 = .ok (.ireturn, 1) := by decide +kernel
set_option maxRecDepth 20000 in
theorem ggX6_readsOften_X6_takes : GoodIn wsX6_readsOften wsX6_takes := goodIn_r _ [6, 7, 8, 9, 10, 5, 11, 12, 13, 21, 22, 23, 24, 25, 26, 27, 28, 29, 30, 31, 32] (by decide +kernel) (by decide +kernel)
set_option maxRecDepth 20000 in
theorem gX6_readsOften_X6_takes : GoodIn wsX6_readsOften (wsV RX6 133 RX6 yX6_takes wsX6_takes) := goodIn_app (goodIn_of _ (by decide +kernel)) ggX6_readsOften_X6_takes
set_option maxRecDepth 20000 in
theorem ggX6_readsOften_X6_figure : GoodIn wsX6_readsOften wsX6_figure := goodIn_r _ [17, 7, 8, 9, 10, 5, 11, 12, 13, 18, 19, 20, 21, 22, 23, 24, 25, 26, 27, 28, 29, 30, 31, 32] (by decide +kernel) (by decide +kernel)
set_option maxRecDepth 20000 in
theorem gX6_readsOften_X6_figure : GoodIn wsX6_readsOften (wsV RX6 136 RX6 yX6_figure wsX6_figure) := goodIn_app (goodIn_of _ (by decide +kernel)) ggX6_readsOften_X6_figure
theorem dX6_readsOften_0 : decode cX6_readsOften 0 = .ok (.aload_n 0, 1) := by decide +kernel
theorem dX6_readsOften_1 : decode cX6_readsOften 1 = .ok (.iconst 1, 1) := by decide +kernel
theorem dX6_readsOften_2 : decode cX6_readsOften 2 = .ok (.putfield 130, 3) := by decide +kernel
theorem dX6_readsOften_5 : decode cX6_readsOften 5 = .ok (.aload_n 0, 1) := by decide +kernel
theorem dX6_readsOften_6 : decode cX6_readsOften 6 = .ok (.bipush 42, 2) := by decide +kernel
theorem dX6_readsOften_8 : decode cX6_readsOften 8 = .ok (.invokevirtual 133, 3) := by decide +kernel
theorem dX6_readsOften_11 : decode cX6_readsOften 11 = .ok (.ifCond .eq 44, 3) := by decide +kernel
theorem dX6_readsOften_14 : decode cX6_readsOften 14 = .ok (.aload_n 0, 1) := by decide +kernel
theorem dX6_readsOften_15 : decode cX6_readsOften 15 = .ok (.aload_n 0, 1) := by decide +kernel
theorem dX6_readsOften_16 : decode cX6_readsOften 16 = .ok (.iconst 1, 1) := by decide +kernel
theorem dX6_readsOften_17 : decode cX6_readsOften 17 = .ok (.bipush 9, 2) := by decide +kernel
theorem dX6_readsOften_19 : decode cX6_readsOften 19 = .ok (.invokevirtual 136, 3) := by decide +kernel
theorem dX6_readsOften_22 : decode cX6_readsOften 22 = .ok (.putfield 130, 3) := by decide +kernel
theorem dX6_readsOften_25 : decode cX6_readsOften 25 = .ok (.aload_n 0, 1) := by decide +kernel
theorem dX6_readsOften_26 : decode cX6_readsOften 26 = .ok (.aload_n 0, 1) := by decide +kernel
theorem dX6_readsOften_27 : decode cX6_readsOften 27 = .ok (.getfield 130, 3) := by decide +kernel
theorem dX6_readsOften_30 : decode cX6_readsOften 30 = .ok (.iconst 1, 1) := by decide +kernel
theorem dX6_readsOften_31 : decode cX6_readsOften 31 = .ok (.if_icmp .ne 17, 3) := by decide +kernel
theorem dX6_readsOften_34 : decode cX6_readsOften 34 = .ok (.aload_n 0, 1) := by decide +kernel
theorem dX6_readsOften_35 : decode cX6_readsOften 35 = .ok (.bipush 48, 2) := by decide +kernel
theorem dX6_readsOften_37 : decode cX6_readsOften 37 = .ok (.invokevirtual 133, 3) := by decide +kernel
theorem dX6_readsOften_40 : decode cX6_readsOften 40 = .ok (.ifCond .eq 8, 3) := by decide +kernel
theorem dX6_readsOften_43 : decode cX6_readsOften 43 = .ok (.bipush 10, 2) := by decide +kernel
theorem dX6_readsOften_45 : decode cX6_readsOften 45 = .ok (.goto 7, 3) := by decide +kernel
theorem dX6_readsOften_48 : decode cX6_readsOften 48 = .ok (.aload_n 0, 1) := by decide +kernel
theorem dX6_readsOften_49 : decode cX6_readsOften 49 = .ok (.getfield 130, 3) := by decide +kernel
theorem dX6_readsOften_52 : decode cX6_readsOften 52 = .ok (.putfield 130, 3) := by decide +kernel
theorem dX6_readsOften_55 : decode cX6_readsOften 55 = .ok (.aload_n 0, 1) := by decide +kernel
theorem dX6_readsOften_56 : decode cX6_readsOften 56 = .ok (.getfield 130, 3) := by decide +kernel
theorem dX6_readsOften_59 : decode cX6_readsOften 59 = .ok (.iconst (-1), 1) := by decide +kernel
theorem dX6_readsOften_60 : decode cX6_readsOften 60 = .ok (.if_icmp .eq 7, 3) := by decide +kernel
theorem dX6_readsOften_63 : decode cX6_readsOften 63 = .ok (.iconst 1, 1) := by decide +kernel
theorem dX6_readsOften_64 : decode cX6_readsOften 64 = .ok (.goto 4, 3) := by decide +kernel
theorem dX6_readsOften_67 : decode cX6_readsOften 67 = .ok (.iconst 0, 1) := by decide +kernel
theorem dX6_readsOften_68 : decode cX6_readsOften 68 = .ok (.ireturn, 1) := by decide +kernel
set_option maxRecDepth 20000 in
theorem ggX6_readsPart_X6_sign : GoodIn wsX6_readsPart wsX6_sign := goodIn_r _ [8, 9, 10, 11, 27, 28, 29, 30, 31, 32, 33, 34, 35, 36, 37, 38] (by decide +kernel) (by decide +kernel)
set_option maxRecDepth 20000 in
theorem gX6_readsPart_X6_sign : GoodIn wsX6_readsPart (wsV RX6 127 RX6 yX6_sign wsX6_sign) := goodIn_app (goodIn_of _ (by decide +kernel)) ggX6_readsPart_X6_sign
set_option maxRecDepth 20000 in
theorem ggX6_readsPart_X6_takes : GoodIn wsX6_readsPart wsX6_takes := goodIn_r _ [15, 9, 4, 5, 6, 7, 8, 10, 11, 27, 28, 29, 30, 31, 32, 33, 34, 35, 36, 37, 38] (by decide +kernel) (by decide +kernel)
set_option maxRecDepth 20000 in
theorem gX6_readsPart_X6_takes : GoodIn wsX6_readsPart (wsV RX6 133 RX6 yX6_takes wsX6_takes) := goodIn_app (goodIn_of _ (by decide +kernel)) ggX6_readsPart_X6_takes
set_option maxRecDepth 20000 in
theorem ggX6_readsPart_X6_figure : GoodIn wsX6_readsPart wsX6_figure := goodIn_r _ [19, 9, 4, 5, 6, 7, 8, 10, 11, 20, 21, 22, 27, 28, 29, 30, 31, 32, 33, 34, 35, 36, 37, 38] (by decide +kernel) (by decide +kernel)
set_option maxRecDepth 20000 in
theorem gX6_readsPart_X6_figure : GoodIn wsX6_readsPart (wsV RX6 136 RX6 yX6_figure wsX6_figure) := goodIn_app (goodIn_of _ (by decide +kernel)) ggX6_readsPart_X6_figure
set_option maxRecDepth 20000 in
theorem ggX6_readsPart_X6_readsOften : GoodIn wsX6_readsPart wsX6_readsOften := goodIn_r _ [26, 3, 12, 13, 14, 7, 15, 9, 4, 5, 6, 8, 10, 11, 16, 17, 18, 19, 20, 21, 22, 27, 28, 29, 30, 31, 32, 33, 34, 35, 36, 37, 38] (by decide +kernel) (by decide +kernel)
set_option maxRecDepth 20000 in
theorem gX6_readsPart_X6_readsOften : GoodIn wsX6_readsPart (wsV RX6 145 RX6 yX6_readsOften wsX6_readsOften) := goodIn_app (goodIn_of _ (by decide +kernel)) ggX6_readsPart_X6_readsOften
theorem dX6_readsPart_0 : decode cX6_readsPart 0 = .ok (.aload_n 0, 1) := by decide +kernel
theorem dX6_readsPart_1 : decode cX6_readsPart 1 = .ok (.aload_n 0, 1) := by decide +kernel
theorem dX6_readsPart_2 : decode cX6_readsPart 2 = .ok (.invokevirtual 127, 3) := by decide +kernel
theorem dX6_readsPart_5 : decode cX6_readsPart 5 = .ok (.putfield 139, 3) := by decide +kernel
theorem dX6_readsPart_8 : decode cX6_readsPart 8 = .ok (.aload_n 0, 1) := by decide +kernel
theorem dX6_readsPart_9 : decode cX6_readsPart 9 = .ok (.bipush 94, 2) := by decide +kernel
theorem dX6_readsPart_11 : decode cX6_readsPart 11 = .ok (.invokevirtual 133, 3) := by decide +kernel
theorem dX6_readsPart_14 : decode cX6_readsPart 14 = .ok (.ifCond .eq 5, 3) := by decide +kernel
theorem dX6_readsPart_17 : decode cX6_readsPart 17 = .ok (.iconst 1, 1) := by decide +kernel
theorem dX6_readsPart_18 : decode cX6_readsPart 18 = .ok (.ireturn, 1) := by decide +kernel
theorem dX6_readsPart_19 : decode cX6_readsPart 19 = .ok (.aload_n 0, 1) := by decide +kernel
theorem dX6_readsPart_20 : decode cX6_readsPart 20 = .ok (.bipush 111, 2) := by decide +kernel
theorem dX6_readsPart_22 : decode cX6_readsPart 22 = .ok (.invokevirtual 133, 3) := by decide +kernel
theorem dX6_readsPart_25 : decode cX6_readsPart 25 = .ok (.ifCond .eq 34, 3) := by decide +kernel
theorem dX6_readsPart_28 : decode cX6_readsPart 28 = .ok (.aload_n 0, 1) := by decide +kernel
theorem dX6_readsPart_29 : decode cX6_readsPart 29 = .ok (.aload_n 0, 1) := by decide +kernel
theorem dX6_readsPart_30 : decode cX6_readsPart 30 = .ok (.iconst 0, 1) := by decide +kernel
theorem dX6_readsPart_31 : decode cX6_readsPart 31 = .ok (.iconst 2, 1) := by decide +kernel
theorem dX6_readsPart_32 : decode cX6_readsPart 32 = .ok (.invokevirtual 136, 3) := by decide +kernel
theorem dX6_readsPart_35 : decode cX6_readsPart 35 = .ok (.putfield 142, 3) := by decide +kernel
theorem dX6_readsPart_38 : decode cX6_readsPart 38 = .ok (.aload_n 0, 1) := by decide +kernel
theorem dX6_readsPart_39 : decode cX6_readsPart 39 = .ok (.getfield 142, 3) := by decide +kernel
theorem dX6_readsPart_42 : decode cX6_readsPart 42 = .ok (.iconst (-1), 1) := by decide +kernel
theorem dX6_readsPart_43 : decode cX6_readsPart 43 = .ok (.if_icmp .eq 14, 3) := by decide +kernel
theorem dX6_readsPart_46 : decode cX6_readsPart 46 = .ok (.aload_n 0, 1) := by decide +kernel
theorem dX6_readsPart_47 : decode cX6_readsPart 47 = .ok (.invokevirtual 145, 3) := by decide +kernel
theorem dX6_readsPart_50 : decode cX6_readsPart 50 = .ok (.ifCond .eq 7, 3) := by decide +kernel
theorem dX6_readsPart_53 : decode cX6_readsPart 53 = .ok (.iconst 1, 1) := by decide +kernel
theorem dX6_readsPart_54 : decode cX6_readsPart 54 = .ok (.goto 4, 3) := by decide +kernel
theorem dX6_readsPart_57 : decode cX6_readsPart 57 = .ok (.iconst 0, 1) := by decide +kernel
theorem dX6_readsPart_58 : decode cX6_readsPart 58 = .ok (.ireturn, 1) := by decide +kernel
theorem dX6_readsPart_59 : decode cX6_readsPart 59 = .ok (.aload_n 0, 1) := by decide +kernel
theorem dX6_readsPart_60 : decode cX6_readsPart 60 = .ok (.bipush 109, 2) := by decide +kernel
theorem dX6_readsPart_62 : decode cX6_readsPart 62 = .ok (.invokevirtual 133, 3) := by decide +kernel
theorem dX6_readsPart_65 : decode cX6_readsPart 65 = .ok (.ifCond .ne 12, 3) := by decide +kernel
theorem dX6_readsPart_68 : decode cX6_readsPart 68 = .ok (.aload_n 0, 1) := by decide +kernel
theorem dX6_readsPart_69 : decode cX6_readsPart 69 = .ok (.bipush 36, 2) := by decide +kernel
theorem dX6_readsPart_71 : decode cX6_readsPart 71 = .ok (.invokevirtual 133, 3) := by decide +kernel
theorem dX6_readsPart_74 : decode cX6_readsPart 74 = .ok (.ifCond .eq 28, 3) := by decide +kernel
theorem dX6_readsPart_77 : decode cX6_readsPart 77 = .ok (.aload_n 0, 1) := by decide +kernel
theorem dX6_readsPart_78 : decode cX6_readsPart 78 = .ok (.aload_n 0, 1) := by decide +kernel
theorem dX6_readsPart_79 : decode cX6_readsPart 79 = .ok (.iconst 0, 1) := by decide +kernel
theorem dX6_readsPart_80 : decode cX6_readsPart 80 = .ok (.bipush 9, 2) := by decide +kernel
theorem dX6_readsPart_82 : decode cX6_readsPart 82 = .ok (.invokevirtual 136, 3) := by decide +kernel
theorem dX6_readsPart_85 : decode cX6_readsPart 85 = .ok (.putfield 142, 3) := by decide +kernel
theorem dX6_readsPart_88 : decode cX6_readsPart 88 = .ok (.aload_n 0, 1) := by decide +kernel
theorem dX6_readsPart_89 : decode cX6_readsPart 89 = .ok (.getfield 142, 3) := by decide +kernel
theorem dX6_readsPart_92 : decode cX6_readsPart 92 = .ok (.iconst (-1), 1) := by decide +kernel
theorem dX6_readsPart_93 : decode cX6_readsPart 93 = .ok (.if_icmp .eq 7, 3) := by decide +kernel
theorem dX6_readsPart_96 : decode cX6_readsPart 96 = .ok (.iconst 1, 1) := by decide +kernel
theorem dX6_readsPart_97 : decode cX6_readsPart 97 = .ok (.goto 4, 3) := by decide +kernel
theorem dX6_readsPart_100 : decode cX6_readsPart 100 = .ok (.iconst 0, 1) := by decide +kernel
theorem dX6_readsPart_101 : decode cX6_readsPart 101 = .ok (.ireturn, 1) := by decide +kernel
theorem dX6_readsPart_102 : decode cX6_readsPart 102 = .ok (.aload_n 0, 1) := by decide +kernel
theorem dX6_readsPart_103 : decode cX6_readsPart 103 = .ok (.aload_n 0, 1) := by decide +kernel
theorem dX6_readsPart_104 : decode cX6_readsPart 104 = .ok (.bipush 113, 2) := by decide +kernel
theorem dX6_readsPart_106 : decode cX6_readsPart 106 = .ok (.invokevirtual 133, 3) := by decide +kernel
theorem dX6_readsPart_109 : decode cX6_readsPart 109 = .ok (.ifCond .ne 12, 3) := by decide +kernel
theorem dX6_readsPart_112 : decode cX6_readsPart 112 = .ok (.aload_n 0, 1) := by decide +kernel
theorem dX6_readsPart_113 : decode cX6_readsPart 113 = .ok (.bipush 108, 2) := by decide +kernel
theorem dX6_readsPart_115 : decode cX6_readsPart 115 = .ok (.invokevirtual 133, 3) := by decide +kernel
theorem dX6_readsPart_118 : decode cX6_readsPart 118 = .ok (.ifCond .eq 13, 3) := by decide +kernel
theorem dX6_readsPart_121 : decode cX6_readsPart 121 = .ok (.aload_n 0, 1) := by decide +kernel
theorem dX6_readsPart_122 : decode cX6_readsPart 122 = .ok (.iconst 0, 1) := by decide +kernel
theorem dX6_readsPart_123 : decode cX6_readsPart 123 = .ok (.bipush 9, 2) := by decide +kernel
theorem dX6_readsPart_125 : decode cX6_readsPart 125 = .ok (.invokevirtual 136, 3) := by decide +kernel
theorem dX6_readsPart_128 : decode cX6_readsPart 128 = .ok (.goto 4, 3) := by decide +kernel
theorem dX6_readsPart_131 : decode cX6_readsPart 131 = .ok (.iconst (-1), 1) := by decide +kernel
theorem dX6_readsPart_132 : decode cX6_readsPart 132 = .ok (.putfield 142, 3) := by decide +kernel
theorem dX6_readsPart_135 : decode cX6_readsPart 135 = .ok (.aload_n 0, 1) := by decide +kernel
theorem dX6_readsPart_136 : decode cX6_readsPart 136 = .ok (.aload_n 0, 1) := by decide +kernel
theorem dX6_readsPart_137 : decode cX6_readsPart 137 = .ok (.getfield 142, 3) := by decide +kernel
theorem dX6_readsPart_140 : decode cX6_readsPart 140 = .ok (.iconst (-1), 1) := by decide +kernel
theorem dX6_readsPart_141 : decode cX6_readsPart 141 = .ok (.if_icmp .eq 35, 3) := by decide +kernel
theorem dX6_readsPart_144 : decode cX6_readsPart 144 = .ok (.aload_n 0, 1) := by decide +kernel
theorem dX6_readsPart_145 : decode cX6_readsPart 145 = .ok (.bipush 62, 2) := by decide +kernel
theorem dX6_readsPart_147 : decode cX6_readsPart 147 = .ok (.invokevirtual 133, 3) := by decide +kernel
theorem dX6_readsPart_150 : decode cX6_readsPart 150 = .ok (.ifCond .eq 26, 3) := by decide +kernel
theorem dX6_readsPart_153 : decode cX6_readsPart 153 = .ok (.aload_n 0, 1) := by decide +kernel
theorem dX6_readsPart_154 : decode cX6_readsPart 154 = .ok (.iconst 0, 1) := by decide +kernel
theorem dX6_readsPart_155 : decode cX6_readsPart 155 = .ok (.aload_n 0, 1) := by decide +kernel
theorem dX6_readsPart_156 : decode cX6_readsPart 156 = .ok (.getfield 139, 3) := by decide +kernel
theorem dX6_readsPart_159 : decode cX6_readsPart 159 = .ok (.bipush 113, 2) := by decide +kernel
theorem dX6_readsPart_161 : decode cX6_readsPart 161 = .ok (.if_icmp .ne 7, 3) := by decide +kernel
theorem dX6_readsPart_164 : decode cX6_readsPart 164 = .ok (.iconst 2, 1) := by decide +kernel
theorem dX6_readsPart_165 : decode cX6_readsPart 165 = .ok (.goto 5, 3) := by decide +kernel
theorem dX6_readsPart_168 : decode cX6_readsPart 168 = .ok (.bipush 9, 2) := by decide +kernel
theorem dX6_readsPart_170 : decode cX6_readsPart 170 = .ok (.invokevirtual 136, 3) := by decide +kernel
theorem dX6_readsPart_173 : decode cX6_readsPart 173 = .ok (.goto 4, 3) := by decide +kernel
theorem dX6_readsPart_176 : decode cX6_readsPart 176 = .ok (.iconst (-1), 1) := by decide +kernel
theorem dX6_readsPart_177 : decode cX6_readsPart 177 = .ok (.putfield 130, 3) := by decide +kernel
theorem dX6_readsPart_180 : decode cX6_readsPart 180 = .ok (.aload_n 0, 1) := by decide +kernel
theorem dX6_readsPart_181 : decode cX6_readsPart 181 = .ok (.getfield 130, 3) := by decide +kernel
theorem dX6_readsPart_184 : decode cX6_readsPart 184 = .ok (.iconst (-1), 1) := by decide +kernel
theorem dX6_readsPart_185 : decode cX6_readsPart 185 = .ok (.if_icmp .eq 7, 3) := by decide +kernel
theorem dX6_readsPart_188 : decode cX6_readsPart 188 = .ok (.iconst 1, 1) := by decide +kernel
theorem dX6_readsPart_189 : decode cX6_readsPart 189 = .ok (.goto 4, 3) := by decide +kernel
theorem dX6_readsPart_192 : decode cX6_readsPart 192 = .ok (.iconst 0, 1) := by decide +kernel
theorem dX6_readsPart_193 : decode cX6_readsPart 193 = .ok (.ireturn, 1) := by decide +kernel
set_option maxRecDepth 20000 in
theorem ggX6_isCarnival_X6_readsPart : GoodIn wsX6_isCarnival wsX6_readsPart := goodIn_r _ [7, 8, 9, 10, 11, 12, 13, 6, 14, 1, 2, 15, 16, 17, 18, 19, 20, 21, 22, 23, 24, 25, 26, 27, 28, 29, 30, 31, 32, 33, 34, 35, 36, 37, 38, 39, 40, 41, 42] (by decide +kernel) (by decide +kernel)
set_option maxRecDepth 20000 in
theorem gX6_isCarnival_X6_readsPart : GoodIn wsX6_isCarnival (wsV RX6 149 RX6 yX6_readsPart wsX6_readsPart) := goodIn_app (goodIn_of _ (by decide +kernel)) ggX6_isCarnival_X6_readsPart
set_option maxRecDepth 20000 in
theorem ggX6_isCarnival_X6_takes : GoodIn wsX6_isCarnival wsX6_takes := goodIn_r _ [19, 1, 11, 12, 13, 6, 14, 2, 15, 31, 32, 33, 34, 35, 36, 37, 38, 39, 40, 41, 42] (by decide +kernel) (by decide +kernel)
set_option maxRecDepth 20000 in
theorem gX6_isCarnival_X6_takes : GoodIn wsX6_isCarnival (wsV RX6 133 RX6 yX6_takes wsX6_takes) := goodIn_app (goodIn_of _ (by decide +kernel)) ggX6_isCarnival_X6_takes
theorem dX6_isCarnival_0 : decode cX6_isCarnival 0 = .ok (.aload_n 0, 1) := by decide +kernel
theorem dX6_isCarnival_1 : decode cX6_isCarnival 1 = .ok (.iconst 0, 1) := by decide +kernel
theorem dX6_isCarnival_2 : decode cX6_isCarnival 2 = .ok (.putfield 124, 3) := by decide +kernel
theorem dX6_isCarnival_5 : decode cX6_isCarnival 5 = .ok (.aload_n 0, 1) := by decide +kernel
theorem dX6_isCarnival_6 : decode cX6_isCarnival 6 = .ok (.invokevirtual 149, 3) := by decide +kernel
theorem dX6_isCarnival_9 : decode cX6_isCarnival 9 = .ok (.ifCond .eq 27, 3) := by decide +kernel
theorem dX6_isCarnival_12 : decode cX6_isCarnival 12 = .ok (.aload_n 0, 1) := by decide +kernel
theorem dX6_isCarnival_13 : decode cX6_isCarnival 13 = .ok (.getfield 124, 3) := by decide +kernel
theorem dX6_isCarnival_16 : decode cX6_isCarnival 16 = .ok (.aload_n 0, 1) := by decide +kernel
theorem dX6_isCarnival_17 : decode cX6_isCarnival 17 = .ok (.getfield 121, 3) := by decide +kernel
theorem dX6_isCarnival_20 : decode cX6_isCarnival 20 = .ok (.if_icmp .ne 5, 3) := by decide +kernel
theorem dX6_isCarnival_23 : decode cX6_isCarnival 23 = .ok (.iconst 1, 1) := by decide +kernel
theorem dX6_isCarnival_24 : decode cX6_isCarnival 24 = .ok (.ireturn, 1) := by decide +kernel
theorem dX6_isCarnival_25 : decode cX6_isCarnival 25 = .ok (.aload_n 0, 1) := by decide +kernel
theorem dX6_isCarnival_26 : decode cX6_isCarnival 26 = .ok (.bipush 59, 2) := by decide +kernel
theorem dX6_isCarnival_28 : decode cX6_isCarnival 28 = .ok (.invokevirtual 133, 3) := by decide +kernel
theorem dX6_isCarnival_31 : decode cX6_isCarnival 31 = .ok (.ifCond .ne (-26), 3) := by decide +kernel
theorem dX6_isCarnival_34 : decode cX6_isCarnival 34 = .ok (.iconst 0, 1) := by decide +kernel
theorem dX6_isCarnival_35 : decode cX6_isCarnival 35 = .ok (.ireturn, 1) := by decide +kernel
theorem dX6_isCarnival_36 : decode cX6_isCarnival 36 = .ok (.iconst 0, 1) := by decide +kernel
theorem dX6_isCarnival_37 : decode cX6_isCarnival 37 = .ok (.ireturn, 1) := by decide +kernel
set_option maxRecDepth 20000 in
theorem ggX6_firstError_X6_isCarnival : GoodIn wsX6_firstError wsX6_isCarnival := goodIn_r _ [7, 2, 8, 9, 10, 11, 6, 12, 13, 14, 15, 16, 17, 18, 19, 20, 21, 22, 23, 24, 25, 26, 27, 28, 29, 30, 31, 32, 33, 34, 35, 36, 37, 38, 39, 40, 41, 42, 43, 44, 45, 46, 47] (by decide +kernel) (by decide +kernel)
set_option maxRecDepth 20000 in
theorem gX6_firstError_X6_isCarnival : GoodIn wsX6_firstError (wsV RX6 152 RX6 yX6_isCarnival wsX6_isCarnival) := goodIn_app (goodIn_of _ (by decide +kernel)) ggX6_firstError_X6_isCarnival
theorem dX6_firstError_0 : decode cX6_firstError 0 = .ok (.aload_n 0, 1) := by decide +kernel
theorem dX6_firstError_1 : decode cX6_firstError 1 = .ok (.iconst 0, 1) := by decide +kernel
theorem dX6_firstError_2 : decode cX6_firstError 2 = .ok (.putfield 19, 3) := by decide +kernel
theorem dX6_firstError_5 : decode cX6_firstError 5 = .ok (.aload_n 0, 1) := by decide +kernel
theorem dX6_firstError_6 : decode cX6_firstError 6 = .ok (.invokevirtual 152, 3) := by decide +kernel
theorem dX6_firstError_9 : decode cX6_firstError 9 = .ok (.pop, 1) := by decide +kernel
theorem dX6_firstError_10 : decode cX6_firstError 10 = .ok (.aload_n 0, 1) := by decide +kernel
theorem dX6_firstError_11 : decode cX6_firstError 11 = .ok (.getfield 124, 3) := by decide +kernel
theorem dX6_firstError_14 : decode cX6_firstError 14 = .ok (.ireturn, 1) := by decide +kernel
set_option maxRecDepth 20000 in
theorem ggX6_stops_X6_isGuest : GoodIn wsX6_stops wsX6_isGuest := goodIn_r _ [8, 9, 10, 11, 7, 12, 45, 46, 47, 48, 49, 50, 51, 52, 53, 54, 55, 56] (by decide +kernel) (by decide +kernel)
set_option maxRecDepth 20000 in
theorem gX6_stops_X6_isGuest : GoodIn wsX6_stops (wsV RX6 78 RX6 yX6_isGuest wsX6_isGuest) := goodIn_app (goodIn_of _ (by decide +kernel)) ggX6_stops_X6_isGuest
set_option maxRecDepth 20000 in
theorem ggX6_stops_X6_whyNoLine : GoodIn wsX6_stops wsX6_whyNoLine := goodIn_r _ [16, 9, 17, 18, 19, 7, 20, 21, 22, 23, 24, 25, 26, 27, 28, 29, 30, 31, 32, 45, 46, 47, 48, 49, 50, 51, 52, 53, 54, 55, 56] (by decide +kernel) (by decide +kernel)
set_option maxRecDepth 20000 in
theorem gX6_stops_X6_whyNoLine : GoodIn wsX6_stops (wsV RX6 105 RX6 yX6_whyNoLine wsX6_whyNoLine) := goodIn_app (goodIn_of _ (by decide +kernel)) ggX6_stops_X6_whyNoLine
set_option maxRecDepth 20000 in
theorem ggX6_stops_X6_whyNoMask : GoodIn wsX6_stops wsX6_whyNoMask := goodIn_r _ [36, 17, 18, 19, 7, 20, 9, 45, 46, 47, 48, 49, 50, 51, 52, 53, 54, 55, 56] (by decide +kernel) (by decide +kernel)
set_option maxRecDepth 20000 in
theorem gX6_stops_X6_whyNoMask : GoodIn wsX6_stops (wsV RX6 93 RX6 yX6_whyNoMask wsX6_whyNoMask) := goodIn_app (goodIn_of _ (by decide +kernel)) ggX6_stops_X6_whyNoMask
set_option maxRecDepth 20000 in
theorem ggX6_stops_X6_whyNoLoan : GoodIn wsX6_stops wsX6_whyNoLoan := goodIn_r _ [40, 17, 18, 19, 7, 20, 9, 41, 42, 43, 44, 45, 46, 47, 48, 49, 50, 51, 52, 53, 54, 55, 56] (by decide +kernel) (by decide +kernel)
set_option maxRecDepth 20000 in
theorem gX6_stops_X6_whyNoLoan : GoodIn wsX6_stops (wsV RX6 84 RX6 yX6_whyNoLoan wsX6_whyNoLoan) := goodIn_app (goodIn_of _ (by decide +kernel)) ggX6_stops_X6_whyNoLoan
theorem dX6_stops_0 : decode cX6_stops 0 = .ok (.aload_n 0, 1) := by decide +kernel
theorem dX6_stops_1 : decode cX6_stops 1 = .ok (.getfield 139, 3) := by decide +kernel
theorem dX6_stops_4 : decode cX6_stops 4 = .ok (.bipush 111, 2) := by decide +kernel
theorem dX6_stops_6 : decode cX6_stops 6 = .ok (.if_icmp .eq 43, 3) := by decide +kernel
theorem dX6_stops_9 : decode cX6_stops 9 = .ok (.aload_n 0, 1) := by decide +kernel
theorem dX6_stops_10 : decode cX6_stops 10 = .ok (.getfield 139, 3) := by decide +kernel
theorem dX6_stops_13 : decode cX6_stops 13 = .ok (.bipush 94, 2) := by decide +kernel
theorem dX6_stops_15 : decode cX6_stops 15 = .ok (.if_icmp .eq 34, 3) := by decide +kernel
theorem dX6_stops_18 : decode cX6_stops 18 = .ok (.aload_n 0, 1) := by decide +kernel
theorem dX6_stops_19 : decode cX6_stops 19 = .ok (.aload_n 0, 1) := by decide +kernel
theorem dX6_stops_20 : decode cX6_stops 20 = .ok (.getfield 142, 3) := by decide +kernel
theorem dX6_stops_23 : decode cX6_stops 23 = .ok (.invokevirtual 78, 3) := by decide +kernel
theorem dX6_stops_26 : decode cX6_stops 26 = .ok (.ifCond .eq 27, 3) := by decide +kernel
theorem dX6_stops_29 : decode cX6_stops 29 = .ok (.aload_n 0, 1) := by decide +kernel
theorem dX6_stops_30 : decode cX6_stops 30 = .ok (.getfield 139, 3) := by decide +kernel
theorem dX6_stops_33 : decode cX6_stops 33 = .ok (.bipush 108, 2) := by decide +kernel
theorem dX6_stops_35 : decode cX6_stops 35 = .ok (.if_icmp .ne 14, 3) := by decide +kernel
theorem dX6_stops_38 : decode cX6_stops 38 = .ok (.aload_n 0, 1) := by decide +kernel
theorem dX6_stops_39 : decode cX6_stops 39 = .ok (.aload_n 0, 1) := by decide +kernel
theorem dX6_stops_40 : decode cX6_stops 40 = .ok (.getfield 130, 3) := by decide +kernel
theorem dX6_stops_43 : decode cX6_stops 43 = .ok (.invokevirtual 78, 3) := by decide +kernel
theorem dX6_stops_46 : decode cX6_stops 46 = .ok (.ifCond .eq 7, 3) := by decide +kernel
theorem dX6_stops_49 : decode cX6_stops 49 = .ok (.iconst 1, 1) := by decide +kernel
theorem dX6_stops_50 : decode cX6_stops 50 = .ok (.goto 4, 3) := by decide +kernel
theorem dX6_stops_53 : decode cX6_stops 53 = .ok (.iconst 0, 1) := by decide +kernel
theorem dX6_stops_54 : decode cX6_stops 54 = .ok (.istore_n 1, 1) := by decide +kernel
theorem dX6_stops_55 : decode cX6_stops 55 = .ok (.iload_n 1, 1) := by decide +kernel
theorem dX6_stops_56 : decode cX6_stops 56 = .ok (.ifCond .ne 6, 3) := by decide +kernel
theorem dX6_stops_59 : decode cX6_stops 59 = .ok (.bipush 10, 2) := by decide +kernel
theorem dX6_stops_61 : decode cX6_stops 61 = .ok (.ireturn, 1) := by decide +kernel
theorem dX6_stops_62 : decode cX6_stops 62 = .ok (.aload_n 0, 1) := by decide +kernel
theorem dX6_stops_63 : decode cX6_stops 63 = .ok (.getfield 139, 3) := by decide +kernel
theorem dX6_stops_66 : decode cX6_stops 66 = .ok (.bipush 113, 2) := by decide +kernel
theorem dX6_stops_68 : decode cX6_stops 68 = .ok (.if_icmp .ne 14, 3) := by decide +kernel
theorem dX6_stops_71 : decode cX6_stops 71 = .ok (.aload_n 0, 1) := by decide +kernel
theorem dX6_stops_72 : decode cX6_stops 72 = .ok (.aload_n 0, 1) := by decide +kernel
theorem dX6_stops_73 : decode cX6_stops 73 = .ok (.getfield 142, 3) := by decide +kernel
theorem dX6_stops_76 : decode cX6_stops 76 = .ok (.invokevirtual 105, 3) := by decide +kernel
theorem dX6_stops_79 : decode cX6_stops 79 = .ok (.goto 48, 3) := by decide +kernel
theorem dX6_stops_82 : decode cX6_stops 82 = .ok (.aload_n 0, 1) := by decide +kernel
theorem dX6_stops_83 : decode cX6_stops 83 = .ok (.getfield 139, 3) := by decide +kernel
theorem dX6_stops_86 : decode cX6_stops 86 = .ok (.bipush 109, 2) := by decide +kernel
theorem dX6_stops_88 : decode cX6_stops 88 = .ok (.if_icmp .ne 14, 3) := by decide +kernel
theorem dX6_stops_91 : decode cX6_stops 91 = .ok (.aload_n 0, 1) := by decide +kernel
theorem dX6_stops_92 : decode cX6_stops 92 = .ok (.aload_n 0, 1) := by decide +kernel
theorem dX6_stops_93 : decode cX6_stops 93 = .ok (.getfield 142, 3) := by decide +kernel
theorem dX6_stops_96 : decode cX6_stops 96 = .ok (.invokevirtual 93, 3) := by decide +kernel
theorem dX6_stops_99 : decode cX6_stops 99 = .ok (.goto 28, 3) := by decide +kernel
theorem dX6_stops_102 : decode cX6_stops 102 = .ok (.aload_n 0, 1) := by decide +kernel
theorem dX6_stops_103 : decode cX6_stops 103 = .ok (.getfield 139, 3) := by decide +kernel
theorem dX6_stops_106 : decode cX6_stops 106 = .ok (.bipush 108, 2) := by decide +kernel
theorem dX6_stops_108 : decode cX6_stops 108 = .ok (.if_icmp .ne 18, 3) := by decide +kernel
theorem dX6_stops_111 : decode cX6_stops 111 = .ok (.aload_n 0, 1) := by decide +kernel
theorem dX6_stops_112 : decode cX6_stops 112 = .ok (.aload_n 0, 1) := by decide +kernel
theorem dX6_stops_113 : decode cX6_stops 113 = .ok (.getfield 142, 3) := by decide +kernel
theorem dX6_stops_116 : decode cX6_stops 116 = .ok (.aload_n 0, 1) := by decide +kernel
theorem dX6_stops_117 : decode cX6_stops 117 = .ok (.getfield 130, 3) := by decide +kernel
theorem dX6_stops_120 : decode cX6_stops 120 = .ok (.invokevirtual 84, 3) := by decide +kernel
theorem dX6_stops_123 : decode cX6_stops 123 = .ok (.goto 4, 3) := by decide +kernel
theorem dX6_stops_126 : decode cX6_stops 126 = .ok (.iconst 0, 1) := by decide +kernel
theorem dX6_stops_127 : decode cX6_stops 127 = .ok (.ireturn, 1) := by decide +kernel
set_option maxRecDepth 20000 in
theorem ggX6_happens_X6_queues : GoodIn wsX6_happens wsX6_queues := goodIn_r _ [8, 9, 66, 67, 68, 69, 70, 71, 72, 73, 74, 75, 76, 77] (by decide +kernel) (by decide +kernel)
set_option maxRecDepth 20000 in
theorem gX6_happens_X6_queues : GoodIn wsX6_happens (wsV RX6 108 RX6 yX6_queues wsX6_queues) := goodIn_app (goodIn_of _ (by decide +kernel)) ggX6_happens_X6_queues
set_option maxRecDepth 20000 in
theorem ggX6_happens_X6_lineLength : GoodIn wsX6_happens wsX6_lineLength := goodIn_r _ [13, 9, 66, 67, 68, 69, 70, 71, 72, 73, 74, 75, 76, 77] (by decide +kernel) (by decide +kernel)
set_option maxRecDepth 20000 in
theorem gX6_happens_X6_lineLength : GoodIn wsX6_happens (wsV RX6 39 RX6 yX6_lineLength wsX6_lineLength) := goodIn_app (goodIn_of _ (by decide +kernel)) ggX6_happens_X6_lineLength
set_option maxRecDepth 20000 in
theorem ggX6_happens_X6_opens : GoodIn wsX6_happens wsX6_opens := goodIn_r _ [17, 9, 18, 19, 20, 21, 7, 22, 23, 24, 25, 26, 27, 28, 29, 30, 31, 32, 33, 34, 35, 36, 37, 38, 39, 40, 41, 42, 43, 44, 45, 46, 47, 48, 49, 66, 67, 68, 69, 70, 71, 72, 73, 74, 75, 76, 77] (by decide +kernel) (by decide +kernel)
set_option maxRecDepth 20000 in
theorem gX6_happens_X6_opens : GoodIn wsX6_happens (wsV RX6 111 RX6 yX6_opens wsX6_opens) := goodIn_app (goodIn_of _ (by decide +kernel)) ggX6_happens_X6_opens
set_option maxRecDepth 20000 in
theorem ggX6_happens_X6_masks : GoodIn wsX6_happens wsX6_masks := goodIn_r _ [53, 9, 42, 43, 44, 7, 45, 23, 24, 25, 26, 46, 47, 48, 49, 66, 67, 68, 69, 70, 71, 72, 73, 74, 75, 76, 77] (by decide +kernel) (by decide +kernel)
set_option maxRecDepth 20000 in
theorem gX6_happens_X6_masks : GoodIn wsX6_happens (wsV RX6 96 RX6 yX6_masks wsX6_masks) := goodIn_app (goodIn_of _ (by decide +kernel)) ggX6_happens_X6_masks
set_option maxRecDepth 20000 in
theorem ggX6_happens_X6_lends : GoodIn wsX6_happens wsX6_lends := goodIn_r _ [57, 46, 47, 48, 7, 49, 9, 23, 24, 25, 26, 66, 67, 68, 69, 70, 71, 72, 73, 74, 75, 76, 77] (by decide +kernel) (by decide +kernel)
set_option maxRecDepth 20000 in
theorem gX6_happens_X6_lends : GoodIn wsX6_happens (wsV RX6 87 RX6 yX6_lends wsX6_lends) := goodIn_app (goodIn_of _ (by decide +kernel)) ggX6_happens_X6_lends
set_option maxRecDepth 20000 in
theorem ggX6_happens_X6_pays : GoodIn wsX6_happens wsX6_pays := goodIn_r _ [61, 23, 24, 25, 7, 26, 9, 35, 36, 37, 42, 43, 44, 45, 46, 47, 48, 49, 66, 67, 68, 69, 70, 71, 72, 73, 74, 75, 76, 77] (by decide +kernel) (by decide +kernel)
set_option maxRecDepth 20000 in
theorem gX6_happens_X6_pays : GoodIn wsX6_happens (wsV RX6 99 RX6 yX6_pays wsX6_pays) := goodIn_app (goodIn_of _ (by decide +kernel)) ggX6_happens_X6_pays
set_option maxRecDepth 20000 in
theorem ggX6_happens_X6_nights : GoodIn wsX6_happens wsX6_nights := goodIn_r _ [65, 9, 23, 24, 25, 7, 26, 46, 47, 48, 49, 66, 67, 68, 69, 70, 71, 72, 73, 74, 75, 76, 77] (by decide +kernel) (by decide +kernel)
set_option maxRecDepth 20000 in
theorem gX6_happens_X6_nights : GoodIn wsX6_happens (wsV RX6 114 RX6 yX6_nights wsX6_nights) := goodIn_app (goodIn_of _ (by decide +kernel)) ggX6_happens_X6_nights
theorem dX6_happens_0 : decode cX6_happens 0 = .ok (.aload_n 0, 1) := by decide +kernel
theorem dX6_happens_1 : decode cX6_happens 1 = .ok (.getfield 139, 3) := by decide +kernel
theorem dX6_happens_4 : decode cX6_happens 4 = .ok (.lookupswitch 147 #[(36, 135), (108, 119), (109, 107), (111, 68), (113, 52)], 52) := by decide +kernel
theorem dX6_happens_56 : decode cX6_happens 56 = .ok (.aload_n 0, 1) := by decide +kernel
theorem dX6_happens_57 : decode cX6_happens 57 = .ok (.aload_n 0, 1) := by decide +kernel
theorem dX6_happens_58 : decode cX6_happens 58 = .ok (.getfield 142, 3) := by decide +kernel
theorem dX6_happens_61 : decode cX6_happens 61 = .ok (.aload_n 0, 1) := by decide +kernel
theorem dX6_happens_62 : decode cX6_happens 62 = .ok (.getfield 130, 3) := by decide +kernel
theorem dX6_happens_65 : decode cX6_happens 65 = .ok (.invokevirtual 108, 3) := by decide +kernel
theorem dX6_happens_68 : decode cX6_happens 68 = .ok (.pop, 1) := by decide +kernel
theorem dX6_happens_69 : decode cX6_happens 69 = .ok (.goto 87, 3) := by decide +kernel
theorem dX6_happens_72 : decode cX6_happens 72 = .ok (.iconst 0, 1) := by decide +kernel
theorem dX6_happens_73 : decode cX6_happens 73 = .ok (.istore_n 1, 1) := by decide +kernel
theorem dX6_happens_74 : decode cX6_happens 74 = .ok (.iload_n 1, 1) := by decide +kernel
theorem dX6_happens_75 : decode cX6_happens 75 = .ok (.aload_n 0, 1) := by decide +kernel
theorem dX6_happens_76 : decode cX6_happens 76 = .ok (.getfield 130, 3) := by decide +kernel
theorem dX6_happens_79 : decode cX6_happens 79 = .ok (.if_icmp .ge 29, 3) := by decide +kernel
theorem dX6_happens_82 : decode cX6_happens 82 = .ok (.aload_n 0, 1) := by decide +kernel
theorem dX6_happens_83 : decode cX6_happens 83 = .ok (.aload_n 0, 1) := by decide +kernel
theorem dX6_happens_84 : decode cX6_happens 84 = .ok (.getfield 142, 3) := by decide +kernel
theorem dX6_happens_87 : decode cX6_happens 87 = .ok (.invokevirtual 39, 3) := by decide +kernel
theorem dX6_happens_90 : decode cX6_happens 90 = .ok (.ifCond .le 18, 3) := by decide +kernel
theorem dX6_happens_93 : decode cX6_happens 93 = .ok (.aload_n 0, 1) := by decide +kernel
theorem dX6_happens_94 : decode cX6_happens 94 = .ok (.aload_n 0, 1) := by decide +kernel
theorem dX6_happens_95 : decode cX6_happens 95 = .ok (.getfield 142, 3) := by decide +kernel
theorem dX6_happens_98 : decode cX6_happens 98 = .ok (.invokevirtual 111, 3) := by decide +kernel
theorem dX6_happens_101 : decode cX6_happens 101 = .ok (.pop, 1) := by decide +kernel
theorem dX6_happens_102 : decode cX6_happens 102 = .ok (.iinc 1 1, 3) := by decide +kernel
theorem dX6_happens_105 : decode cX6_happens 105 = .ok (.goto (-31), 3) := by decide +kernel
theorem dX6_happens_108 : decode cX6_happens 108 = .ok (.goto 48, 3) := by decide +kernel
theorem dX6_happens_111 : decode cX6_happens 111 = .ok (.aload_n 0, 1) := by decide +kernel
theorem dX6_happens_112 : decode cX6_happens 112 = .ok (.aload_n 0, 1) := by decide +kernel
theorem dX6_happens_113 : decode cX6_happens 113 = .ok (.getfield 142, 3) := by decide +kernel
theorem dX6_happens_116 : decode cX6_happens 116 = .ok (.invokevirtual 96, 3) := by decide +kernel
theorem dX6_happens_119 : decode cX6_happens 119 = .ok (.pop, 1) := by decide +kernel
theorem dX6_happens_120 : decode cX6_happens 120 = .ok (.goto 36, 3) := by decide +kernel
theorem dX6_happens_123 : decode cX6_happens 123 = .ok (.aload_n 0, 1) := by decide +kernel
theorem dX6_happens_124 : decode cX6_happens 124 = .ok (.aload_n 0, 1) := by decide +kernel
theorem dX6_happens_125 : decode cX6_happens 125 = .ok (.getfield 142, 3) := by decide +kernel
theorem dX6_happens_128 : decode cX6_happens 128 = .ok (.aload_n 0, 1) := by decide +kernel
theorem dX6_happens_129 : decode cX6_happens 129 = .ok (.getfield 130, 3) := by decide +kernel
theorem dX6_happens_132 : decode cX6_happens 132 = .ok (.invokevirtual 87, 3) := by decide +kernel
theorem dX6_happens_135 : decode cX6_happens 135 = .ok (.pop, 1) := by decide +kernel
theorem dX6_happens_136 : decode cX6_happens 136 = .ok (.goto 20, 3) := by decide +kernel
theorem dX6_happens_139 : decode cX6_happens 139 = .ok (.aload_n 0, 1) := by decide +kernel
theorem dX6_happens_140 : decode cX6_happens 140 = .ok (.aload_n 0, 1) := by decide +kernel
theorem dX6_happens_141 : decode cX6_happens 141 = .ok (.getfield 142, 3) := by decide +kernel
theorem dX6_happens_144 : decode cX6_happens 144 = .ok (.invokevirtual 99, 3) := by decide +kernel
theorem dX6_happens_147 : decode cX6_happens 147 = .ok (.pop, 1) := by decide +kernel
theorem dX6_happens_148 : decode cX6_happens 148 = .ok (.goto 8, 3) := by decide +kernel
theorem dX6_happens_151 : decode cX6_happens 151 = .ok (.aload_n 0, 1) := by decide +kernel
theorem dX6_happens_152 : decode cX6_happens 152 = .ok (.invokevirtual 114, 3) := by decide +kernel
theorem dX6_happens_155 : decode cX6_happens 155 = .ok (.pop, 1) := by decide +kernel
theorem dX6_happens_156 : decode cX6_happens 156 = .ok (.return_, 1) := by decide +kernel
set_option maxRecDepth 20000 in
theorem ggX6_revel_X6_isCarnival : GoodIn wsX6_revel wsX6_isCarnival := goodIn_r _ [8, 2, 3, 9, 10, 11, 7, 12, 13, 14, 15, 16, 17, 18, 19, 20, 21, 22, 23, 24, 25, 26, 27, 28, 29, 30, 31, 32, 33, 34, 35, 142, 143, 144, 145, 146, 147, 148, 149, 150, 151, 152, 153] (by decide +kernel) (by decide +kernel)
set_option maxRecDepth 20000 in
theorem gX6_revel_X6_isCarnival : GoodIn wsX6_revel (wsV RX6 152 RX6 yX6_isCarnival wsX6_isCarnival) := goodIn_app (goodIn_of _ (by decide +kernel)) ggX6_revel_X6_isCarnival
set_option maxRecDepth 20000 in
theorem ggX6_revel_X6_holds : GoodIn wsX6_revel wsX6_holds := goodIn_r _ [39, 40, 142, 143, 144, 145, 146, 147, 148, 149, 150, 151, 152, 153] (by decide +kernel) (by decide +kernel)
set_option maxRecDepth 20000 in
theorem gX6_revel_X6_holds : GoodIn wsX6_revel (wsV RX6 72 RX6 yX6_holds wsX6_holds) := goodIn_app (goodIn_of _ (by decide +kernel)) ggX6_revel_X6_holds
set_option maxRecDepth 20000 in
theorem ggX6_revel_X6_save : GoodIn wsX6_revel wsX6_save := goodIn_r _ [44, 45, 46, 47, 48, 7, 49, 1, 142, 143, 144, 145, 146, 147, 148, 149, 150, 151, 152, 153] (by decide +kernel) (by decide +kernel)
set_option maxRecDepth 20000 in
theorem gX6_revel_X6_save : GoodIn wsX6_revel (wsV RX6 75 RX6 yX6_save wsX6_save) := goodIn_app (goodIn_of _ (by decide +kernel)) ggX6_revel_X6_save
set_option maxRecDepth 20000 in
theorem ggX6_revel_X6_readsPart : GoodIn wsX6_revel wsX6_readsPart := goodIn_r _ [12, 13, 14, 15, 16, 17, 18, 7, 19, 2, 3, 20, 21, 22, 23, 24, 25, 26, 27, 28, 29, 30, 31, 32, 33, 34, 35, 142, 143, 144, 145, 146, 147, 148, 149, 150, 151, 152, 153] (by decide +kernel) (by decide +kernel)
set_option maxRecDepth 20000 in
theorem gX6_revel_X6_readsPart : GoodIn wsX6_revel (wsV RX6 149 RX6 yX6_readsPart wsX6_readsPart) := goodIn_app (goodIn_of _ (by decide +kernel)) ggX6_revel_X6_readsPart
set_option maxRecDepth 20000 in
theorem ggX6_revel_X6_stops : GoodIn wsX6_revel wsX6_stops := goodIn_r _ [53, 13, 14, 15, 54, 55, 56, 7, 57, 1, 29, 30, 31, 58, 59, 60, 61, 62, 63, 64, 65, 66, 67, 68, 69, 70, 71, 72, 73, 74, 75, 76, 77, 78, 79, 80, 81, 82, 83, 84, 85, 86, 87, 88, 89, 142, 143, 144, 145, 146, 147, 148, 149, 150, 151, 152, 153] (by decide +kernel) (by decide +kernel)
set_option maxRecDepth 20000 in
theorem gX6_revel_X6_stops : GoodIn wsX6_revel (wsV RX6 155 RX6 yX6_stops wsX6_stops) := goodIn_app (goodIn_of _ (by decide +kernel)) ggX6_revel_X6_stops
set_option maxRecDepth 20000 in
theorem ggX6_revel_X6_happens : GoodIn wsX6_revel wsX6_happens := goodIn_r _ [93, 13, 14, 15, 94, 95, 96, 7, 97, 1, 70, 71, 72, 73, 98, 99, 100, 101, 102, 103, 104, 105, 106, 62, 63, 64, 65, 107, 108, 109, 110, 111, 112, 113, 114, 115, 116, 117, 86, 87, 88, 89, 118, 119, 120, 121, 122, 123, 124, 125, 126, 127, 128, 129, 130, 131, 132, 133, 134, 135, 136, 137, 138, 139, 140, 141, 142, 143, 144, 145, 146, 147, 148, 149, 150, 151, 152, 153] (by decide +kernel) (by decide +kernel)
set_option maxRecDepth 20000 in
theorem gX6_revel_X6_happens : GoodIn wsX6_revel (wsV RX6 158 RX6 yX6_happens wsX6_happens) := goodIn_app (goodIn_of _ (by decide +kernel)) ggX6_revel_X6_happens
set_option maxRecDepth 20000 in
theorem ggX6_revel_X6_takes : GoodIn wsX6_revel wsX6_takes := goodIn_r _ [24, 2, 16, 17, 18, 7, 19, 3, 20, 142, 143, 144, 145, 146, 147, 148, 149, 150, 151, 152, 153] (by decide +kernel) (by decide +kernel)
set_option maxRecDepth 20000 in
theorem gX6_revel_X6_takes : GoodIn wsX6_revel (wsV RX6 133 RX6 yX6_takes wsX6_takes) := goodIn_app (goodIn_of _ (by decide +kernel)) ggX6_revel_X6_takes
theorem dX6_revel_0 : decode cX6_revel 0 = .ok (.aload_n 0, 1) := by decide +kernel
theorem dX6_revel_1 : decode cX6_revel 1 = .ok (.aload_n 0, 1) := by decide +kernel
theorem dX6_revel_2 : decode cX6_revel 2 = .ok (.invokevirtual 152, 3) := by decide +kernel
theorem dX6_revel_5 : decode cX6_revel 5 = .ok (.ifCond .eq 7, 3) := by decide +kernel
theorem dX6_revel_8 : decode cX6_revel 8 = .ok (.iconst 0, 1) := by decide +kernel
theorem dX6_revel_9 : decode cX6_revel 9 = .ok (.goto 4, 3) := by decide +kernel
theorem dX6_revel_12 : decode cX6_revel 12 = .ok (.iconst 1, 1) := by decide +kernel
theorem dX6_revel_13 : decode cX6_revel 13 = .ok (.invokevirtual 72, 3) := by decide +kernel
theorem dX6_revel_16 : decode cX6_revel 16 = .ok (.ifCond .ne 5, 3) := by decide +kernel
theorem dX6_revel_19 : decode cX6_revel 19 = .ok (.iconst 0, 1) := by decide +kernel
theorem dX6_revel_20 : decode cX6_revel 20 = .ok (.ireturn, 1) := by decide +kernel
theorem dX6_revel_21 : decode cX6_revel 21 = .ok (.aload_n 0, 1) := by decide +kernel
theorem dX6_revel_22 : decode cX6_revel 22 = .ok (.invokevirtual 75, 3) := by decide +kernel
theorem dX6_revel_25 : decode cX6_revel 25 = .ok (.aload_n 0, 1) := by decide +kernel
theorem dX6_revel_26 : decode cX6_revel 26 = .ok (.getfield 7, 3) := by decide +kernel
theorem dX6_revel_29 : decode cX6_revel 29 = .ok (.bipush 8, 2) := by decide +kernel
theorem dX6_revel_31 : decode cX6_revel 31 = .ok (.iconst (-1), 1) := by decide +kernel
theorem dX6_revel_32 : decode cX6_revel 32 = .ok (.iastore, 1) := by decide +kernel
theorem dX6_revel_33 : decode cX6_revel 33 = .ok (.aload_n 0, 1) := by decide +kernel
theorem dX6_revel_34 : decode cX6_revel 34 = .ok (.getfield 7, 3) := by decide +kernel
theorem dX6_revel_37 : decode cX6_revel 37 = .ok (.bipush 9, 2) := by decide +kernel
theorem dX6_revel_39 : decode cX6_revel 39 = .ok (.iconst (-1), 1) := by decide +kernel
theorem dX6_revel_40 : decode cX6_revel 40 = .ok (.iastore, 1) := by decide +kernel
theorem dX6_revel_41 : decode cX6_revel 41 = .ok (.aload_n 0, 1) := by decide +kernel
theorem dX6_revel_42 : decode cX6_revel 42 = .ok (.iconst 0, 1) := by decide +kernel
theorem dX6_revel_43 : decode cX6_revel 43 = .ok (.putfield 124, 3) := by decide +kernel
theorem dX6_revel_46 : decode cX6_revel 46 = .ok (.iconst 0, 1) := by decide +kernel
theorem dX6_revel_47 : decode cX6_revel 47 = .ok (.istore_n 1, 1) := by decide +kernel
theorem dX6_revel_48 : decode cX6_revel 48 = .ok (.aload_n 0, 1) := by decide +kernel
theorem dX6_revel_49 : decode cX6_revel 49 = .ok (.getfield 7, 3) := by decide +kernel
theorem dX6_revel_52 : decode cX6_revel 52 = .ok (.bipush 8, 2) := by decide +kernel
theorem dX6_revel_54 : decode cX6_revel 54 = .ok (.iaload, 1) := by decide +kernel
theorem dX6_revel_55 : decode cX6_revel 55 = .ok (.iconst (-1), 1) := by decide +kernel
theorem dX6_revel_56 : decode cX6_revel 56 = .ok (.if_icmp .ne 55, 3) := by decide +kernel
theorem dX6_revel_59 : decode cX6_revel 59 = .ok (.aload_n 0, 1) := by decide +kernel
theorem dX6_revel_60 : decode cX6_revel 60 = .ok (.invokevirtual 149, 3) := by decide +kernel
theorem dX6_revel_63 : decode cX6_revel 63 = .ok (.ifCond .eq 48, 3) := by decide +kernel
theorem dX6_revel_66 : decode cX6_revel 66 = .ok (.aload_n 0, 1) := by decide +kernel
theorem dX6_revel_67 : decode cX6_revel 67 = .ok (.invokevirtual 155, 3) := by decide +kernel
theorem dX6_revel_70 : decode cX6_revel 70 = .ok (.istore_n 2, 1) := by decide +kernel
theorem dX6_revel_71 : decode cX6_revel 71 = .ok (.iload_n 2, 1) := by decide +kernel
theorem dX6_revel_72 : decode cX6_revel 72 = .ok (.ifCond .le 22, 3) := by decide +kernel
theorem dX6_revel_75 : decode cX6_revel 75 = .ok (.aload_n 0, 1) := by decide +kernel
theorem dX6_revel_76 : decode cX6_revel 76 = .ok (.getfield 7, 3) := by decide +kernel
theorem dX6_revel_79 : decode cX6_revel 79 = .ok (.bipush 8, 2) := by decide +kernel
theorem dX6_revel_81 : decode cX6_revel 81 = .ok (.iload_n 1, 1) := by decide +kernel
theorem dX6_revel_82 : decode cX6_revel 82 = .ok (.iastore, 1) := by decide +kernel
theorem dX6_revel_83 : decode cX6_revel 83 = .ok (.aload_n 0, 1) := by decide +kernel
theorem dX6_revel_84 : decode cX6_revel 84 = .ok (.getfield 7, 3) := by decide +kernel
theorem dX6_revel_87 : decode cX6_revel 87 = .ok (.bipush 9, 2) := by decide +kernel
theorem dX6_revel_89 : decode cX6_revel 89 = .ok (.iload_n 2, 1) := by decide +kernel
theorem dX6_revel_90 : decode cX6_revel 90 = .ok (.iastore, 1) := by decide +kernel
theorem dX6_revel_91 : decode cX6_revel 91 = .ok (.goto 17, 3) := by decide +kernel
theorem dX6_revel_94 : decode cX6_revel 94 = .ok (.aload_n 0, 1) := by decide +kernel
theorem dX6_revel_95 : decode cX6_revel 95 = .ok (.invokevirtual 158, 3) := by decide +kernel
theorem dX6_revel_98 : decode cX6_revel 98 = .ok (.iinc 1 1, 3) := by decide +kernel
theorem dX6_revel_101 : decode cX6_revel 101 = .ok (.aload_n 0, 1) := by decide +kernel
theorem dX6_revel_102 : decode cX6_revel 102 = .ok (.bipush 59, 2) := by decide +kernel
theorem dX6_revel_104 : decode cX6_revel 104 = .ok (.invokevirtual 133, 3) := by decide +kernel
theorem dX6_revel_107 : decode cX6_revel 107 = .ok (.pop, 1) := by decide +kernel
theorem dX6_revel_108 : decode cX6_revel 108 = .ok (.goto (-60), 3) := by decide +kernel
theorem dX6_revel_111 : decode cX6_revel 111 = .ok (.aload_n 0, 1) := by decide +kernel
theorem dX6_revel_112 : decode cX6_revel 112 = .ok (.iconst 0, 1) := by decide +kernel
theorem dX6_revel_113 : decode cX6_revel 113 = .ok (.putfield 121, 3) := by decide +kernel
theorem dX6_revel_116 : decode cX6_revel 116 = .ok (.iload_n 1, 1) := by decide +kernel
theorem dX6_revel_117 : decode cX6_revel 117 = .ok (.ireturn, 1) := by decide +kernel
set_option maxRecDepth 20000 in
theorem ggX6_stopped_X6_in : GoodIn wsX6_stopped wsX6_in := goodIn_r _ [5] (by decide +kernel) (by decide +kernel)
set_option maxRecDepth 20000 in
theorem gX6_stopped_X6_in : GoodIn wsX6_stopped (va_wsS RX6 23 yX6_in wsX6_in) := goodIn_app (goodIn_of _ (by decide +kernel)) ggX6_stopped_X6_in
set_option maxRecDepth 20000 in
theorem ggX6_stopped_X6_holds : GoodIn wsX6_stopped wsX6_holds := goodIn_r _ [9, 10, 11, 12, 13, 14, 15, 16, 17, 18, 19, 20, 21, 22] (by decide +kernel) (by decide +kernel)
set_option maxRecDepth 20000 in
theorem gX6_stopped_X6_holds : GoodIn wsX6_stopped (wsV RX6 72 RX6 yX6_holds wsX6_holds) := goodIn_app (goodIn_of _ (by decide +kernel)) ggX6_stopped_X6_holds
theorem dX6_stopped_0 : decode cX6_stopped 0 = .ok (.aload_n 0, 1) := by decide +kernel
theorem dX6_stopped_1 : decode cX6_stopped 1 = .ok (.iload_n 1, 1) := by decide +kernel
theorem dX6_stopped_2 : decode cX6_stopped 2 = .ok (.iconst 0, 1) := by decide +kernel
theorem dX6_stopped_3 : decode cX6_stopped 3 = .ok (.iconst 1, 1) := by decide +kernel
theorem dX6_stopped_4 : decode cX6_stopped 4 = .ok (.invokestatic 23, 3) := by decide +kernel
theorem dX6_stopped_7 : decode cX6_stopped 7 = .ok (.ifCond .eq 7, 3) := by decide +kernel
theorem dX6_stopped_10 : decode cX6_stopped 10 = .ok (.iconst 0, 1) := by decide +kernel
theorem dX6_stopped_11 : decode cX6_stopped 11 = .ok (.goto 4, 3) := by decide +kernel
theorem dX6_stopped_14 : decode cX6_stopped 14 = .ok (.iconst 1, 1) := by decide +kernel
theorem dX6_stopped_15 : decode cX6_stopped 15 = .ok (.invokevirtual 72, 3) := by decide +kernel
theorem dX6_stopped_18 : decode cX6_stopped 18 = .ok (.ifCond .eq 15, 3) := by decide +kernel
theorem dX6_stopped_21 : decode cX6_stopped 21 = .ok (.aload_n 0, 1) := by decide +kernel
theorem dX6_stopped_22 : decode cX6_stopped 22 = .ok (.getfield 7, 3) := by decide +kernel
theorem dX6_stopped_25 : decode cX6_stopped 25 = .ok (.bipush 8, 2) := by decide +kernel
theorem dX6_stopped_27 : decode cX6_stopped 27 = .ok (.iload_n 1, 1) := by decide +kernel
theorem dX6_stopped_28 : decode cX6_stopped 28 = .ok (.iadd, 1) := by decide +kernel
theorem dX6_stopped_29 : decode cX6_stopped 29 = .ok (.iaload, 1) := by decide +kernel
theorem dX6_stopped_30 : decode cX6_stopped 30 = .ok (.goto 4, 3) := by decide +kernel
theorem dX6_stopped_33 : decode cX6_stopped 33 = .ok (.iconst 0, 1) := by decide +kernel
theorem dX6_stopped_34 : decode cX6_stopped 34 = .ok (.ireturn, 1) := by decide +kernel
set_option maxRecDepth 20000 in
theorem ggX6_undo_X6_holds : GoodIn wsX6_undo wsX6_holds := goodIn_r _ [6, 7, 13, 14, 15, 16, 17, 18, 19, 20, 21, 22, 23, 24] (by decide +kernel) (by decide +kernel)
set_option maxRecDepth 20000 in
theorem gX6_undo_X6_holds : GoodIn wsX6_undo (wsV RX6 72 RX6 yX6_holds wsX6_holds) := goodIn_app (goodIn_of _ (by decide +kernel)) ggX6_undo_X6_holds
set_option maxRecDepth 20000 in
theorem ggX6_undo_X6_copies : GoodIn wsX6_undo wsX6_copies := goodIn_r _ [11, 12, 13, 14, 15, 16, 17, 18, 19, 20, 21, 22, 23, 24] (by decide +kernel) (by decide +kernel)
set_option maxRecDepth 20000 in
theorem gX6_undo_X6_copies : GoodIn wsX6_undo (wsV RX6 69 RX6 yX6_copies wsX6_copies) := goodIn_app (goodIn_of _ (by decide +kernel)) ggX6_undo_X6_copies
theorem dX6_undo_0 : decode cX6_undo 0 = .ok (.aload_n 0, 1) := by decide +kernel
theorem dX6_undo_1 : decode cX6_undo 1 = .ok (.aload_n 0, 1) := by decide +kernel
theorem dX6_undo_2 : decode cX6_undo 2 = .ok (.getfield 66, 3) := by decide +kernel
theorem dX6_undo_5 : decode cX6_undo 5 = .ok (.ifCond .le 7, 3) := by decide +kernel
theorem dX6_undo_8 : decode cX6_undo 8 = .ok (.iconst 0, 1) := by decide +kernel
theorem dX6_undo_9 : decode cX6_undo 9 = .ok (.goto 4, 3) := by decide +kernel
theorem dX6_undo_12 : decode cX6_undo 12 = .ok (.iconst 1, 1) := by decide +kernel
theorem dX6_undo_13 : decode cX6_undo 13 = .ok (.invokevirtual 72, 3) := by decide +kernel
theorem dX6_undo_16 : decode cX6_undo 16 = .ok (.ifCond .ne 5, 3) := by decide +kernel
theorem dX6_undo_19 : decode cX6_undo 19 = .ok (.iconst 0, 1) := by decide +kernel
theorem dX6_undo_20 : decode cX6_undo 20 = .ok (.ireturn, 1) := by decide +kernel
theorem dX6_undo_21 : decode cX6_undo 21 = .ok (.aload_n 0, 1) := by decide +kernel
theorem dX6_undo_22 : decode cX6_undo 22 = .ok (.aload_n 0, 1) := by decide +kernel
theorem dX6_undo_23 : decode cX6_undo 23 = .ok (.getfield 66, 3) := by decide +kernel
theorem dX6_undo_26 : decode cX6_undo 26 = .ok (.iconst 0, 1) := by decide +kernel
theorem dX6_undo_27 : decode cX6_undo 27 = .ok (.invokevirtual 69, 3) := by decide +kernel
theorem dX6_undo_30 : decode cX6_undo 30 = .ok (.aload_n 0, 1) := by decide +kernel
theorem dX6_undo_31 : decode cX6_undo 31 = .ok (.dup, 1) := by decide +kernel
theorem dX6_undo_32 : decode cX6_undo 32 = .ok (.getfield 66, 3) := by decide +kernel
theorem dX6_undo_35 : decode cX6_undo 35 = .ok (.iconst 1, 1) := by decide +kernel
theorem dX6_undo_36 : decode cX6_undo 36 = .ok (.isub, 1) := by decide +kernel
theorem dX6_undo_37 : decode cX6_undo 37 = .ok (.putfield 66, 3) := by decide +kernel
theorem dX6_undo_40 : decode cX6_undo 40 = .ok (.aload_n 0, 1) := by decide +kernel
theorem dX6_undo_41 : decode cX6_undo 41 = .ok (.getfield 66, 3) := by decide +kernel
theorem dX6_undo_44 : decode cX6_undo 44 = .ok (.ireturn, 1) := by decide +kernel
set_option maxRecDepth 20000 in
theorem ggX6_keep_X6_copies : GoodIn wsX6_keep wsX6_copies := goodIn_r _ [8, 3, 9, 10, 11, 12, 13, 14, 15, 16, 17, 18, 19, 20] (by decide +kernel) (by decide +kernel)
set_option maxRecDepth 20000 in
theorem gX6_keep_X6_copies : GoodIn wsX6_keep (wsV RX6 69 RX6 yX6_copies wsX6_copies) := goodIn_app (goodIn_of _ (by decide +kernel)) ggX6_keep_X6_copies
theorem dX6_keep_0 : decode cX6_keep 0 = .ok (.aload_n 0, 1) := by decide +kernel
theorem dX6_keep_1 : decode cX6_keep 1 = .ok (.iconst 0, 1) := by decide +kernel
theorem dX6_keep_2 : decode cX6_keep 2 = .ok (.putfield 19, 3) := by decide +kernel
theorem dX6_keep_5 : decode cX6_keep 5 = .ok (.aload_n 0, 1) := by decide +kernel
theorem dX6_keep_6 : decode cX6_keep 6 = .ok (.iconst 0, 1) := by decide +kernel
theorem dX6_keep_7 : decode cX6_keep 7 = .ok (.bipush 7, 2) := by decide +kernel
theorem dX6_keep_9 : decode cX6_keep 9 = .ok (.invokevirtual 69, 3) := by decide +kernel
theorem dX6_keep_12 : decode cX6_keep 12 = .ok (.aload_n 0, 1) := by decide +kernel
theorem dX6_keep_13 : decode cX6_keep 13 = .ok (.iconst 1, 1) := by decide +kernel
theorem dX6_keep_14 : decode cX6_keep 14 = .ok (.putfield 161, 3) := by decide +kernel
theorem dX6_keep_17 : decode cX6_keep 17 = .ok (.aload_n 0, 1) := by decide +kernel
theorem dX6_keep_18 : decode cX6_keep 18 = .ok (.getfield 7, 3) := by decide +kernel
theorem dX6_keep_21 : decode cX6_keep 21 = .ok (.iconst 0, 1) := by decide +kernel
theorem dX6_keep_22 : decode cX6_keep 22 = .ok (.iaload, 1) := by decide +kernel
theorem dX6_keep_23 : decode cX6_keep 23 = .ok (.ireturn, 1) := by decide +kernel
set_option maxRecDepth 20000 in
theorem ggX6_restore_X6_holds : GoodIn wsX6_restore wsX6_holds := goodIn_r _ [7, 8, 18, 19, 20, 21, 22, 23, 24, 25, 26, 27, 28, 29] (by decide +kernel) (by decide +kernel)
set_option maxRecDepth 20000 in
theorem gX6_restore_X6_holds : GoodIn wsX6_restore (wsV RX6 72 RX6 yX6_holds wsX6_holds) := goodIn_app (goodIn_of _ (by decide +kernel)) ggX6_restore_X6_holds
set_option maxRecDepth 20000 in
theorem ggX6_restore_X6_save : GoodIn wsX6_restore wsX6_save := goodIn_r _ [12, 13, 14, 15, 16, 6, 17, 2, 18, 19, 20, 21, 22, 23, 24, 25, 26, 27, 28, 29] (by decide +kernel) (by decide +kernel)
set_option maxRecDepth 20000 in
theorem gX6_restore_X6_save : GoodIn wsX6_restore (wsV RX6 75 RX6 yX6_save wsX6_save) := goodIn_app (goodIn_of _ (by decide +kernel)) ggX6_restore_X6_save
set_option maxRecDepth 20000 in
theorem ggX6_restore_X6_copies : GoodIn wsX6_restore wsX6_copies := goodIn_r _ [17, 2, 18, 19, 20, 21, 22, 23, 24, 25, 26, 27, 28, 29] (by decide +kernel) (by decide +kernel)
set_option maxRecDepth 20000 in
theorem gX6_restore_X6_copies : GoodIn wsX6_restore (wsV RX6 69 RX6 yX6_copies wsX6_copies) := goodIn_app (goodIn_of _ (by decide +kernel)) ggX6_restore_X6_copies
theorem dX6_restore_0 : decode cX6_restore 0 = .ok (.aload_n 0, 1) := by decide +kernel
theorem dX6_restore_1 : decode cX6_restore 1 = .ok (.aload_n 0, 1) := by decide +kernel
theorem dX6_restore_2 : decode cX6_restore 2 = .ok (.getfield 161, 3) := by decide +kernel
theorem dX6_restore_5 : decode cX6_restore 5 = .ok (.ifCond .eq 7, 3) := by decide +kernel
theorem dX6_restore_8 : decode cX6_restore 8 = .ok (.iconst 0, 1) := by decide +kernel
theorem dX6_restore_9 : decode cX6_restore 9 = .ok (.goto 4, 3) := by decide +kernel
theorem dX6_restore_12 : decode cX6_restore 12 = .ok (.iconst 1, 1) := by decide +kernel
theorem dX6_restore_13 : decode cX6_restore 13 = .ok (.invokevirtual 72, 3) := by decide +kernel
theorem dX6_restore_16 : decode cX6_restore 16 = .ok (.ifCond .ne 5, 3) := by decide +kernel
theorem dX6_restore_19 : decode cX6_restore 19 = .ok (.iconst 0, 1) := by decide +kernel
theorem dX6_restore_20 : decode cX6_restore 20 = .ok (.ireturn, 1) := by decide +kernel
theorem dX6_restore_21 : decode cX6_restore 21 = .ok (.aload_n 0, 1) := by decide +kernel
theorem dX6_restore_22 : decode cX6_restore 22 = .ok (.invokevirtual 75, 3) := by decide +kernel
theorem dX6_restore_25 : decode cX6_restore 25 = .ok (.aload_n 0, 1) := by decide +kernel
theorem dX6_restore_26 : decode cX6_restore 26 = .ok (.bipush 7, 2) := by decide +kernel
theorem dX6_restore_28 : decode cX6_restore 28 = .ok (.iconst 0, 1) := by decide +kernel
theorem dX6_restore_29 : decode cX6_restore 29 = .ok (.invokevirtual 69, 3) := by decide +kernel
theorem dX6_restore_32 : decode cX6_restore 32 = .ok (.aload_n 0, 1) := by decide +kernel
theorem dX6_restore_33 : decode cX6_restore 33 = .ok (.getfield 7, 3) := by decide +kernel
theorem dX6_restore_36 : decode cX6_restore 36 = .ok (.iconst 0, 1) := by decide +kernel
theorem dX6_restore_37 : decode cX6_restore 37 = .ok (.iaload, 1) := by decide +kernel
theorem dX6_restore_38 : decode cX6_restore 38 = .ok (.ireturn, 1) := by decide +kernel
set_option maxRecDepth 20000 in
theorem ggX6_ofGuest_X6_standing : GoodIn wsX6_ofGuest wsX6_standing := goodIn_r _ [5, 6, 7, 8, 4, 9, 10, 11, 12, 13, 14, 27, 28, 29, 30, 31, 32, 33, 34, 35, 36, 37, 38] (by decide +kernel) (by decide +kernel)
set_option maxRecDepth 20000 in
theorem gX6_ofGuest_X6_standing : GoodIn wsX6_ofGuest (wsV RX6 46 RX6 yX6_standing wsX6_standing) := goodIn_app (goodIn_of _ (by decide +kernel)) ggX6_ofGuest_X6_standing
set_option maxRecDepth 20000 in
theorem ggX6_ofGuest_X6_worn : GoodIn wsX6_ofGuest wsX6_worn := goodIn_r _ [18, 19, 20, 21, 4, 22, 10, 27, 28, 29, 30, 31, 32, 33, 34, 35, 36, 37, 38] (by decide +kernel) (by decide +kernel)
set_option maxRecDepth 20000 in
theorem gX6_ofGuest_X6_worn : GoodIn wsX6_ofGuest (wsV RX6 56 RX6 yX6_worn wsX6_worn) := goodIn_app (goodIn_of _ (by decide +kernel)) ggX6_ofGuest_X6_worn
set_option maxRecDepth 20000 in
theorem ggX6_ofGuest_X6_of : GoodIn wsX6_ofGuest wsX6_of := goodIn_r _ [22, 10, 27, 28, 29, 30, 31, 32, 33, 34, 35, 36, 37, 38] (by decide +kernel) (by decide +kernel)
set_option maxRecDepth 20000 in
theorem gX6_ofGuest_X6_of : GoodIn wsX6_ofGuest (wsV RX6 27 RX6 yX6_of wsX6_of) := goodIn_app (goodIn_of _ (by decide +kernel)) ggX6_ofGuest_X6_of
set_option maxRecDepth 20000 in
theorem ggX6_ofGuest_X6_lentTo : GoodIn wsX6_ofGuest wsX6_lentTo := goodIn_r _ [26, 10, 19, 20, 21, 4, 22, 27, 28, 29, 30, 31, 32, 33, 34, 35, 36, 37, 38] (by decide +kernel) (by decide +kernel)
set_option maxRecDepth 20000 in
theorem gX6_ofGuest_X6_lentTo : GoodIn wsX6_ofGuest (wsV RX6 81 RX6 yX6_lentTo wsX6_lentTo) := goodIn_app (goodIn_of _ (by decide +kernel)) ggX6_ofGuest_X6_lentTo
theorem dX6_ofGuest_0 : decode cX6_ofGuest 0 = .ok (.aload_n 0, 1) := by decide +kernel
theorem dX6_ofGuest_1 : decode cX6_ofGuest 1 = .ok (.iload_n 1, 1) := by decide +kernel
theorem dX6_ofGuest_2 : decode cX6_ofGuest 2 = .ok (.invokevirtual 46, 3) := by decide +kernel
theorem dX6_ofGuest_5 : decode cX6_ofGuest 5 = .ok (.istore_n 3, 1) := by decide +kernel
theorem dX6_ofGuest_6 : decode cX6_ofGuest 6 = .ok (.iload_n 2, 1) := by decide +kernel
theorem dX6_ofGuest_7 : decode cX6_ofGuest 7 = .ok (.tableswitch 92 5 10 #[37, 43, 50, 58, 72, 86], 37) := by decide +kernel
theorem dX6_ofGuest_44 : decode cX6_ofGuest 44 = .ok (.aload_n 0, 1) := by decide +kernel
theorem dX6_ofGuest_45 : decode cX6_ofGuest 45 = .ok (.iload_n 1, 1) := by decide +kernel
theorem dX6_ofGuest_46 : decode cX6_ofGuest 46 = .ok (.invokevirtual 56, 3) := by decide +kernel
theorem dX6_ofGuest_49 : decode cX6_ofGuest 49 = .ok (.ireturn, 1) := by decide +kernel
theorem dX6_ofGuest_50 : decode cX6_ofGuest 50 = .ok (.aload_n 0, 1) := by decide +kernel
theorem dX6_ofGuest_51 : decode cX6_ofGuest 51 = .ok (.iload_n 1, 1) := by decide +kernel
theorem dX6_ofGuest_52 : decode cX6_ofGuest 52 = .ok (.iconst 5, 1) := by decide +kernel
theorem dX6_ofGuest_53 : decode cX6_ofGuest 53 = .ok (.invokevirtual 27, 3) := by decide +kernel
theorem dX6_ofGuest_56 : decode cX6_ofGuest 56 = .ok (.ireturn, 1) := by decide +kernel
theorem dX6_ofGuest_57 : decode cX6_ofGuest 57 = .ok (.aload_n 0, 1) := by decide +kernel
theorem dX6_ofGuest_58 : decode cX6_ofGuest 58 = .ok (.iload_n 1, 1) := by decide +kernel
theorem dX6_ofGuest_59 : decode cX6_ofGuest 59 = .ok (.bipush 6, 2) := by decide +kernel
theorem dX6_ofGuest_61 : decode cX6_ofGuest 61 = .ok (.invokevirtual 27, 3) := by decide +kernel
theorem dX6_ofGuest_64 : decode cX6_ofGuest 64 = .ok (.ireturn, 1) := by decide +kernel
theorem dX6_ofGuest_65 : decode cX6_ofGuest 65 = .ok (.iload_n 3, 1) := by decide +kernel
theorem dX6_ofGuest_66 : decode cX6_ofGuest 66 = .ok (.iconst (-1), 1) := by decide +kernel
theorem dX6_ofGuest_67 : decode cX6_ofGuest 67 = .ok (.if_icmp .ne 7, 3) := by decide +kernel
theorem dX6_ofGuest_70 : decode cX6_ofGuest 70 = .ok (.iconst (-1), 1) := by decide +kernel
theorem dX6_ofGuest_71 : decode cX6_ofGuest 71 = .ok (.goto 7, 3) := by decide +kernel
theorem dX6_ofGuest_74 : decode cX6_ofGuest 74 = .ok (.iload_n 3, 1) := by decide +kernel
theorem dX6_ofGuest_75 : decode cX6_ofGuest 75 = .ok (.bipush 16, 2) := by decide +kernel
theorem dX6_ofGuest_77 : decode cX6_ofGuest 77 = .ok (.idiv, 1) := by decide +kernel
theorem dX6_ofGuest_78 : decode cX6_ofGuest 78 = .ok (.ireturn, 1) := by decide +kernel
theorem dX6_ofGuest_79 : decode cX6_ofGuest 79 = .ok (.iload_n 3, 1) := by decide +kernel
theorem dX6_ofGuest_80 : decode cX6_ofGuest 80 = .ok (.iconst (-1), 1) := by decide +kernel
theorem dX6_ofGuest_81 : decode cX6_ofGuest 81 = .ok (.if_icmp .ne 7, 3) := by decide +kernel
theorem dX6_ofGuest_84 : decode cX6_ofGuest 84 = .ok (.iconst (-1), 1) := by decide +kernel
theorem dX6_ofGuest_85 : decode cX6_ofGuest 85 = .ok (.goto 7, 3) := by decide +kernel
theorem dX6_ofGuest_88 : decode cX6_ofGuest 88 = .ok (.iload_n 3, 1) := by decide +kernel
theorem dX6_ofGuest_89 : decode cX6_ofGuest 89 = .ok (.bipush 16, 2) := by decide +kernel
theorem dX6_ofGuest_91 : decode cX6_ofGuest 91 = .ok (.irem, 1) := by decide +kernel
theorem dX6_ofGuest_92 : decode cX6_ofGuest 92 = .ok (.ireturn, 1) := by decide +kernel
theorem dX6_ofGuest_93 : decode cX6_ofGuest 93 = .ok (.aload_n 0, 1) := by decide +kernel
theorem dX6_ofGuest_94 : decode cX6_ofGuest 94 = .ok (.iload_n 1, 1) := by decide +kernel
theorem dX6_ofGuest_95 : decode cX6_ofGuest 95 = .ok (.invokevirtual 81, 3) := by decide +kernel
theorem dX6_ofGuest_98 : decode cX6_ofGuest 98 = .ok (.ireturn, 1) := by decide +kernel
theorem dX6_ofGuest_99 : decode cX6_ofGuest 99 = .ok (.aload_n 0, 1) := by decide +kernel
theorem dX6_ofGuest_100 : decode cX6_ofGuest 100 = .ok (.iload_n 1, 1) := by decide +kernel
theorem dX6_ofGuest_101 : decode cX6_ofGuest 101 = .ok (.iload_n 2, 1) := by decide +kernel
theorem dX6_ofGuest_102 : decode cX6_ofGuest 102 = .ok (.invokevirtual 27, 3) := by decide +kernel
theorem dX6_ofGuest_105 : decode cX6_ofGuest 105 = .ok (.ireturn, 1) := by decide +kernel
set_option maxRecDepth 20000 in
theorem ggX6_guest_X6_isGuest : GoodIn wsX6_guest wsX6_isGuest := goodIn_r _ [5, 6, 7, 8, 4, 9, 43, 44, 45, 46, 47, 48, 49, 50, 51, 52, 53, 54] (by decide +kernel) (by decide +kernel)
set_option maxRecDepth 20000 in
theorem gX6_guest_X6_isGuest : GoodIn wsX6_guest (wsV RX6 78 RX6 yX6_isGuest wsX6_isGuest) := goodIn_app (goodIn_of _ (by decide +kernel)) ggX6_guest_X6_isGuest
set_option maxRecDepth 20000 in
theorem ggX6_guest_X6_in : GoodIn wsX6_guest wsX6_in := goodIn_r _ [9] (by decide +kernel) (by decide +kernel)
set_option maxRecDepth 20000 in
theorem gX6_guest_X6_in : GoodIn wsX6_guest (va_wsS RX6 23 yX6_in wsX6_in) := goodIn_app (goodIn_of _ (by decide +kernel)) ggX6_guest_X6_in
set_option maxRecDepth 20000 in
theorem ggX6_guest_X6_holds : GoodIn wsX6_guest wsX6_holds := goodIn_r _ [13, 14, 43, 44, 45, 46, 47, 48, 49, 50, 51, 52, 53, 54] (by decide +kernel) (by decide +kernel)
set_option maxRecDepth 20000 in
theorem gX6_guest_X6_holds : GoodIn wsX6_guest (wsV RX6 72 RX6 yX6_holds wsX6_holds) := goodIn_app (goodIn_of _ (by decide +kernel)) ggX6_guest_X6_holds
set_option maxRecDepth 20000 in
theorem ggX6_guest_X6_ofGuest : GoodIn wsX6_guest wsX6_ofGuest := goodIn_r _ [18, 19, 20, 21, 4, 22, 23, 24, 25, 26, 6, 27, 28, 29, 30, 31, 32, 33, 34, 35, 36, 37, 38, 39, 40, 41, 42, 43, 44, 45, 46, 47, 48, 49, 50, 51, 52, 53, 54] (by decide +kernel) (by decide +kernel)
set_option maxRecDepth 20000 in
theorem gX6_guest_X6_ofGuest : GoodIn wsX6_guest (wsV RX6 165 RX6 yX6_ofGuest wsX6_ofGuest) := goodIn_app (goodIn_of _ (by decide +kernel)) ggX6_guest_X6_ofGuest
theorem dX6_guest_0 : decode cX6_guest 0 = .ok (.aload_n 0, 1) := by decide +kernel
theorem dX6_guest_1 : decode cX6_guest 1 = .ok (.aload_n 0, 1) := by decide +kernel
theorem dX6_guest_2 : decode cX6_guest 2 = .ok (.iload_n 1, 1) := by decide +kernel
theorem dX6_guest_3 : decode cX6_guest 3 = .ok (.invokevirtual 78, 3) := by decide +kernel
theorem dX6_guest_6 : decode cX6_guest 6 = .ok (.ifCond .ne 7, 3) := by decide +kernel
theorem dX6_guest_9 : decode cX6_guest 9 = .ok (.iconst 1, 1) := by decide +kernel
theorem dX6_guest_10 : decode cX6_guest 10 = .ok (.goto 18, 3) := by decide +kernel
theorem dX6_guest_13 : decode cX6_guest 13 = .ok (.iload_n 2, 1) := by decide +kernel
theorem dX6_guest_14 : decode cX6_guest 14 = .ok (.iconst 0, 1) := by decide +kernel
theorem dX6_guest_15 : decode cX6_guest 15 = .ok (.bipush 10, 2) := by decide +kernel
theorem dX6_guest_17 : decode cX6_guest 17 = .ok (.invokestatic 23, 3) := by decide +kernel
theorem dX6_guest_20 : decode cX6_guest 20 = .ok (.ifCond .ne 7, 3) := by decide +kernel
theorem dX6_guest_23 : decode cX6_guest 23 = .ok (.iconst 2, 1) := by decide +kernel
theorem dX6_guest_24 : decode cX6_guest 24 = .ok (.goto 4, 3) := by decide +kernel
theorem dX6_guest_27 : decode cX6_guest 27 = .ok (.iconst 0, 1) := by decide +kernel
theorem dX6_guest_28 : decode cX6_guest 28 = .ok (.invokevirtual 72, 3) := by decide +kernel
theorem dX6_guest_31 : decode cX6_guest 31 = .ok (.ifCond .eq 12, 3) := by decide +kernel
theorem dX6_guest_34 : decode cX6_guest 34 = .ok (.aload_n 0, 1) := by decide +kernel
theorem dX6_guest_35 : decode cX6_guest 35 = .ok (.iload_n 1, 1) := by decide +kernel
theorem dX6_guest_36 : decode cX6_guest 36 = .ok (.iload_n 2, 1) := by decide +kernel
theorem dX6_guest_37 : decode cX6_guest 37 = .ok (.invokevirtual 165, 3) := by decide +kernel
theorem dX6_guest_40 : decode cX6_guest 40 = .ok (.goto 4, 3) := by decide +kernel
theorem dX6_guest_43 : decode cX6_guest 43 = .ok (.iconst 0, 1) := by decide +kernel
theorem dX6_guest_44 : decode cX6_guest 44 = .ok (.ireturn, 1) := by decide +kernel
set_option maxRecDepth 20000 in
theorem ggX6_law_X6_in : GoodIn wsX6_law wsX6_in := goodIn_r _ [4] (by decide +kernel) (by decide +kernel)
set_option maxRecDepth 20000 in
theorem gX6_law_X6_in : GoodIn wsX6_law (va_wsS RX6 23 yX6_in wsX6_in) := goodIn_app (goodIn_of _ (by decide +kernel)) ggX6_law_X6_in
set_option maxRecDepth 20000 in
theorem ggX6_law_X6_isGate : GoodIn wsX6_law wsX6_isGate := goodIn_r _ [7, 1, 2, 3, 4] (by decide +kernel) (by decide +kernel)
set_option maxRecDepth 20000 in
theorem gX6_law_X6_isGate : GoodIn wsX6_law (va_wsS RX6 102 yX6_isGate wsX6_isGate) := goodIn_app (goodIn_of _ (by decide +kernel)) ggX6_law_X6_isGate
set_option maxRecDepth 20000 in
theorem ggX6_law_X6_holds : GoodIn wsX6_law wsX6_holds := goodIn_r _ [11, 12, 18, 19, 20, 21, 22, 23, 24, 25, 26, 27, 28, 29] (by decide +kernel) (by decide +kernel)
set_option maxRecDepth 20000 in
theorem gX6_law_X6_holds : GoodIn wsX6_law (wsV RX6 72 RX6 yX6_holds wsX6_holds) := goodIn_app (goodIn_of _ (by decide +kernel)) ggX6_law_X6_holds
set_option maxRecDepth 20000 in
theorem ggX6_law_X6_allowed : GoodIn wsX6_law wsX6_allowed := goodIn_r _ [16, 17, 18, 19, 20, 21, 22, 23, 24, 25, 26, 27, 28, 29] (by decide +kernel) (by decide +kernel)
set_option maxRecDepth 20000 in
theorem gX6_law_X6_allowed : GoodIn wsX6_law (wsV RX6 59 RX6 yX6_allowed wsX6_allowed) := goodIn_app (goodIn_of _ (by decide +kernel)) ggX6_law_X6_allowed
theorem dX6_law_0 : decode cX6_law 0 = .ok (.iload_n 2, 1) := by decide +kernel
theorem dX6_law_1 : decode cX6_law 1 = .ok (.iconst 0, 1) := by decide +kernel
theorem dX6_law_2 : decode cX6_law 2 = .ok (.iconst 4, 1) := by decide +kernel
theorem dX6_law_3 : decode cX6_law 3 = .ok (.invokestatic 23, 3) := by decide +kernel
theorem dX6_law_6 : decode cX6_law 6 = .ok (.ifCond .eq 11, 3) := by decide +kernel
theorem dX6_law_9 : decode cX6_law 9 = .ok (.iload_n 3, 1) := by decide +kernel
theorem dX6_law_10 : decode cX6_law 10 = .ok (.ifCond .lt 7, 3) := by decide +kernel
theorem dX6_law_13 : decode cX6_law 13 = .ok (.iconst 1, 1) := by decide +kernel
theorem dX6_law_14 : decode cX6_law 14 = .ok (.goto 4, 3) := by decide +kernel
theorem dX6_law_17 : decode cX6_law 17 = .ok (.iconst 0, 1) := by decide +kernel
theorem dX6_law_18 : decode cX6_law 18 = .ok (.istore 4, 2) := by decide +kernel
theorem dX6_law_20 : decode cX6_law 20 = .ok (.aload_n 0, 1) := by decide +kernel
theorem dX6_law_21 : decode cX6_law 21 = .ok (.iload_n 1, 1) := by decide +kernel
theorem dX6_law_22 : decode cX6_law 22 = .ok (.invokestatic 102, 3) := by decide +kernel
theorem dX6_law_25 : decode cX6_law 25 = .ok (.ifCond .ne 7, 3) := by decide +kernel
theorem dX6_law_28 : decode cX6_law 28 = .ok (.iconst 1, 1) := by decide +kernel
theorem dX6_law_29 : decode cX6_law 29 = .ok (.goto 13, 3) := by decide +kernel
theorem dX6_law_32 : decode cX6_law 32 = .ok (.iload 4, 2) := by decide +kernel
theorem dX6_law_34 : decode cX6_law 34 = .ok (.ifCond .ne 7, 3) := by decide +kernel
theorem dX6_law_37 : decode cX6_law 37 = .ok (.iconst 2, 1) := by decide +kernel
theorem dX6_law_38 : decode cX6_law 38 = .ok (.goto 4, 3) := by decide +kernel
theorem dX6_law_41 : decode cX6_law 41 = .ok (.iconst 0, 1) := by decide +kernel
theorem dX6_law_42 : decode cX6_law 42 = .ok (.invokevirtual 72, 3) := by decide +kernel
theorem dX6_law_45 : decode cX6_law 45 = .ok (.ifCond .eq 13, 3) := by decide +kernel
theorem dX6_law_48 : decode cX6_law 48 = .ok (.aload_n 0, 1) := by decide +kernel
theorem dX6_law_49 : decode cX6_law 49 = .ok (.iload_n 1, 1) := by decide +kernel
theorem dX6_law_50 : decode cX6_law 50 = .ok (.iload_n 2, 1) := by decide +kernel
theorem dX6_law_51 : decode cX6_law 51 = .ok (.iload_n 3, 1) := by decide +kernel
theorem dX6_law_52 : decode cX6_law 52 = .ok (.invokevirtual 59, 3) := by decide +kernel
theorem dX6_law_55 : decode cX6_law 55 = .ok (.goto 4, 3) := by decide +kernel
theorem dX6_law_58 : decode cX6_law 58 = .ok (.iconst 0, 1) := by decide +kernel
theorem dX6_law_59 : decode cX6_law 59 = .ok (.ireturn, 1) := by decide +kernel
set_option maxRecDepth 20000 in
theorem ggX6_total_X6_of : GoodIn wsX6_total wsX6_of := goodIn_r _ [6, 1, 7, 8, 9, 10, 11, 12, 13, 14, 15, 16, 17, 18] (by decide +kernel) (by decide +kernel)
set_option maxRecDepth 20000 in
theorem gX6_total_X6_of : GoodIn wsX6_total (wsV RX6 27 RX6 yX6_of wsX6_of) := goodIn_app (goodIn_of _ (by decide +kernel)) ggX6_total_X6_of
theorem dX6_total_0 : decode cX6_total 0 = .ok (.iconst 0, 1) := by decide +kernel
theorem dX6_total_1 : decode cX6_total 1 = .ok (.istore_n 2, 1) := by decide +kernel
theorem dX6_total_2 : decode cX6_total 2 = .ok (.iconst 0, 1) := by decide +kernel
theorem dX6_total_3 : decode cX6_total 3 = .ok (.istore_n 3, 1) := by decide +kernel
theorem dX6_total_4 : decode cX6_total 4 = .ok (.iload_n 3, 1) := by decide +kernel
theorem dX6_total_5 : decode cX6_total 5 = .ok (.aload_n 0, 1) := by decide +kernel
theorem dX6_total_6 : decode cX6_total 6 = .ok (.getfield 7, 3) := by decide +kernel
theorem dX6_total_9 : decode cX6_total 9 = .ok (.iconst 1, 1) := by decide +kernel
theorem dX6_total_10 : decode cX6_total 10 = .ok (.iaload, 1) := by decide +kernel
theorem dX6_total_11 : decode cX6_total 11 = .ok (.if_icmp .ge 18, 3) := by decide +kernel
theorem dX6_total_14 : decode cX6_total 14 = .ok (.iload_n 2, 1) := by decide +kernel
theorem dX6_total_15 : decode cX6_total 15 = .ok (.aload_n 0, 1) := by decide +kernel
theorem dX6_total_16 : decode cX6_total 16 = .ok (.iload_n 3, 1) := by decide +kernel
theorem dX6_total_17 : decode cX6_total 17 = .ok (.iload_n 1, 1) := by decide +kernel
theorem dX6_total_18 : decode cX6_total 18 = .ok (.invokevirtual 27, 3) := by decide +kernel
theorem dX6_total_21 : decode cX6_total 21 = .ok (.iadd, 1) := by decide +kernel
theorem dX6_total_22 : decode cX6_total 22 = .ok (.istore_n 2, 1) := by decide +kernel
theorem dX6_total_23 : decode cX6_total 23 = .ok (.iinc 3 1, 3) := by decide +kernel
theorem dX6_total_26 : decode cX6_total 26 = .ok (.goto (-22), 3) := by decide +kernel
theorem dX6_total_29 : decode cX6_total 29 = .ok (.iload_n 2, 1) := by decide +kernel
theorem dX6_total_30 : decode cX6_total 30 = .ok (.ireturn, 1) := by decide +kernel
set_option maxRecDepth 20000 in
theorem ggX6_masked_X6_of : GoodIn wsX6_masked wsX6_of := goodIn_r _ [6, 1, 7, 8, 9, 10, 11, 12, 13, 14, 15, 16, 17, 18] (by decide +kernel) (by decide +kernel)
set_option maxRecDepth 20000 in
theorem gX6_masked_X6_of : GoodIn wsX6_masked (wsV RX6 27 RX6 yX6_of wsX6_of) := goodIn_app (goodIn_of _ (by decide +kernel)) ggX6_masked_X6_of
theorem dX6_masked_0 : decode cX6_masked 0 = .ok (.iconst 0, 1) := by decide +kernel
theorem dX6_masked_1 : decode cX6_masked 1 = .ok (.istore_n 1, 1) := by decide +kernel
theorem dX6_masked_2 : decode cX6_masked 2 = .ok (.iconst 0, 1) := by decide +kernel
theorem dX6_masked_3 : decode cX6_masked 3 = .ok (.istore_n 2, 1) := by decide +kernel
theorem dX6_masked_4 : decode cX6_masked 4 = .ok (.iload_n 2, 1) := by decide +kernel
theorem dX6_masked_5 : decode cX6_masked 5 = .ok (.aload_n 0, 1) := by decide +kernel
theorem dX6_masked_6 : decode cX6_masked 6 = .ok (.getfield 7, 3) := by decide +kernel
theorem dX6_masked_9 : decode cX6_masked 9 = .ok (.iconst 1, 1) := by decide +kernel
theorem dX6_masked_10 : decode cX6_masked 10 = .ok (.iaload, 1) := by decide +kernel
theorem dX6_masked_11 : decode cX6_masked 11 = .ok (.if_icmp .ge 26, 3) := by decide +kernel
theorem dX6_masked_14 : decode cX6_masked 14 = .ok (.iload_n 1, 1) := by decide +kernel
theorem dX6_masked_15 : decode cX6_masked 15 = .ok (.aload_n 0, 1) := by decide +kernel
theorem dX6_masked_16 : decode cX6_masked 16 = .ok (.iload_n 2, 1) := by decide +kernel
theorem dX6_masked_17 : decode cX6_masked 17 = .ok (.iconst 5, 1) := by decide +kernel
theorem dX6_masked_18 : decode cX6_masked 18 = .ok (.invokevirtual 27, 3) := by decide +kernel
theorem dX6_masked_21 : decode cX6_masked 21 = .ok (.ifCond .le 7, 3) := by decide +kernel
theorem dX6_masked_24 : decode cX6_masked 24 = .ok (.iconst 1, 1) := by decide +kernel
theorem dX6_masked_25 : decode cX6_masked 25 = .ok (.goto 4, 3) := by decide +kernel
theorem dX6_masked_28 : decode cX6_masked 28 = .ok (.iconst 0, 1) := by decide +kernel
theorem dX6_masked_29 : decode cX6_masked 29 = .ok (.iadd, 1) := by decide +kernel
theorem dX6_masked_30 : decode cX6_masked 30 = .ok (.istore_n 1, 1) := by decide +kernel
theorem dX6_masked_31 : decode cX6_masked 31 = .ok (.iinc 2 1, 3) := by decide +kernel
theorem dX6_masked_34 : decode cX6_masked 34 = .ok (.goto (-30), 3) := by decide +kernel
theorem dX6_masked_37 : decode cX6_masked 37 = .ok (.iload_n 1, 1) := by decide +kernel
theorem dX6_masked_38 : decode cX6_masked 38 = .ok (.ireturn, 1) := by decide +kernel
set_option maxRecDepth 20000 in
theorem ggX6_insideSet_X6_of : GoodIn wsX6_insideSet wsX6_of := goodIn_r _ [6, 1, 7, 8, 9, 10, 11, 12, 13, 14, 15, 16, 17, 18] (by decide +kernel) (by decide +kernel)
set_option maxRecDepth 20000 in
theorem gX6_insideSet_X6_of : GoodIn wsX6_insideSet (wsV RX6 27 RX6 yX6_of wsX6_of) := goodIn_app (goodIn_of _ (by decide +kernel)) ggX6_insideSet_X6_of
theorem dX6_insideSet_0 : decode cX6_insideSet 0 = .ok (.iconst 0, 1) := by decide +kernel
theorem dX6_insideSet_1 : decode cX6_insideSet 1 = .ok (.istore_n 1, 1) := by decide +kernel
theorem dX6_insideSet_2 : decode cX6_insideSet 2 = .ok (.iconst 0, 1) := by decide +kernel
theorem dX6_insideSet_3 : decode cX6_insideSet 3 = .ok (.istore_n 2, 1) := by decide +kernel
theorem dX6_insideSet_4 : decode cX6_insideSet 4 = .ok (.iload_n 2, 1) := by decide +kernel
theorem dX6_insideSet_5 : decode cX6_insideSet 5 = .ok (.aload_n 0, 1) := by decide +kernel
theorem dX6_insideSet_6 : decode cX6_insideSet 6 = .ok (.getfield 7, 3) := by decide +kernel
theorem dX6_insideSet_9 : decode cX6_insideSet 9 = .ok (.iconst 1, 1) := by decide +kernel
theorem dX6_insideSet_10 : decode cX6_insideSet 10 = .ok (.iaload, 1) := by decide +kernel
theorem dX6_insideSet_11 : decode cX6_insideSet 11 = .ok (.if_icmp .ge 21, 3) := by decide +kernel
theorem dX6_insideSet_14 : decode cX6_insideSet 14 = .ok (.iload_n 1, 1) := by decide +kernel
theorem dX6_insideSet_15 : decode cX6_insideSet 15 = .ok (.aload_n 0, 1) := by decide +kernel
theorem dX6_insideSet_16 : decode cX6_insideSet 16 = .ok (.iload_n 2, 1) := by decide +kernel
theorem dX6_insideSet_17 : decode cX6_insideSet 17 = .ok (.bipush 6, 2) := by decide +kernel
theorem dX6_insideSet_19 : decode cX6_insideSet 19 = .ok (.invokevirtual 27, 3) := by decide +kernel
theorem dX6_insideSet_22 : decode cX6_insideSet 22 = .ok (.iload_n 2, 1) := by decide +kernel
theorem dX6_insideSet_23 : decode cX6_insideSet 23 = .ok (.ishl, 1) := by decide +kernel
theorem dX6_insideSet_24 : decode cX6_insideSet 24 = .ok (.ior, 1) := by decide +kernel
theorem dX6_insideSet_25 : decode cX6_insideSet 25 = .ok (.istore_n 1, 1) := by decide +kernel
theorem dX6_insideSet_26 : decode cX6_insideSet 26 = .ok (.iinc 2 1, 3) := by decide +kernel
theorem dX6_insideSet_29 : decode cX6_insideSet 29 = .ok (.goto (-25), 3) := by decide +kernel
theorem dX6_insideSet_32 : decode cX6_insideSet 32 = .ok (.iload_n 1, 1) := by decide +kernel
theorem dX6_insideSet_33 : decode cX6_insideSet 33 = .ok (.ireturn, 1) := by decide +kernel
set_option maxRecDepth 20000 in
theorem ggX6_counted_X6_total : GoodIn wsX6_counted wsX6_total := goodIn_r _ [7, 1, 8, 9, 10, 6, 11, 24, 25, 26, 27, 28, 29, 30, 31, 32, 33, 34, 35] (by decide +kernel) (by decide +kernel)
set_option maxRecDepth 20000 in
theorem gX6_counted_X6_total : GoodIn wsX6_counted (wsV RX6 168 RX6 yX6_total wsX6_total) := goodIn_app (goodIn_of _ (by decide +kernel)) ggX6_counted_X6_total
set_option maxRecDepth 20000 in
theorem ggX6_counted_X6_lineLength : GoodIn wsX6_counted wsX6_lineLength := goodIn_r _ [15, 1, 24, 25, 26, 27, 28, 29, 30, 31, 32, 33, 34, 35] (by decide +kernel) (by decide +kernel)
set_option maxRecDepth 20000 in
theorem gX6_counted_X6_lineLength : GoodIn wsX6_counted (wsV RX6 39 RX6 yX6_lineLength wsX6_lineLength) := goodIn_app (goodIn_of _ (by decide +kernel)) ggX6_counted_X6_lineLength
set_option maxRecDepth 20000 in
theorem ggX6_counted_X6_masked : GoodIn wsX6_counted wsX6_masked := goodIn_r _ [19, 1, 8, 9, 10, 6, 11, 24, 25, 26, 27, 28, 29, 30, 31, 32, 33, 34, 35] (by decide +kernel) (by decide +kernel)
set_option maxRecDepth 20000 in
theorem gX6_counted_X6_masked : GoodIn wsX6_counted (wsV RX6 171 RX6 yX6_masked wsX6_masked) := goodIn_app (goodIn_of _ (by decide +kernel)) ggX6_counted_X6_masked
set_option maxRecDepth 20000 in
theorem ggX6_counted_X6_insideSet : GoodIn wsX6_counted wsX6_insideSet := goodIn_r _ [23, 1, 8, 9, 10, 6, 11, 24, 25, 26, 27, 28, 29, 30, 31, 32, 33, 34, 35] (by decide +kernel) (by decide +kernel)
set_option maxRecDepth 20000 in
theorem gX6_counted_X6_insideSet : GoodIn wsX6_counted (wsV RX6 174 RX6 yX6_insideSet wsX6_insideSet) := goodIn_app (goodIn_of _ (by decide +kernel)) ggX6_counted_X6_insideSet
theorem dX6_counted_0 : decode cX6_counted 0 = .ok (.iload_n 1, 1) := by decide +kernel
theorem dX6_counted_1 : decode cX6_counted 1 = .ok (.tableswitch 219 0 21 #[103, 110, 117, 124, 142, 148, 155, 161, 168, 174, 181, 188, 196, 204, 209, 219, 219, 219, 219, 219, 219, 214], 103) := by decide +kernel
theorem dX6_counted_104 : decode cX6_counted 104 = .ok (.aload_n 0, 1) := by decide +kernel
theorem dX6_counted_105 : decode cX6_counted 105 = .ok (.getfield 7, 3) := by decide +kernel
theorem dX6_counted_108 : decode cX6_counted 108 = .ok (.iconst 0, 1) := by decide +kernel
theorem dX6_counted_109 : decode cX6_counted 109 = .ok (.iaload, 1) := by decide +kernel
theorem dX6_counted_110 : decode cX6_counted 110 = .ok (.ireturn, 1) := by decide +kernel
theorem dX6_counted_111 : decode cX6_counted 111 = .ok (.aload_n 0, 1) := by decide +kernel
theorem dX6_counted_112 : decode cX6_counted 112 = .ok (.getfield 7, 3) := by decide +kernel
theorem dX6_counted_115 : decode cX6_counted 115 = .ok (.iconst 1, 1) := by decide +kernel
theorem dX6_counted_116 : decode cX6_counted 116 = .ok (.iaload, 1) := by decide +kernel
theorem dX6_counted_117 : decode cX6_counted 117 = .ok (.ireturn, 1) := by decide +kernel
theorem dX6_counted_118 : decode cX6_counted 118 = .ok (.aload_n 0, 1) := by decide +kernel
theorem dX6_counted_119 : decode cX6_counted 119 = .ok (.bipush 6, 2) := by decide +kernel
theorem dX6_counted_121 : decode cX6_counted 121 = .ok (.invokevirtual 168, 3) := by decide +kernel
theorem dX6_counted_124 : decode cX6_counted 124 = .ok (.ireturn, 1) := by decide +kernel
theorem dX6_counted_125 : decode cX6_counted 125 = .ok (.aload_n 0, 1) := by decide +kernel
theorem dX6_counted_126 : decode cX6_counted 126 = .ok (.iconst 0, 1) := by decide +kernel
theorem dX6_counted_127 : decode cX6_counted 127 = .ok (.invokevirtual 39, 3) := by decide +kernel
theorem dX6_counted_130 : decode cX6_counted 130 = .ok (.aload_n 0, 1) := by decide +kernel
theorem dX6_counted_131 : decode cX6_counted 131 = .ok (.iconst 1, 1) := by decide +kernel
theorem dX6_counted_132 : decode cX6_counted 132 = .ok (.invokevirtual 39, 3) := by decide +kernel
theorem dX6_counted_135 : decode cX6_counted 135 = .ok (.iadd, 1) := by decide +kernel
theorem dX6_counted_136 : decode cX6_counted 136 = .ok (.aload_n 0, 1) := by decide +kernel
theorem dX6_counted_137 : decode cX6_counted 137 = .ok (.iconst 2, 1) := by decide +kernel
theorem dX6_counted_138 : decode cX6_counted 138 = .ok (.invokevirtual 39, 3) := by decide +kernel
theorem dX6_counted_141 : decode cX6_counted 141 = .ok (.iadd, 1) := by decide +kernel
theorem dX6_counted_142 : decode cX6_counted 142 = .ok (.ireturn, 1) := by decide +kernel
theorem dX6_counted_143 : decode cX6_counted 143 = .ok (.aload_n 0, 1) := by decide +kernel
theorem dX6_counted_144 : decode cX6_counted 144 = .ok (.iconst 1, 1) := by decide +kernel
theorem dX6_counted_145 : decode cX6_counted 145 = .ok (.invokevirtual 168, 3) := by decide +kernel
theorem dX6_counted_148 : decode cX6_counted 148 = .ok (.ireturn, 1) := by decide +kernel
theorem dX6_counted_149 : decode cX6_counted 149 = .ok (.aload_n 0, 1) := by decide +kernel
theorem dX6_counted_150 : decode cX6_counted 150 = .ok (.getfield 7, 3) := by decide +kernel
theorem dX6_counted_153 : decode cX6_counted 153 = .ok (.iconst 2, 1) := by decide +kernel
theorem dX6_counted_154 : decode cX6_counted 154 = .ok (.iaload, 1) := by decide +kernel
theorem dX6_counted_155 : decode cX6_counted 155 = .ok (.ireturn, 1) := by decide +kernel
theorem dX6_counted_156 : decode cX6_counted 156 = .ok (.aload_n 0, 1) := by decide +kernel
theorem dX6_counted_157 : decode cX6_counted 157 = .ok (.iconst 2, 1) := by decide +kernel
theorem dX6_counted_158 : decode cX6_counted 158 = .ok (.invokevirtual 168, 3) := by decide +kernel
theorem dX6_counted_161 : decode cX6_counted 161 = .ok (.ireturn, 1) := by decide +kernel
theorem dX6_counted_162 : decode cX6_counted 162 = .ok (.aload_n 0, 1) := by decide +kernel
theorem dX6_counted_163 : decode cX6_counted 163 = .ok (.getfield 7, 3) := by decide +kernel
theorem dX6_counted_166 : decode cX6_counted 166 = .ok (.iconst 4, 1) := by decide +kernel
theorem dX6_counted_167 : decode cX6_counted 167 = .ok (.iaload, 1) := by decide +kernel
theorem dX6_counted_168 : decode cX6_counted 168 = .ok (.ireturn, 1) := by decide +kernel
theorem dX6_counted_169 : decode cX6_counted 169 = .ok (.aload_n 0, 1) := by decide +kernel
theorem dX6_counted_170 : decode cX6_counted 170 = .ok (.iconst 3, 1) := by decide +kernel
theorem dX6_counted_171 : decode cX6_counted 171 = .ok (.invokevirtual 168, 3) := by decide +kernel
theorem dX6_counted_174 : decode cX6_counted 174 = .ok (.ireturn, 1) := by decide +kernel
theorem dX6_counted_175 : decode cX6_counted 175 = .ok (.aload_n 0, 1) := by decide +kernel
theorem dX6_counted_176 : decode cX6_counted 176 = .ok (.getfield 7, 3) := by decide +kernel
theorem dX6_counted_179 : decode cX6_counted 179 = .ok (.iconst 3, 1) := by decide +kernel
theorem dX6_counted_180 : decode cX6_counted 180 = .ok (.iaload, 1) := by decide +kernel
theorem dX6_counted_181 : decode cX6_counted 181 = .ok (.ireturn, 1) := by decide +kernel
theorem dX6_counted_182 : decode cX6_counted 182 = .ok (.aload_n 0, 1) := by decide +kernel
theorem dX6_counted_183 : decode cX6_counted 183 = .ok (.getfield 7, 3) := by decide +kernel
theorem dX6_counted_186 : decode cX6_counted 186 = .ok (.iconst 5, 1) := by decide +kernel
theorem dX6_counted_187 : decode cX6_counted 187 = .ok (.iaload, 1) := by decide +kernel
theorem dX6_counted_188 : decode cX6_counted 188 = .ok (.ireturn, 1) := by decide +kernel
theorem dX6_counted_189 : decode cX6_counted 189 = .ok (.aload_n 0, 1) := by decide +kernel
theorem dX6_counted_190 : decode cX6_counted 190 = .ok (.getfield 7, 3) := by decide +kernel
theorem dX6_counted_193 : decode cX6_counted 193 = .ok (.bipush 6, 2) := by decide +kernel
theorem dX6_counted_195 : decode cX6_counted 195 = .ok (.iaload, 1) := by decide +kernel
theorem dX6_counted_196 : decode cX6_counted 196 = .ok (.ireturn, 1) := by decide +kernel
theorem dX6_counted_197 : decode cX6_counted 197 = .ok (.aload_n 0, 1) := by decide +kernel
theorem dX6_counted_198 : decode cX6_counted 198 = .ok (.getfield 7, 3) := by decide +kernel
theorem dX6_counted_201 : decode cX6_counted 201 = .ok (.bipush 7, 2) := by decide +kernel
theorem dX6_counted_203 : decode cX6_counted 203 = .ok (.iaload, 1) := by decide +kernel
theorem dX6_counted_204 : decode cX6_counted 204 = .ok (.ireturn, 1) := by decide +kernel
theorem dX6_counted_205 : decode cX6_counted 205 = .ok (.aload_n 0, 1) := by decide +kernel
theorem dX6_counted_206 : decode cX6_counted 206 = .ok (.invokevirtual 171, 3) := by decide +kernel
theorem dX6_counted_209 : decode cX6_counted 209 = .ok (.ireturn, 1) := by decide +kernel
theorem dX6_counted_210 : decode cX6_counted 210 = .ok (.aload_n 0, 1) := by decide +kernel
theorem dX6_counted_211 : decode cX6_counted 211 = .ok (.invokevirtual 174, 3) := by decide +kernel
theorem dX6_counted_214 : decode cX6_counted 214 = .ok (.ireturn, 1) := by decide +kernel
theorem dX6_counted_215 : decode cX6_counted 215 = .ok (.aload_n 0, 1) := by decide +kernel
theorem dX6_counted_216 : decode cX6_counted 216 = .ok (.getfield 66, 3) := by decide +kernel
theorem dX6_counted_219 : decode cX6_counted 219 = .ok (.ireturn, 1) := by decide +kernel
theorem dX6_counted_220 : decode cX6_counted 220 = .ok (.aload_n 0, 1) := by decide +kernel
theorem dX6_counted_221 : decode cX6_counted 221 = .ok (.getfield 7, 3) := by decide +kernel
theorem dX6_counted_224 : decode cX6_counted 224 = .ok (.bipush 10, 2) := by decide +kernel
theorem dX6_counted_226 : decode cX6_counted 226 = .ok (.iload_n 1, 1) := by decide +kernel
theorem dX6_counted_227 : decode cX6_counted 227 = .ok (.iadd, 1) := by decide +kernel
theorem dX6_counted_228 : decode cX6_counted 228 = .ok (.bipush 15, 2) := by decide +kernel
theorem dX6_counted_230 : decode cX6_counted 230 = .ok (.isub, 1) := by decide +kernel
theorem dX6_counted_231 : decode cX6_counted 231 = .ok (.iaload, 1) := by decide +kernel
theorem dX6_counted_232 : decode cX6_counted 232 = .ok (.ireturn, 1) := by decide +kernel
set_option maxRecDepth 20000 in
theorem ggX6_count_X6_in : GoodIn wsX6_count wsX6_in := goodIn_r _ [4] (by decide +kernel) (by decide +kernel)
set_option maxRecDepth 20000 in
theorem gX6_count_X6_in : GoodIn wsX6_count (va_wsS RX6 23 yX6_in wsX6_in) := goodIn_app (goodIn_of _ (by decide +kernel)) ggX6_count_X6_in
set_option maxRecDepth 20000 in
theorem ggX6_count_X6_holds : GoodIn wsX6_count wsX6_holds := goodIn_r _ [8, 9, 36, 37, 38, 39, 40, 41, 42, 43, 44, 45, 46, 47] (by decide +kernel) (by decide +kernel)
set_option maxRecDepth 20000 in
theorem gX6_count_X6_holds : GoodIn wsX6_count (wsV RX6 72 RX6 yX6_holds wsX6_holds) := goodIn_app (goodIn_of _ (by decide +kernel)) ggX6_count_X6_holds
set_option maxRecDepth 20000 in
theorem ggX6_count_X6_counted : GoodIn wsX6_count wsX6_counted := goodIn_r _ [13, 14, 15, 16, 17, 18, 3, 19, 20, 21, 22, 23, 24, 25, 26, 27, 28, 29, 30, 31, 32, 33, 34, 35, 36, 37, 38, 39, 40, 41, 42, 43, 44, 45, 46, 47] (by decide +kernel) (by decide +kernel)
set_option maxRecDepth 20000 in
theorem gX6_count_X6_counted : GoodIn wsX6_count (wsV RX6 177 RX6 yX6_counted wsX6_counted) := goodIn_app (goodIn_of _ (by decide +kernel)) ggX6_count_X6_counted
theorem dX6_count_0 : decode cX6_count 0 = .ok (.aload_n 0, 1) := by decide +kernel
theorem dX6_count_1 : decode cX6_count 1 = .ok (.iload_n 1, 1) := by decide +kernel
theorem dX6_count_2 : decode cX6_count 2 = .ok (.iconst 0, 1) := by decide +kernel
theorem dX6_count_3 : decode cX6_count 3 = .ok (.bipush 21, 2) := by decide +kernel
theorem dX6_count_5 : decode cX6_count 5 = .ok (.invokestatic 23, 3) := by decide +kernel
theorem dX6_count_8 : decode cX6_count 8 = .ok (.ifCond .eq 7, 3) := by decide +kernel
theorem dX6_count_11 : decode cX6_count 11 = .ok (.iconst 0, 1) := by decide +kernel
theorem dX6_count_12 : decode cX6_count 12 = .ok (.goto 4, 3) := by decide +kernel
theorem dX6_count_15 : decode cX6_count 15 = .ok (.iconst 1, 1) := by decide +kernel
theorem dX6_count_16 : decode cX6_count 16 = .ok (.invokevirtual 72, 3) := by decide +kernel
theorem dX6_count_19 : decode cX6_count 19 = .ok (.ifCond .eq 11, 3) := by decide +kernel
theorem dX6_count_22 : decode cX6_count 22 = .ok (.aload_n 0, 1) := by decide +kernel
theorem dX6_count_23 : decode cX6_count 23 = .ok (.iload_n 1, 1) := by decide +kernel
theorem dX6_count_24 : decode cX6_count 24 = .ok (.invokevirtual 177, 3) := by decide +kernel
theorem dX6_count_27 : decode cX6_count 27 = .ok (.goto 4, 3) := by decide +kernel
theorem dX6_count_30 : decode cX6_count 30 = .ok (.iconst 0, 1) := by decide +kernel
theorem dX6_count_31 : decode cX6_count 31 = .ok (.ireturn, 1) := by decide +kernel
set_option maxRecDepth 20000 in
theorem ggX6_line_X6_isGate : GoodIn wsX6_line wsX6_isGate := goodIn_r _ [4, 5, 6, 3, 7] (by decide +kernel) (by decide +kernel)
set_option maxRecDepth 20000 in
theorem gX6_line_X6_isGate : GoodIn wsX6_line (va_wsS RX6 102 yX6_isGate wsX6_isGate) := goodIn_app (goodIn_of _ (by decide +kernel)) ggX6_line_X6_isGate
set_option maxRecDepth 20000 in
theorem ggX6_line_X6_holds : GoodIn wsX6_line wsX6_holds := goodIn_r _ [11, 12, 18, 19, 20, 21, 22, 23, 24, 25, 26, 27, 28, 29] (by decide +kernel) (by decide +kernel)
set_option maxRecDepth 20000 in
theorem gX6_line_X6_holds : GoodIn wsX6_line (wsV RX6 72 RX6 yX6_holds wsX6_holds) := goodIn_app (goodIn_of _ (by decide +kernel)) ggX6_line_X6_holds
set_option maxRecDepth 20000 in
theorem ggX6_line_X6_lineLength : GoodIn wsX6_line wsX6_lineLength := goodIn_r _ [16, 17, 18, 19, 20, 21, 22, 23, 24, 25, 26, 27, 28, 29] (by decide +kernel) (by decide +kernel)
set_option maxRecDepth 20000 in
theorem gX6_line_X6_lineLength : GoodIn wsX6_line (wsV RX6 39 RX6 yX6_lineLength wsX6_lineLength) := goodIn_app (goodIn_of _ (by decide +kernel)) ggX6_line_X6_lineLength
theorem dX6_line_0 : decode cX6_line 0 = .ok (.aload_n 0, 1) := by decide +kernel
theorem dX6_line_1 : decode cX6_line 1 = .ok (.iload_n 1, 1) := by decide +kernel
theorem dX6_line_2 : decode cX6_line 2 = .ok (.invokestatic 102, 3) := by decide +kernel
theorem dX6_line_5 : decode cX6_line 5 = .ok (.ifCond .eq 7, 3) := by decide +kernel
theorem dX6_line_8 : decode cX6_line 8 = .ok (.iconst 0, 1) := by decide +kernel
theorem dX6_line_9 : decode cX6_line 9 = .ok (.goto 4, 3) := by decide +kernel
theorem dX6_line_12 : decode cX6_line 12 = .ok (.iconst 1, 1) := by decide +kernel
theorem dX6_line_13 : decode cX6_line 13 = .ok (.invokevirtual 72, 3) := by decide +kernel
theorem dX6_line_16 : decode cX6_line 16 = .ok (.ifCond .eq 11, 3) := by decide +kernel
theorem dX6_line_19 : decode cX6_line 19 = .ok (.aload_n 0, 1) := by decide +kernel
theorem dX6_line_20 : decode cX6_line 20 = .ok (.iload_n 1, 1) := by decide +kernel
theorem dX6_line_21 : decode cX6_line 21 = .ok (.invokevirtual 39, 3) := by decide +kernel
theorem dX6_line_24 : decode cX6_line 24 = .ok (.goto 4, 3) := by decide +kernel
theorem dX6_line_27 : decode cX6_line 27 = .ok (.iconst 0, 1) := by decide +kernel
theorem dX6_line_28 : decode cX6_line 28 = .ok (.ireturn, 1) := by decide +kernel
set_option maxRecDepth 20000 in
theorem ggX6_noLoan_X6_isGuest : GoodIn wsX6_noLoan wsX6_isGuest := goodIn_r _ [5, 6, 7, 8, 4, 9, 27, 28, 29, 30, 31, 32, 33, 34, 35, 36, 37, 38] (by decide +kernel) (by decide +kernel)
set_option maxRecDepth 20000 in
theorem gX6_noLoan_X6_isGuest : GoodIn wsX6_noLoan (wsV RX6 78 RX6 yX6_isGuest wsX6_isGuest) := goodIn_app (goodIn_of _ (by decide +kernel)) ggX6_noLoan_X6_isGuest
set_option maxRecDepth 20000 in
theorem ggX6_noLoan_X6_holds : GoodIn wsX6_noLoan wsX6_holds := goodIn_r _ [13, 14, 27, 28, 29, 30, 31, 32, 33, 34, 35, 36, 37, 38] (by decide +kernel) (by decide +kernel)
set_option maxRecDepth 20000 in
theorem gX6_noLoan_X6_holds : GoodIn wsX6_noLoan (wsV RX6 72 RX6 yX6_holds wsX6_holds) := goodIn_app (goodIn_of _ (by decide +kernel)) ggX6_noLoan_X6_holds
set_option maxRecDepth 20000 in
theorem ggX6_noLoan_X6_whyNoLoan : GoodIn wsX6_noLoan wsX6_whyNoLoan := goodIn_r _ [18, 19, 20, 21, 4, 22, 6, 23, 24, 25, 26, 27, 28, 29, 30, 31, 32, 33, 34, 35, 36, 37, 38] (by decide +kernel) (by decide +kernel)
set_option maxRecDepth 20000 in
theorem gX6_noLoan_X6_whyNoLoan : GoodIn wsX6_noLoan (wsV RX6 84 RX6 yX6_whyNoLoan wsX6_whyNoLoan) := goodIn_app (goodIn_of _ (by decide +kernel)) ggX6_noLoan_X6_whyNoLoan
theorem dX6_noLoan_0 : decode cX6_noLoan 0 = .ok (.aload_n 0, 1) := by decide +kernel
theorem dX6_noLoan_1 : decode cX6_noLoan 1 = .ok (.aload_n 0, 1) := by decide +kernel
theorem dX6_noLoan_2 : decode cX6_noLoan 2 = .ok (.iload_n 1, 1) := by decide +kernel
theorem dX6_noLoan_3 : decode cX6_noLoan 3 = .ok (.invokevirtual 78, 3) := by decide +kernel
theorem dX6_noLoan_6 : decode cX6_noLoan 6 = .ok (.ifCond .eq 15, 3) := by decide +kernel
theorem dX6_noLoan_9 : decode cX6_noLoan 9 = .ok (.aload_n 0, 1) := by decide +kernel
theorem dX6_noLoan_10 : decode cX6_noLoan 10 = .ok (.iload_n 2, 1) := by decide +kernel
theorem dX6_noLoan_11 : decode cX6_noLoan 11 = .ok (.invokevirtual 78, 3) := by decide +kernel
theorem dX6_noLoan_14 : decode cX6_noLoan 14 = .ok (.ifCond .eq 7, 3) := by decide +kernel
theorem dX6_noLoan_17 : decode cX6_noLoan 17 = .ok (.iconst 0, 1) := by decide +kernel
theorem dX6_noLoan_18 : decode cX6_noLoan 18 = .ok (.goto 4, 3) := by decide +kernel
theorem dX6_noLoan_21 : decode cX6_noLoan 21 = .ok (.iconst 1, 1) := by decide +kernel
theorem dX6_noLoan_22 : decode cX6_noLoan 22 = .ok (.invokevirtual 72, 3) := by decide +kernel
theorem dX6_noLoan_25 : decode cX6_noLoan 25 = .ok (.ifCond .eq 12, 3) := by decide +kernel
theorem dX6_noLoan_28 : decode cX6_noLoan 28 = .ok (.aload_n 0, 1) := by decide +kernel
theorem dX6_noLoan_29 : decode cX6_noLoan 29 = .ok (.iload_n 1, 1) := by decide +kernel
theorem dX6_noLoan_30 : decode cX6_noLoan 30 = .ok (.iload_n 2, 1) := by decide +kernel
theorem dX6_noLoan_31 : decode cX6_noLoan 31 = .ok (.invokevirtual 84, 3) := by decide +kernel
theorem dX6_noLoan_34 : decode cX6_noLoan 34 = .ok (.goto 4, 3) := by decide +kernel
theorem dX6_noLoan_37 : decode cX6_noLoan 37 = .ok (.iconst 0, 1) := by decide +kernel
theorem dX6_noLoan_38 : decode cX6_noLoan 38 = .ok (.ireturn, 1) := by decide +kernel
set_option maxRecDepth 20000 in
theorem ggX6_whyNot_X6_isGuest : GoodIn wsX6_whyNot wsX6_isGuest := goodIn_r _ [5, 6, 7, 8, 4, 9, 39, 40, 41, 42, 43, 44, 45, 46, 47, 48, 49, 50] (by decide +kernel) (by decide +kernel)
set_option maxRecDepth 20000 in
theorem gX6_whyNot_X6_isGuest : GoodIn wsX6_whyNot (wsV RX6 78 RX6 yX6_isGuest wsX6_isGuest) := goodIn_app (goodIn_of _ (by decide +kernel)) ggX6_whyNot_X6_isGuest
set_option maxRecDepth 20000 in
theorem ggX6_whyNot_X6_holds : GoodIn wsX6_whyNot wsX6_holds := goodIn_r _ [13, 14, 39, 40, 41, 42, 43, 44, 45, 46, 47, 48, 49, 50] (by decide +kernel) (by decide +kernel)
set_option maxRecDepth 20000 in
theorem gX6_whyNot_X6_holds : GoodIn wsX6_whyNot (wsV RX6 72 RX6 yX6_holds wsX6_holds) := goodIn_app (goodIn_of _ (by decide +kernel)) ggX6_whyNot_X6_holds
set_option maxRecDepth 20000 in
theorem ggX6_whyNot_X6_whyNoMask : GoodIn wsX6_whyNot wsX6_whyNoMask := goodIn_r _ [18, 19, 20, 21, 4, 22, 6, 39, 40, 41, 42, 43, 44, 45, 46, 47, 48, 49, 50] (by decide +kernel) (by decide +kernel)
set_option maxRecDepth 20000 in
theorem gX6_whyNot_X6_whyNoMask : GoodIn wsX6_whyNot (wsV RX6 93 RX6 yX6_whyNoMask wsX6_whyNoMask) := goodIn_app (goodIn_of _ (by decide +kernel)) ggX6_whyNot_X6_whyNoMask
set_option maxRecDepth 20000 in
theorem ggX6_whyNot_X6_whyNoLine : GoodIn wsX6_whyNot wsX6_whyNoLine := goodIn_r _ [26, 6, 19, 20, 21, 4, 22, 27, 28, 29, 30, 31, 32, 33, 34, 35, 36, 37, 38, 39, 40, 41, 42, 43, 44, 45, 46, 47, 48, 49, 50] (by decide +kernel) (by decide +kernel)
set_option maxRecDepth 20000 in
theorem gX6_whyNot_X6_whyNoLine : GoodIn wsX6_whyNot (wsV RX6 105 RX6 yX6_whyNoLine wsX6_whyNoLine) := goodIn_app (goodIn_of _ (by decide +kernel)) ggX6_whyNot_X6_whyNoLine
theorem dX6_whyNot_0 : decode cX6_whyNot 0 = .ok (.aload_n 0, 1) := by decide +kernel
theorem dX6_whyNot_1 : decode cX6_whyNot 1 = .ok (.aload_n 0, 1) := by decide +kernel
theorem dX6_whyNot_2 : decode cX6_whyNot 2 = .ok (.iload_n 1, 1) := by decide +kernel
theorem dX6_whyNot_3 : decode cX6_whyNot 3 = .ok (.invokevirtual 78, 3) := by decide +kernel
theorem dX6_whyNot_6 : decode cX6_whyNot 6 = .ok (.ifCond .eq 7, 3) := by decide +kernel
theorem dX6_whyNot_9 : decode cX6_whyNot 9 = .ok (.iconst 0, 1) := by decide +kernel
theorem dX6_whyNot_10 : decode cX6_whyNot 10 = .ok (.goto 4, 3) := by decide +kernel
theorem dX6_whyNot_13 : decode cX6_whyNot 13 = .ok (.iconst 1, 1) := by decide +kernel
theorem dX6_whyNot_14 : decode cX6_whyNot 14 = .ok (.invokevirtual 72, 3) := by decide +kernel
theorem dX6_whyNot_17 : decode cX6_whyNot 17 = .ok (.ifCond .ne 5, 3) := by decide +kernel
theorem dX6_whyNot_20 : decode cX6_whyNot 20 = .ok (.iconst 0, 1) := by decide +kernel
theorem dX6_whyNot_21 : decode cX6_whyNot 21 = .ok (.ireturn, 1) := by decide +kernel
theorem dX6_whyNot_22 : decode cX6_whyNot 22 = .ok (.iload_n 2, 1) := by decide +kernel
theorem dX6_whyNot_23 : decode cX6_whyNot 23 = .ok (.ifCond .eq 11, 3) := by decide +kernel
theorem dX6_whyNot_26 : decode cX6_whyNot 26 = .ok (.aload_n 0, 1) := by decide +kernel
theorem dX6_whyNot_27 : decode cX6_whyNot 27 = .ok (.iload_n 1, 1) := by decide +kernel
theorem dX6_whyNot_28 : decode cX6_whyNot 28 = .ok (.invokevirtual 93, 3) := by decide +kernel
theorem dX6_whyNot_31 : decode cX6_whyNot 31 = .ok (.goto 8, 3) := by decide +kernel
theorem dX6_whyNot_34 : decode cX6_whyNot 34 = .ok (.aload_n 0, 1) := by decide +kernel
theorem dX6_whyNot_35 : decode cX6_whyNot 35 = .ok (.iload_n 1, 1) := by decide +kernel
theorem dX6_whyNot_36 : decode cX6_whyNot 36 = .ok (.invokevirtual 105, 3) := by decide +kernel
theorem dX6_whyNot_39 : decode cX6_whyNot 39 = .ok (.ireturn, 1) := by decide +kernel
set_option maxRecDepth 20000 in
theorem ggX6_wouldBring_X6_judges : GoodIn wsX6_wouldBring wsX6_judges := goodIn_r _ [6, 7, 1, 8, 9, 10, 5, 11, 12, 13, 14, 15, 16, 17, 18, 19, 20, 21, 22, 23, 24, 25, 26, 27, 28, 29, 30, 31, 32, 33, 34, 35, 36, 37, 38] (by decide +kernel) (by decide +kernel)
set_option maxRecDepth 20000 in
theorem gX6_wouldBring_X6_judges : GoodIn wsX6_wouldBring (wsV RX6 63 RX6 yX6_judges wsX6_judges) := goodIn_app (goodIn_of _ (by decide +kernel)) ggX6_wouldBring_X6_judges
theorem dX6_wouldBring_0 : decode cX6_wouldBring 0 = .ok (.aload_n 0, 1) := by decide +kernel
theorem dX6_wouldBring_1 : decode cX6_wouldBring 1 = .ok (.iload_n 1, 1) := by decide +kernel
theorem dX6_wouldBring_2 : decode cX6_wouldBring 2 = .ok (.iload_n 2, 1) := by decide +kernel
theorem dX6_wouldBring_3 : decode cX6_wouldBring 3 = .ok (.invokevirtual 63, 3) := by decide +kernel
theorem dX6_wouldBring_6 : decode cX6_wouldBring 6 = .ok (.aload_n 0, 1) := by decide +kernel
theorem dX6_wouldBring_7 : decode cX6_wouldBring 7 = .ok (.getfield 16, 3) := by decide +kernel
theorem dX6_wouldBring_10 : decode cX6_wouldBring 10 = .ok (.iload_n 3, 1) := by decide +kernel
theorem dX6_wouldBring_11 : decode cX6_wouldBring 11 = .ok (.iaload, 1) := by decide +kernel
theorem dX6_wouldBring_12 : decode cX6_wouldBring 12 = .ok (.ireturn, 1) := by decide +kernel
set_option maxRecDepth 20000 in
theorem ggX6_ifOpened_X6_isGuest : GoodIn wsX6_ifOpened wsX6_isGuest := goodIn_r _ [5, 6, 7, 8, 4, 9, 46, 47, 48, 49, 50, 51, 52, 53, 54, 55, 56, 57] (by decide +kernel) (by decide +kernel)
set_option maxRecDepth 20000 in
theorem gX6_ifOpened_X6_isGuest : GoodIn wsX6_ifOpened (wsV RX6 78 RX6 yX6_isGuest wsX6_isGuest) := goodIn_app (goodIn_of _ (by decide +kernel)) ggX6_ifOpened_X6_isGuest
set_option maxRecDepth 20000 in
theorem ggX6_ifOpened_X6_isGate : GoodIn wsX6_ifOpened wsX6_isGate := goodIn_r _ [12, 7, 8, 4, 9] (by decide +kernel) (by decide +kernel)
set_option maxRecDepth 20000 in
theorem gX6_ifOpened_X6_isGate : GoodIn wsX6_ifOpened (va_wsS RX6 102 yX6_isGate wsX6_isGate) := goodIn_app (goodIn_of _ (by decide +kernel)) ggX6_ifOpened_X6_isGate
set_option maxRecDepth 20000 in
theorem ggX6_ifOpened_X6_in : GoodIn wsX6_ifOpened wsX6_in := goodIn_r _ [9] (by decide +kernel) (by decide +kernel)
set_option maxRecDepth 20000 in
theorem gX6_ifOpened_X6_in : GoodIn wsX6_ifOpened (va_wsS RX6 23 yX6_in wsX6_in) := goodIn_app (goodIn_of _ (by decide +kernel)) ggX6_ifOpened_X6_in
set_option maxRecDepth 20000 in
theorem ggX6_ifOpened_X6_holds : GoodIn wsX6_ifOpened wsX6_holds := goodIn_r _ [16, 17, 46, 47, 48, 49, 50, 51, 52, 53, 54, 55, 56, 57] (by decide +kernel) (by decide +kernel)
set_option maxRecDepth 20000 in
theorem gX6_ifOpened_X6_holds : GoodIn wsX6_ifOpened (wsV RX6 72 RX6 yX6_holds wsX6_holds) := goodIn_app (goodIn_of _ (by decide +kernel)) ggX6_ifOpened_X6_holds
set_option maxRecDepth 20000 in
theorem ggX6_ifOpened_X6_wouldBring : GoodIn wsX6_ifOpened wsX6_wouldBring := goodIn_r _ [21, 22, 23, 24, 25, 4, 26, 6, 27, 28, 29, 30, 31, 32, 33, 34, 35, 36, 37, 38, 39, 40, 41, 42, 43, 44, 45, 46, 47, 48, 49, 50, 51, 52, 53, 54, 55, 56, 57] (by decide +kernel) (by decide +kernel)
set_option maxRecDepth 20000 in
theorem gX6_ifOpened_X6_wouldBring : GoodIn wsX6_ifOpened (wsV RX6 180 RX6 yX6_wouldBring wsX6_wouldBring) := goodIn_app (goodIn_of _ (by decide +kernel)) ggX6_ifOpened_X6_wouldBring
theorem dX6_ifOpened_0 : decode cX6_ifOpened 0 = .ok (.aload_n 0, 1) := by decide +kernel
theorem dX6_ifOpened_1 : decode cX6_ifOpened 1 = .ok (.iload_n 1, 1) := by decide +kernel
theorem dX6_ifOpened_2 : decode cX6_ifOpened 2 = .ok (.invokevirtual 78, 3) := by decide +kernel
theorem dX6_ifOpened_5 : decode cX6_ifOpened 5 = .ok (.ifCond .eq 14, 3) := by decide +kernel
theorem dX6_ifOpened_8 : decode cX6_ifOpened 8 = .ok (.iload_n 2, 1) := by decide +kernel
theorem dX6_ifOpened_9 : decode cX6_ifOpened 9 = .ok (.invokestatic 102, 3) := by decide +kernel
theorem dX6_ifOpened_12 : decode cX6_ifOpened 12 = .ok (.ifCond .eq 7, 3) := by decide +kernel
theorem dX6_ifOpened_15 : decode cX6_ifOpened 15 = .ok (.iconst 1, 1) := by decide +kernel
theorem dX6_ifOpened_16 : decode cX6_ifOpened 16 = .ok (.goto 4, 3) := by decide +kernel
theorem dX6_ifOpened_19 : decode cX6_ifOpened 19 = .ok (.iconst 0, 1) := by decide +kernel
theorem dX6_ifOpened_20 : decode cX6_ifOpened 20 = .ok (.istore 4, 2) := by decide +kernel
theorem dX6_ifOpened_22 : decode cX6_ifOpened 22 = .ok (.aload_n 0, 1) := by decide +kernel
theorem dX6_ifOpened_23 : decode cX6_ifOpened 23 = .ok (.iload 4, 2) := by decide +kernel
theorem dX6_ifOpened_25 : decode cX6_ifOpened 25 = .ok (.ifCond .ne 7, 3) := by decide +kernel
theorem dX6_ifOpened_28 : decode cX6_ifOpened 28 = .ok (.iconst 1, 1) := by decide +kernel
theorem dX6_ifOpened_29 : decode cX6_ifOpened 29 = .ok (.goto 17, 3) := by decide +kernel
theorem dX6_ifOpened_32 : decode cX6_ifOpened 32 = .ok (.iload_n 3, 1) := by decide +kernel
theorem dX6_ifOpened_33 : decode cX6_ifOpened 33 = .ok (.iconst 0, 1) := by decide +kernel
theorem dX6_ifOpened_34 : decode cX6_ifOpened 34 = .ok (.iconst 3, 1) := by decide +kernel
theorem dX6_ifOpened_35 : decode cX6_ifOpened 35 = .ok (.invokestatic 23, 3) := by decide +kernel
theorem dX6_ifOpened_38 : decode cX6_ifOpened 38 = .ok (.ifCond .ne 7, 3) := by decide +kernel
theorem dX6_ifOpened_41 : decode cX6_ifOpened 41 = .ok (.iconst 2, 1) := by decide +kernel
theorem dX6_ifOpened_42 : decode cX6_ifOpened 42 = .ok (.goto 4, 3) := by decide +kernel
theorem dX6_ifOpened_45 : decode cX6_ifOpened 45 = .ok (.iconst 0, 1) := by decide +kernel
theorem dX6_ifOpened_46 : decode cX6_ifOpened 46 = .ok (.invokevirtual 72, 3) := by decide +kernel
theorem dX6_ifOpened_49 : decode cX6_ifOpened 49 = .ok (.ifCond .eq 13, 3) := by decide +kernel
theorem dX6_ifOpened_52 : decode cX6_ifOpened 52 = .ok (.aload_n 0, 1) := by decide +kernel
theorem dX6_ifOpened_53 : decode cX6_ifOpened 53 = .ok (.iload_n 1, 1) := by decide +kernel
theorem dX6_ifOpened_54 : decode cX6_ifOpened 54 = .ok (.iload_n 2, 1) := by decide +kernel
theorem dX6_ifOpened_55 : decode cX6_ifOpened 55 = .ok (.iload_n 3, 1) := by decide +kernel
theorem dX6_ifOpened_56 : decode cX6_ifOpened 56 = .ok (.invokevirtual 180, 3) := by decide +kernel
theorem dX6_ifOpened_59 : decode cX6_ifOpened 59 = .ok (.goto 4, 3) := by decide +kernel
theorem dX6_ifOpened_62 : decode cX6_ifOpened 62 = .ok (.iconst 0, 1) := by decide +kernel
theorem dX6_ifOpened_63 : decode cX6_ifOpened 63 = .ok (.ireturn, 1) := by decide +kernel
set_option maxRecDepth 20000 in
theorem ggX6_best_X6_wouldBring : GoodIn wsX6_best wsX6_wouldBring := goodIn_r _ [5, 6, 7, 8, 9, 4, 10, 11, 12, 13, 14, 15, 16, 17, 18, 19, 20, 21, 22, 23, 24, 25, 26, 27, 28, 29, 30, 35, 36, 37, 38, 39, 40, 41, 42, 43, 44, 45, 46] (by decide +kernel) (by decide +kernel)
set_option maxRecDepth 20000 in
theorem gX6_best_X6_wouldBring : GoodIn wsX6_best (wsV RX6 180 RX6 yX6_wouldBring wsX6_wouldBring) := goodIn_app (goodIn_of _ (by decide +kernel)) ggX6_best_X6_wouldBring
set_option maxRecDepth 20000 in
theorem ggX6_best_X6_lineLength : GoodIn wsX6_best wsX6_lineLength := goodIn_r _ [34, 11, 35, 36, 37, 38, 39, 40, 41, 42, 43, 44, 45, 46] (by decide +kernel) (by decide +kernel)
set_option maxRecDepth 20000 in
theorem gX6_best_X6_lineLength : GoodIn wsX6_best (wsV RX6 39 RX6 yX6_lineLength wsX6_lineLength) := goodIn_app (goodIn_of _ (by decide +kernel)) ggX6_best_X6_lineLength
set_option maxRecDepth 20000 in
theorem ggX6_best_X6_lesser : GoodIn wsX6_best wsX6_lesser := goodIn_r _ [26] (by decide +kernel) (by decide +kernel)
set_option maxRecDepth 20000 in
theorem gX6_best_X6_lesser : GoodIn wsX6_best (va_wsS RX6 53 yX6_lesser wsX6_lesser) := goodIn_app (goodIn_of _ (by decide +kernel)) ggX6_best_X6_lesser
theorem dX6_best_0 : decode cX6_best 0 = .ok (.iconst 0, 1) := by decide +kernel
theorem dX6_best_1 : decode cX6_best 1 = .ok (.istore_n 2, 1) := by decide +kernel
theorem dX6_best_2 : decode cX6_best 2 = .ok (.bipush 16, 2) := by decide +kernel
theorem dX6_best_4 : decode cX6_best 4 = .ok (.aload_n 0, 1) := by decide +kernel
theorem dX6_best_5 : decode cX6_best 5 = .ok (.iload_n 1, 1) := by decide +kernel
theorem dX6_best_6 : decode cX6_best 6 = .ok (.iconst 0, 1) := by decide +kernel
theorem dX6_best_7 : decode cX6_best 7 = .ok (.iconst 0, 1) := by decide +kernel
theorem dX6_best_8 : decode cX6_best 8 = .ok (.invokevirtual 180, 3) := by decide +kernel
theorem dX6_best_11 : decode cX6_best 11 = .ok (.imul, 1) := by decide +kernel
theorem dX6_best_12 : decode cX6_best 12 = .ok (.aload_n 0, 1) := by decide +kernel
theorem dX6_best_13 : decode cX6_best 13 = .ok (.iconst 0, 1) := by decide +kernel
theorem dX6_best_14 : decode cX6_best 14 = .ok (.invokevirtual 39, 3) := by decide +kernel
theorem dX6_best_17 : decode cX6_best 17 = .ok (.iadd, 1) := by decide +kernel
theorem dX6_best_18 : decode cX6_best 18 = .ok (.istore_n 3, 1) := by decide +kernel
theorem dX6_best_19 : decode cX6_best 19 = .ok (.iconst 1, 1) := by decide +kernel
theorem dX6_best_20 : decode cX6_best 20 = .ok (.istore 4, 2) := by decide +kernel
theorem dX6_best_22 : decode cX6_best 22 = .ok (.iload 4, 2) := by decide +kernel
theorem dX6_best_24 : decode cX6_best 24 = .ok (.iconst 3, 1) := by decide +kernel
theorem dX6_best_25 : decode cX6_best 25 = .ok (.if_icmp .ge 49, 3) := by decide +kernel
theorem dX6_best_28 : decode cX6_best 28 = .ok (.bipush 16, 2) := by decide +kernel
theorem dX6_best_30 : decode cX6_best 30 = .ok (.aload_n 0, 1) := by decide +kernel
theorem dX6_best_31 : decode cX6_best 31 = .ok (.iload_n 1, 1) := by decide +kernel
theorem dX6_best_32 : decode cX6_best 32 = .ok (.iload 4, 2) := by decide +kernel
theorem dX6_best_34 : decode cX6_best 34 = .ok (.iconst 0, 1) := by decide +kernel
theorem dX6_best_35 : decode cX6_best 35 = .ok (.invokevirtual 180, 3) := by decide +kernel
theorem dX6_best_38 : decode cX6_best 38 = .ok (.imul, 1) := by decide +kernel
theorem dX6_best_39 : decode cX6_best 39 = .ok (.aload_n 0, 1) := by decide +kernel
theorem dX6_best_40 : decode cX6_best 40 = .ok (.iload 4, 2) := by decide +kernel
theorem dX6_best_42 : decode cX6_best 42 = .ok (.invokevirtual 39, 3) := by decide +kernel
theorem dX6_best_45 : decode cX6_best 45 = .ok (.iadd, 1) := by decide +kernel
theorem dX6_best_46 : decode cX6_best 46 = .ok (.istore 5, 2) := by decide +kernel
theorem dX6_best_48 : decode cX6_best 48 = .ok (.iload 5, 2) := by decide +kernel
theorem dX6_best_50 : decode cX6_best 50 = .ok (.iload_n 3, 1) := by decide +kernel
theorem dX6_best_51 : decode cX6_best 51 = .ok (.if_icmp .ge 8, 3) := by decide +kernel
theorem dX6_best_54 : decode cX6_best 54 = .ok (.iload 4, 2) := by decide +kernel
theorem dX6_best_56 : decode cX6_best 56 = .ok (.goto 4, 3) := by decide +kernel
theorem dX6_best_59 : decode cX6_best 59 = .ok (.iload_n 2, 1) := by decide +kernel
theorem dX6_best_60 : decode cX6_best 60 = .ok (.istore_n 2, 1) := by decide +kernel
theorem dX6_best_61 : decode cX6_best 61 = .ok (.iload 5, 2) := by decide +kernel
theorem dX6_best_63 : decode cX6_best 63 = .ok (.iload_n 3, 1) := by decide +kernel
theorem dX6_best_64 : decode cX6_best 64 = .ok (.invokestatic 53, 3) := by decide +kernel
theorem dX6_best_67 : decode cX6_best 67 = .ok (.istore_n 3, 1) := by decide +kernel
theorem dX6_best_68 : decode cX6_best 68 = .ok (.iinc 4 1, 3) := by decide +kernel
theorem dX6_best_71 : decode cX6_best 71 = .ok (.goto (-49), 3) := by decide +kernel
theorem dX6_best_74 : decode cX6_best 74 = .ok (.iload_n 2, 1) := by decide +kernel
theorem dX6_best_75 : decode cX6_best 75 = .ok (.ireturn, 1) := by decide +kernel
set_option maxRecDepth 20000 in
theorem ggX6_bestGate_X6_isGuest : GoodIn wsX6_bestGate wsX6_isGuest := goodIn_r _ [5, 6, 7, 8, 4, 9, 51, 52, 53, 54, 55, 56, 57, 58, 59, 60, 61, 62] (by decide +kernel) (by decide +kernel)
set_option maxRecDepth 20000 in
theorem gX6_bestGate_X6_isGuest : GoodIn wsX6_bestGate (wsV RX6 78 RX6 yX6_isGuest wsX6_isGuest) := goodIn_app (goodIn_of _ (by decide +kernel)) ggX6_bestGate_X6_isGuest
set_option maxRecDepth 20000 in
theorem ggX6_bestGate_X6_holds : GoodIn wsX6_bestGate wsX6_holds := goodIn_r _ [13, 14, 51, 52, 53, 54, 55, 56, 57, 58, 59, 60, 61, 62] (by decide +kernel) (by decide +kernel)
set_option maxRecDepth 20000 in
theorem gX6_bestGate_X6_holds : GoodIn wsX6_bestGate (wsV RX6 72 RX6 yX6_holds wsX6_holds) := goodIn_app (goodIn_of _ (by decide +kernel)) ggX6_bestGate_X6_holds
set_option maxRecDepth 20000 in
theorem ggX6_bestGate_X6_best : GoodIn wsX6_bestGate wsX6_best := goodIn_r _ [18, 19, 20, 21, 4, 22, 23, 24, 25, 26, 27, 6, 28, 29, 30, 31, 32, 33, 34, 35, 36, 37, 38, 39, 40, 41, 42, 43, 44, 45, 46, 47, 48, 49, 50, 51, 52, 53, 54, 55, 56, 57, 58, 59, 60, 61, 62] (by decide +kernel) (by decide +kernel)
set_option maxRecDepth 20000 in
theorem gX6_bestGate_X6_best : GoodIn wsX6_bestGate (wsV RX6 183 RX6 yX6_best wsX6_best) := goodIn_app (goodIn_of _ (by decide +kernel)) ggX6_bestGate_X6_best
theorem dX6_bestGate_0 : decode cX6_bestGate 0 = .ok (.aload_n 0, 1) := by decide +kernel
theorem dX6_bestGate_1 : decode cX6_bestGate 1 = .ok (.aload_n 0, 1) := by decide +kernel
theorem dX6_bestGate_2 : decode cX6_bestGate 2 = .ok (.iload_n 1, 1) := by decide +kernel
theorem dX6_bestGate_3 : decode cX6_bestGate 3 = .ok (.invokevirtual 78, 3) := by decide +kernel
theorem dX6_bestGate_6 : decode cX6_bestGate 6 = .ok (.ifCond .eq 7, 3) := by decide +kernel
theorem dX6_bestGate_9 : decode cX6_bestGate 9 = .ok (.iconst 0, 1) := by decide +kernel
theorem dX6_bestGate_10 : decode cX6_bestGate 10 = .ok (.goto 4, 3) := by decide +kernel
theorem dX6_bestGate_13 : decode cX6_bestGate 13 = .ok (.iconst 1, 1) := by decide +kernel
theorem dX6_bestGate_14 : decode cX6_bestGate 14 = .ok (.invokevirtual 72, 3) := by decide +kernel
theorem dX6_bestGate_17 : decode cX6_bestGate 17 = .ok (.ifCond .eq 11, 3) := by decide +kernel
theorem dX6_bestGate_20 : decode cX6_bestGate 20 = .ok (.aload_n 0, 1) := by decide +kernel
theorem dX6_bestGate_21 : decode cX6_bestGate 21 = .ok (.iload_n 1, 1) := by decide +kernel
theorem dX6_bestGate_22 : decode cX6_bestGate 22 = .ok (.invokevirtual 183, 3) := by decide +kernel
theorem dX6_bestGate_25 : decode cX6_bestGate 25 = .ok (.goto 4, 3) := by decide +kernel
theorem dX6_bestGate_28 : decode cX6_bestGate 28 = .ok (.iconst 0, 1) := by decide +kernel
theorem dX6_bestGate_29 : decode cX6_bestGate 29 = .ok (.ireturn, 1) := by decide +kernel
set_option maxRecDepth 20000 in
theorem ggX6_free_X6_worn : GoodIn wsX6_free wsX6_worn := goodIn_r _ [6, 7, 8, 9, 5, 10, 1, 15, 16, 17, 18, 19, 20, 21, 22, 23, 24, 25, 26] (by decide +kernel) (by decide +kernel)
set_option maxRecDepth 20000 in
theorem gX6_free_X6_worn : GoodIn wsX6_free (wsV RX6 56 RX6 yX6_worn wsX6_worn) := goodIn_app (goodIn_of _ (by decide +kernel)) ggX6_free_X6_worn
set_option maxRecDepth 20000 in
theorem ggX6_free_X6_of : GoodIn wsX6_free wsX6_of := goodIn_r _ [10, 1, 15, 16, 17, 18, 19, 20, 21, 22, 23, 24, 25, 26] (by decide +kernel) (by decide +kernel)
set_option maxRecDepth 20000 in
theorem gX6_free_X6_of : GoodIn wsX6_free (wsV RX6 27 RX6 yX6_of wsX6_of) := goodIn_app (goodIn_of _ (by decide +kernel)) ggX6_free_X6_of
set_option maxRecDepth 20000 in
theorem ggX6_free_X6_allowed : GoodIn wsX6_free wsX6_allowed := goodIn_r _ [14, 1, 15, 16, 17, 18, 19, 20, 21, 22, 23, 24, 25, 26] (by decide +kernel) (by decide +kernel)
set_option maxRecDepth 20000 in
theorem gX6_free_X6_allowed : GoodIn wsX6_free (wsV RX6 59 RX6 yX6_allowed wsX6_allowed) := goodIn_app (goodIn_of _ (by decide +kernel)) ggX6_free_X6_allowed
theorem dX6_free_0 : decode cX6_free 0 = .ok (.iconst 0, 1) := by decide +kernel
theorem dX6_free_1 : decode cX6_free 1 = .ok (.istore_n 3, 1) := by decide +kernel
theorem dX6_free_2 : decode cX6_free 2 = .ok (.iload_n 3, 1) := by decide +kernel
theorem dX6_free_3 : decode cX6_free 3 = .ok (.bipush 6, 2) := by decide +kernel
theorem dX6_free_5 : decode cX6_free 5 = .ok (.if_icmp .gt 38, 3) := by decide +kernel
theorem dX6_free_8 : decode cX6_free 8 = .ok (.aload_n 0, 1) := by decide +kernel
theorem dX6_free_9 : decode cX6_free 9 = .ok (.iload_n 1, 1) := by decide +kernel
theorem dX6_free_10 : decode cX6_free 10 = .ok (.invokevirtual 56, 3) := by decide +kernel
theorem dX6_free_13 : decode cX6_free 13 = .ok (.aload_n 0, 1) := by decide +kernel
theorem dX6_free_14 : decode cX6_free 14 = .ok (.iload_n 2, 1) := by decide +kernel
theorem dX6_free_15 : decode cX6_free 15 = .ok (.aload_n 0, 1) := by decide +kernel
theorem dX6_free_16 : decode cX6_free 16 = .ok (.iload_n 1, 1) := by decide +kernel
theorem dX6_free_17 : decode cX6_free 17 = .ok (.iconst 0, 1) := by decide +kernel
theorem dX6_free_18 : decode cX6_free 18 = .ok (.invokevirtual 27, 3) := by decide +kernel
theorem dX6_free_21 : decode cX6_free 21 = .ok (.aload_n 0, 1) := by decide +kernel
theorem dX6_free_22 : decode cX6_free 22 = .ok (.getfield 7, 3) := by decide +kernel
theorem dX6_free_25 : decode cX6_free 25 = .ok (.iconst 0, 1) := by decide +kernel
theorem dX6_free_26 : decode cX6_free 26 = .ok (.iaload, 1) := by decide +kernel
theorem dX6_free_27 : decode cX6_free 27 = .ok (.iload_n 3, 1) := by decide +kernel
theorem dX6_free_28 : decode cX6_free 28 = .ok (.iadd, 1) := by decide +kernel
theorem dX6_free_29 : decode cX6_free 29 = .ok (.invokevirtual 59, 3) := by decide +kernel
theorem dX6_free_32 : decode cX6_free 32 = .ok (.if_icmp .gt 5, 3) := by decide +kernel
theorem dX6_free_35 : decode cX6_free 35 = .ok (.iload_n 3, 1) := by decide +kernel
theorem dX6_free_36 : decode cX6_free 36 = .ok (.ireturn, 1) := by decide +kernel
theorem dX6_free_37 : decode cX6_free 37 = .ok (.iinc 3 1, 3) := by decide +kernel
theorem dX6_free_40 : decode cX6_free 40 = .ok (.goto (-38), 3) := by decide +kernel
theorem dX6_free_43 : decode cX6_free 43 = .ok (.iconst (-1), 1) := by decide +kernel
theorem dX6_free_44 : decode cX6_free 44 = .ok (.ireturn, 1) := by decide +kernel
set_option maxRecDepth 20000 in
theorem ggX6_freeIn_X6_isGuest : GoodIn wsX6_freeIn wsX6_isGuest := goodIn_r _ [5, 6, 7, 8, 4, 9, 34, 35, 36, 37, 38, 39, 40, 41, 42, 43, 44, 45] (by decide +kernel) (by decide +kernel)
set_option maxRecDepth 20000 in
theorem gX6_freeIn_X6_isGuest : GoodIn wsX6_freeIn (wsV RX6 78 RX6 yX6_isGuest wsX6_isGuest) := goodIn_app (goodIn_of _ (by decide +kernel)) ggX6_freeIn_X6_isGuest
set_option maxRecDepth 20000 in
theorem ggX6_freeIn_X6_isGate : GoodIn wsX6_freeIn wsX6_isGate := goodIn_r _ [12, 7, 8, 4, 9] (by decide +kernel) (by decide +kernel)
set_option maxRecDepth 20000 in
theorem gX6_freeIn_X6_isGate : GoodIn wsX6_freeIn (va_wsS RX6 102 yX6_isGate wsX6_isGate) := goodIn_app (goodIn_of _ (by decide +kernel)) ggX6_freeIn_X6_isGate
set_option maxRecDepth 20000 in
theorem ggX6_freeIn_X6_holds : GoodIn wsX6_freeIn wsX6_holds := goodIn_r _ [16, 17, 34, 35, 36, 37, 38, 39, 40, 41, 42, 43, 44, 45] (by decide +kernel) (by decide +kernel)
set_option maxRecDepth 20000 in
theorem gX6_freeIn_X6_holds : GoodIn wsX6_freeIn (wsV RX6 72 RX6 yX6_holds wsX6_holds) := goodIn_app (goodIn_of _ (by decide +kernel)) ggX6_freeIn_X6_holds
set_option maxRecDepth 20000 in
theorem ggX6_freeIn_X6_free : GoodIn wsX6_freeIn wsX6_free := goodIn_r _ [21, 6, 22, 23, 24, 4, 25, 26, 27, 28, 29, 30, 31, 32, 33, 34, 35, 36, 37, 38, 39, 40, 41, 42, 43, 44, 45] (by decide +kernel) (by decide +kernel)
set_option maxRecDepth 20000 in
theorem gX6_freeIn_X6_free : GoodIn wsX6_freeIn (wsV RX6 186 RX6 yX6_free wsX6_free) := goodIn_app (goodIn_of _ (by decide +kernel)) ggX6_freeIn_X6_free
theorem dX6_freeIn_0 : decode cX6_freeIn 0 = .ok (.aload_n 0, 1) := by decide +kernel
theorem dX6_freeIn_1 : decode cX6_freeIn 1 = .ok (.aload_n 0, 1) := by decide +kernel
theorem dX6_freeIn_2 : decode cX6_freeIn 2 = .ok (.iload_n 1, 1) := by decide +kernel
theorem dX6_freeIn_3 : decode cX6_freeIn 3 = .ok (.invokevirtual 78, 3) := by decide +kernel
theorem dX6_freeIn_6 : decode cX6_freeIn 6 = .ok (.ifCond .eq 14, 3) := by decide +kernel
theorem dX6_freeIn_9 : decode cX6_freeIn 9 = .ok (.iload_n 2, 1) := by decide +kernel
theorem dX6_freeIn_10 : decode cX6_freeIn 10 = .ok (.invokestatic 102, 3) := by decide +kernel
