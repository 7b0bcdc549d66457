theorem dX9_checkProgram_1 : decode cX9_checkProgram 1 = .ok (.istore_n 2, 1) := by decide +kernel
theorem dX9_checkProgram_2 : decode cX9_checkProgram 2 = .ok (.iload_n 2, 1) := by decide +kernel
theorem dX9_checkProgram_3 : decode cX9_checkProgram 3 = .ok (.aload_n 0, 1) := by decide +kernel
theorem dX9_checkProgram_4 : decode cX9_checkProgram 4 = .ok (.getfield 19, 3) := by decide +kernel
theorem dX9_checkProgram_7 : decode cX9_checkProgram 7 = .ok (.iconst 1, 1) := by decide +kernel
theorem dX9_checkProgram_8 : decode cX9_checkProgram 8 = .ok (.iaload, 1) := by decide +kernel
theorem dX9_checkProgram_9 : decode cX9_checkProgram 9 = .ok (.if_icmp .ge 56, 3) := by decide +kernel
theorem dX9_checkProgram_12 : decode cX9_checkProgram 12 = .ok (.aload_n 0, 1) := by decide +kernel
theorem dX9_checkProgram_13 : decode cX9_checkProgram 13 = .ok (.iconst 1, 1) := by decide +kernel
theorem dX9_checkProgram_14 : decode cX9_checkProgram 14 = .ok (.iload_n 2, 1) := by decide +kernel
theorem dX9_checkProgram_15 : decode cX9_checkProgram 15 = .ok (.iload_n 1, 1) := by decide +kernel
theorem dX9_checkProgram_16 : decode cX9_checkProgram 16 = .ok (.invokevirtual 138, 3) := by decide +kernel
theorem dX9_checkProgram_19 : decode cX9_checkProgram 19 = .ok (.ifCond .eq 40, 3) := by decide +kernel
theorem dX9_checkProgram_22 : decode cX9_checkProgram 22 = .ok (.aload_n 0, 1) := by decide +kernel
theorem dX9_checkProgram_23 : decode cX9_checkProgram 23 = .ok (.iconst 0, 1) := by decide +kernel
theorem dX9_checkProgram_24 : decode cX9_checkProgram 24 = .ok (.aload_n 0, 1) := by decide +kernel
theorem dX9_checkProgram_25 : decode cX9_checkProgram 25 = .ok (.getfield 28, 3) := by decide +kernel
theorem dX9_checkProgram_28 : decode cX9_checkProgram 28 = .ok (.iload_n 2, 1) := by decide +kernel
theorem dX9_checkProgram_29 : decode cX9_checkProgram 29 = .ok (.iaload, 1) := by decide +kernel
theorem dX9_checkProgram_30 : decode cX9_checkProgram 30 = .ok (.iload_n 1, 1) := by decide +kernel
theorem dX9_checkProgram_31 : decode cX9_checkProgram 31 = .ok (.invokevirtual 141, 3) := by decide +kernel
theorem dX9_checkProgram_34 : decode cX9_checkProgram 34 = .ok (.ifCond .eq 25, 3) := by decide +kernel
theorem dX9_checkProgram_37 : decode cX9_checkProgram 37 = .ok (.aload_n 0, 1) := by decide +kernel
theorem dX9_checkProgram_38 : decode cX9_checkProgram 38 = .ok (.iconst 0, 1) := by decide +kernel
theorem dX9_checkProgram_39 : decode cX9_checkProgram 39 = .ok (.aload_n 0, 1) := by decide +kernel
theorem dX9_checkProgram_40 : decode cX9_checkProgram 40 = .ok (.getfield 31, 3) := by decide +kernel
theorem dX9_checkProgram_43 : decode cX9_checkProgram 43 = .ok (.iload_n 2, 1) := by decide +kernel
theorem dX9_checkProgram_44 : decode cX9_checkProgram 44 = .ok (.iaload, 1) := by decide +kernel
theorem dX9_checkProgram_45 : decode cX9_checkProgram 45 = .ok (.iload_n 1, 1) := by decide +kernel
theorem dX9_checkProgram_46 : decode cX9_checkProgram 46 = .ok (.invokevirtual 141, 3) := by decide +kernel
theorem dX9_checkProgram_49 : decode cX9_checkProgram 49 = .ok (.ifCond .ne 10, 3) := by decide +kernel
theorem dX9_checkProgram_52 : decode cX9_checkProgram 52 = .ok (.aload_n 0, 1) := by decide +kernel
theorem dX9_checkProgram_53 : decode cX9_checkProgram 53 = .ok (.iconst 1, 1) := by decide +kernel
theorem dX9_checkProgram_54 : decode cX9_checkProgram 54 = .ok (.iload_n 2, 1) := by decide +kernel
theorem dX9_checkProgram_55 : decode cX9_checkProgram 55 = .ok (.iload_n 1, 1) := by decide +kernel
theorem dX9_checkProgram_56 : decode cX9_checkProgram 56 = .ok (.invokevirtual 151, 3) := by decide +kernel
theorem dX9_checkProgram_59 : decode cX9_checkProgram 59 = .ok (.iinc 2 1, 3) := by decide +kernel
theorem dX9_checkProgram_62 : decode cX9_checkProgram 62 = .ok (.goto (-60), 3) := by decide +kernel
theorem dX9_checkProgram_65 : decode cX9_checkProgram 65 = .ok (.iconst 0, 1) := by decide +kernel
theorem dX9_checkProgram_66 : decode cX9_checkProgram 66 = .ok (.istore_n 2, 1) := by decide +kernel
theorem dX9_checkProgram_67 : decode cX9_checkProgram 67 = .ok (.iload_n 2, 1) := by decide +kernel
theorem dX9_checkProgram_68 : decode cX9_checkProgram 68 = .ok (.aload_n 0, 1) := by decide +kernel
theorem dX9_checkProgram_69 : decode cX9_checkProgram 69 = .ok (.getfield 19, 3) := by decide +kernel
theorem dX9_checkProgram_72 : decode cX9_checkProgram 72 = .ok (.iconst 0, 1) := by decide +kernel
theorem dX9_checkProgram_73 : decode cX9_checkProgram 73 = .ok (.iaload, 1) := by decide +kernel
theorem dX9_checkProgram_74 : decode cX9_checkProgram 74 = .ok (.if_icmp .ge 103, 3) := by decide +kernel
theorem dX9_checkProgram_77 : decode cX9_checkProgram 77 = .ok (.aload_n 0, 1) := by decide +kernel
theorem dX9_checkProgram_78 : decode cX9_checkProgram 78 = .ok (.iconst 0, 1) := by decide +kernel
theorem dX9_checkProgram_79 : decode cX9_checkProgram 79 = .ok (.iload_n 2, 1) := by decide +kernel
theorem dX9_checkProgram_80 : decode cX9_checkProgram 80 = .ok (.iload_n 1, 1) := by decide +kernel
theorem dX9_checkProgram_81 : decode cX9_checkProgram 81 = .ok (.invokevirtual 141, 3) := by decide +kernel
theorem dX9_checkProgram_84 : decode cX9_checkProgram 84 = .ok (.ifCond .ne 6, 3) := by decide +kernel
theorem dX9_checkProgram_87 : decode cX9_checkProgram 87 = .ok (.goto 84, 3) := by decide +kernel
theorem dX9_checkProgram_90 : decode cX9_checkProgram 90 = .ok (.iconst 0, 1) := by decide +kernel
theorem dX9_checkProgram_91 : decode cX9_checkProgram 91 = .ok (.istore_n 3, 1) := by decide +kernel
theorem dX9_checkProgram_92 : decode cX9_checkProgram 92 = .ok (.iconst 0, 1) := by decide +kernel
theorem dX9_checkProgram_93 : decode cX9_checkProgram 93 = .ok (.istore 4, 2) := by decide +kernel
theorem dX9_checkProgram_95 : decode cX9_checkProgram 95 = .ok (.iload 4, 2) := by decide +kernel
theorem dX9_checkProgram_97 : decode cX9_checkProgram 97 = .ok (.aload_n 0, 1) := by decide +kernel
theorem dX9_checkProgram_98 : decode cX9_checkProgram 98 = .ok (.getfield 19, 3) := by decide +kernel
theorem dX9_checkProgram_101 : decode cX9_checkProgram 101 = .ok (.iconst 1, 1) := by decide +kernel
theorem dX9_checkProgram_102 : decode cX9_checkProgram 102 = .ok (.iaload, 1) := by decide +kernel
theorem dX9_checkProgram_103 : decode cX9_checkProgram 103 = .ok (.if_icmp .ge 39, 3) := by decide +kernel
theorem dX9_checkProgram_106 : decode cX9_checkProgram 106 = .ok (.iload_n 3, 1) := by decide +kernel
theorem dX9_checkProgram_107 : decode cX9_checkProgram 107 = .ok (.aload_n 0, 1) := by decide +kernel
theorem dX9_checkProgram_108 : decode cX9_checkProgram 108 = .ok (.getfield 28, 3) := by decide +kernel
theorem dX9_checkProgram_111 : decode cX9_checkProgram 111 = .ok (.iload 4, 2) := by decide +kernel
theorem dX9_checkProgram_113 : decode cX9_checkProgram 113 = .ok (.iaload, 1) := by decide +kernel
theorem dX9_checkProgram_114 : decode cX9_checkProgram 114 = .ok (.iload_n 2, 1) := by decide +kernel
theorem dX9_checkProgram_115 : decode cX9_checkProgram 115 = .ok (.if_icmp .ne 18, 3) := by decide +kernel
theorem dX9_checkProgram_118 : decode cX9_checkProgram 118 = .ok (.aload_n 0, 1) := by decide +kernel
theorem dX9_checkProgram_119 : decode cX9_checkProgram 119 = .ok (.iconst 1, 1) := by decide +kernel
theorem dX9_checkProgram_120 : decode cX9_checkProgram 120 = .ok (.iload 4, 2) := by decide +kernel
theorem dX9_checkProgram_122 : decode cX9_checkProgram 122 = .ok (.iload_n 1, 1) := by decide +kernel
theorem dX9_checkProgram_123 : decode cX9_checkProgram 123 = .ok (.invokevirtual 141, 3) := by decide +kernel
theorem dX9_checkProgram_126 : decode cX9_checkProgram 126 = .ok (.ifCond .eq 7, 3) := by decide +kernel
theorem dX9_checkProgram_129 : decode cX9_checkProgram 129 = .ok (.iconst 1, 1) := by decide +kernel
theorem dX9_checkProgram_130 : decode cX9_checkProgram 130 = .ok (.goto 4, 3) := by decide +kernel
theorem dX9_checkProgram_133 : decode cX9_checkProgram 133 = .ok (.iconst 0, 1) := by decide +kernel
theorem dX9_checkProgram_134 : decode cX9_checkProgram 134 = .ok (.iadd, 1) := by decide +kernel
theorem dX9_checkProgram_135 : decode cX9_checkProgram 135 = .ok (.istore_n 3, 1) := by decide +kernel
theorem dX9_checkProgram_136 : decode cX9_checkProgram 136 = .ok (.iinc 4 1, 3) := by decide +kernel
theorem dX9_checkProgram_139 : decode cX9_checkProgram 139 = .ok (.goto (-44), 3) := by decide +kernel
theorem dX9_checkProgram_142 : decode cX9_checkProgram 142 = .ok (.iload_n 3, 1) := by decide +kernel
theorem dX9_checkProgram_143 : decode cX9_checkProgram 143 = .ok (.iconst 1, 1) := by decide +kernel
theorem dX9_checkProgram_144 : decode cX9_checkProgram 144 = .ok (.if_icmp .le 10, 3) := by decide +kernel
theorem dX9_checkProgram_147 : decode cX9_checkProgram 147 = .ok (.aload_n 0, 1) := by decide +kernel
theorem dX9_checkProgram_148 : decode cX9_checkProgram 148 = .ok (.iconst 2, 1) := by decide +kernel
theorem dX9_checkProgram_149 : decode cX9_checkProgram 149 = .ok (.iload_n 2, 1) := by decide +kernel
theorem dX9_checkProgram_150 : decode cX9_checkProgram 150 = .ok (.iload_n 1, 1) := by decide +kernel
theorem dX9_checkProgram_151 : decode cX9_checkProgram 151 = .ok (.invokevirtual 151, 3) := by decide +kernel
theorem dX9_checkProgram_154 : decode cX9_checkProgram 154 = .ok (.aload_n 0, 1) := by decide +kernel
theorem dX9_checkProgram_155 : decode cX9_checkProgram 155 = .ok (.iload_n 2, 1) := by decide +kernel
theorem dX9_checkProgram_156 : decode cX9_checkProgram 156 = .ok (.iload_n 2, 1) := by decide +kernel
theorem dX9_checkProgram_157 : decode cX9_checkProgram 157 = .ok (.iload_n 1, 1) := by decide +kernel
theorem dX9_checkProgram_158 : decode cX9_checkProgram 158 = .ok (.invokevirtual 148, 3) := by decide +kernel
theorem dX9_checkProgram_161 : decode cX9_checkProgram 161 = .ok (.ifCond .eq 10, 3) := by decide +kernel
theorem dX9_checkProgram_164 : decode cX9_checkProgram 164 = .ok (.aload_n 0, 1) := by decide +kernel
theorem dX9_checkProgram_165 : decode cX9_checkProgram 165 = .ok (.iconst 3, 1) := by decide +kernel
theorem dX9_checkProgram_166 : decode cX9_checkProgram 166 = .ok (.iload_n 2, 1) := by decide +kernel
theorem dX9_checkProgram_167 : decode cX9_checkProgram 167 = .ok (.iload_n 1, 1) := by decide +kernel
theorem dX9_checkProgram_168 : decode cX9_checkProgram 168 = .ok (.invokevirtual 151, 3) := by decide +kernel
theorem dX9_checkProgram_171 : decode cX9_checkProgram 171 = .ok (.iinc 2 1, 3) := by decide +kernel
theorem dX9_checkProgram_174 : decode cX9_checkProgram 174 = .ok (.goto (-107), 3) := by decide +kernel
theorem dX9_checkProgram_177 : decode cX9_checkProgram 177 = .ok (.iconst 0, 1) := by decide +kernel
theorem dX9_checkProgram_178 : decode cX9_checkProgram 178 = .ok (.istore_n 2, 1) := by decide +kernel
theorem dX9_checkProgram_179 : decode cX9_checkProgram 179 = .ok (.iload_n 2, 1) := by decide +kernel
theorem dX9_checkProgram_180 : decode cX9_checkProgram 180 = .ok (.aload_n 0, 1) := by decide +kernel
theorem dX9_checkProgram_181 : decode cX9_checkProgram 181 = .ok (.getfield 19, 3) := by decide +kernel
theorem dX9_checkProgram_184 : decode cX9_checkProgram 184 = .ok (.iconst 2, 1) := by decide +kernel
theorem dX9_checkProgram_185 : decode cX9_checkProgram 185 = .ok (.iaload, 1) := by decide +kernel
theorem dX9_checkProgram_186 : decode cX9_checkProgram 186 = .ok (.if_icmp .ge 57, 3) := by decide +kernel
theorem dX9_checkProgram_189 : decode cX9_checkProgram 189 = .ok (.aload_n 0, 1) := by decide +kernel
theorem dX9_checkProgram_190 : decode cX9_checkProgram 190 = .ok (.iconst 2, 1) := by decide +kernel
theorem dX9_checkProgram_191 : decode cX9_checkProgram 191 = .ok (.iload_n 2, 1) := by decide +kernel
theorem dX9_checkProgram_192 : decode cX9_checkProgram 192 = .ok (.iload_n 1, 1) := by decide +kernel
theorem dX9_checkProgram_193 : decode cX9_checkProgram 193 = .ok (.invokevirtual 138, 3) := by decide +kernel
theorem dX9_checkProgram_196 : decode cX9_checkProgram 196 = .ok (.ifCond .eq 25, 3) := by decide +kernel
theorem dX9_checkProgram_199 : decode cX9_checkProgram 199 = .ok (.aload_n 0, 1) := by decide +kernel
theorem dX9_checkProgram_200 : decode cX9_checkProgram 200 = .ok (.iconst 0, 1) := by decide +kernel
theorem dX9_checkProgram_201 : decode cX9_checkProgram 201 = .ok (.aload_n 0, 1) := by decide +kernel
theorem dX9_checkProgram_202 : decode cX9_checkProgram 202 = .ok (.getfield 38, 3) := by decide +kernel
theorem dX9_checkProgram_205 : decode cX9_checkProgram 205 = .ok (.iload_n 2, 1) := by decide +kernel
theorem dX9_checkProgram_206 : decode cX9_checkProgram 206 = .ok (.iaload, 1) := by decide +kernel
theorem dX9_checkProgram_207 : decode cX9_checkProgram 207 = .ok (.iload_n 1, 1) := by decide +kernel
theorem dX9_checkProgram_208 : decode cX9_checkProgram 208 = .ok (.invokevirtual 141, 3) := by decide +kernel
theorem dX9_checkProgram_211 : decode cX9_checkProgram 211 = .ok (.ifCond .ne 10, 3) := by decide +kernel
theorem dX9_checkProgram_214 : decode cX9_checkProgram 214 = .ok (.aload_n 0, 1) := by decide +kernel
theorem dX9_checkProgram_215 : decode cX9_checkProgram 215 = .ok (.iconst 4, 1) := by decide +kernel
theorem dX9_checkProgram_216 : decode cX9_checkProgram 216 = .ok (.iload_n 2, 1) := by decide +kernel
theorem dX9_checkProgram_217 : decode cX9_checkProgram 217 = .ok (.iload_n 1, 1) := by decide +kernel
theorem dX9_checkProgram_218 : decode cX9_checkProgram 218 = .ok (.invokevirtual 151, 3) := by decide +kernel
theorem dX9_checkProgram_221 : decode cX9_checkProgram 221 = .ok (.aload_n 0, 1) := by decide +kernel
theorem dX9_checkProgram_222 : decode cX9_checkProgram 222 = .ok (.iconst 2, 1) := by decide +kernel
theorem dX9_checkProgram_223 : decode cX9_checkProgram 223 = .ok (.iload_n 2, 1) := by decide +kernel
theorem dX9_checkProgram_224 : decode cX9_checkProgram 224 = .ok (.iload_n 1, 1) := by decide +kernel
theorem dX9_checkProgram_225 : decode cX9_checkProgram 225 = .ok (.invokevirtual 141, 3) := by decide +kernel
theorem dX9_checkProgram_228 : decode cX9_checkProgram 228 = .ok (.ifCond .eq 9, 3) := by decide +kernel
theorem dX9_checkProgram_231 : decode cX9_checkProgram 231 = .ok (.aload_n 0, 1) := by decide +kernel
theorem dX9_checkProgram_232 : decode cX9_checkProgram 232 = .ok (.iload_n 2, 1) := by decide +kernel
theorem dX9_checkProgram_233 : decode cX9_checkProgram 233 = .ok (.iload_n 1, 1) := by decide +kernel
theorem dX9_checkProgram_234 : decode cX9_checkProgram 234 = .ok (.invokevirtual 168, 3) := by decide +kernel
theorem dX9_checkProgram_237 : decode cX9_checkProgram 237 = .ok (.iinc 2 1, 3) := by decide +kernel
theorem dX9_checkProgram_240 : decode cX9_checkProgram 240 = .ok (.goto (-61), 3) := by decide +kernel
theorem dX9_checkProgram_243 : decode cX9_checkProgram 243 = .ok (.return_, 1) := by decide +kernel
set_option maxRecDepth 20000 in
theorem ggX9_isGone_X9_is : GoodIn wsX9_isGone wsX9_is := goodIn_r _ [5, 6, 7, 8, 9, 10, 11, 12, 13, 4, 14, 15, 16, 1, 2, 3, 17, 18, 19, 20, 21, 22, 23, 24, 25, 26, 27, 28, 29, 30, 31, 32, 33, 34, 35, 36, 37, 38, 39, 40] (by decide +kernel) (by decide +kernel)
set_option maxRecDepth 20000 in
theorem gX9_isGone_X9_is : GoodIn wsX9_isGone (wsV RX9 141 RX9 yX9_is wsX9_is) := goodIn_app (goodIn_of _ (by decide +kernel)) ggX9_isGone_X9_is
theorem dX9_isGone_0 : decode cX9_isGone 0 = .ok (.iload_n 1, 1) := by decide +kernel
theorem dX9_isGone_1 : decode cX9_isGone 1 = .ok (.iconst (-1), 1) := by decide +kernel
theorem dX9_isGone_2 : decode cX9_isGone 2 = .ok (.if_icmp .eq 23, 3) := by decide +kernel
theorem dX9_isGone_5 : decode cX9_isGone 5 = .ok (.iload_n 1, 1) := by decide +kernel
theorem dX9_isGone_6 : decode cX9_isGone 6 = .ok (.bipush 8, 2) := by decide +kernel
theorem dX9_isGone_8 : decode cX9_isGone 8 = .ok (.if_icmp .eq 17, 3) := by decide +kernel
theorem dX9_isGone_11 : decode cX9_isGone 11 = .ok (.aload_n 0, 1) := by decide +kernel
theorem dX9_isGone_12 : decode cX9_isGone 12 = .ok (.iconst 0, 1) := by decide +kernel
theorem dX9_isGone_13 : decode cX9_isGone 13 = .ok (.iload_n 1, 1) := by decide +kernel
theorem dX9_isGone_14 : decode cX9_isGone 14 = .ok (.iload_n 2, 1) := by decide +kernel
theorem dX9_isGone_15 : decode cX9_isGone 15 = .ok (.invokevirtual 141, 3) := by decide +kernel
theorem dX9_isGone_18 : decode cX9_isGone 18 = .ok (.ifCond .ne 7, 3) := by decide +kernel
theorem dX9_isGone_21 : decode cX9_isGone 21 = .ok (.iconst 1, 1) := by decide +kernel
theorem dX9_isGone_22 : decode cX9_isGone 22 = .ok (.goto 4, 3) := by decide +kernel
theorem dX9_isGone_25 : decode cX9_isGone 25 = .ok (.iconst 0, 1) := by decide +kernel
theorem dX9_isGone_26 : decode cX9_isGone 26 = .ok (.ireturn, 1) := by decide +kernel
set_option maxRecDepth 20000 in
theorem ggX9_checkMember_X9_isGone : GoodIn wsX9_checkMember wsX9_isGone := goodIn_r _ [10, 11, 12, 13, 9, 14, 15, 16, 4, 17, 18, 19, 20, 21, 22, 23, 24, 50, 51, 52, 53, 54, 55, 56, 57, 58, 59, 60, 61, 62, 63, 64, 65, 66, 67, 68, 69, 70, 71, 72, 73] (by decide +kernel) (by decide +kernel)
set_option maxRecDepth 20000 in
theorem gX9_checkMember_X9_isGone : GoodIn wsX9_checkMember (wsV RX9 172 RX9 yX9_isGone wsX9_isGone) := goodIn_app (goodIn_of _ (by decide +kernel)) ggX9_checkMember_X9_isGone
set_option maxRecDepth 20000 in
theorem ggX9_checkMember_X9_note : GoodIn wsX9_checkMember wsX9_note := goodIn_r _ [28, 29, 50, 51, 52, 53, 54, 55, 56, 57, 58, 59, 60, 61, 62, 63, 64, 65, 66, 67, 68, 69, 70, 71, 72, 73] (by decide +kernel) (by decide +kernel)
set_option maxRecDepth 20000 in
theorem gX9_checkMember_X9_note : GoodIn wsX9_checkMember (wsV RX9 151 RX9 yX9_note wsX9_note) := goodIn_app (goodIn_of _ (by decide +kernel)) ggX9_checkMember_X9_note
set_option maxRecDepth 20000 in
theorem ggX9_checkMember_X9_is : GoodIn wsX9_checkMember wsX9_is := goodIn_r _ [14, 15, 16, 4, 17, 18, 19, 20, 21, 9, 22, 23, 24, 11, 12, 13, 50, 51, 52, 53, 54, 55, 56, 57, 58, 59, 60, 61, 62, 63, 64, 65, 66, 67, 68, 69, 70, 71, 72, 73] (by decide +kernel) (by decide +kernel)
set_option maxRecDepth 20000 in
theorem gX9_checkMember_X9_is : GoodIn wsX9_checkMember (wsV RX9 141 RX9 yX9_is wsX9_is) := goodIn_app (goodIn_of _ (by decide +kernel)) ggX9_checkMember_X9_is
set_option maxRecDepth 20000 in
theorem ggX9_checkMember_X9_parentOf : GoodIn wsX9_checkMember wsX9_parentOf := goodIn_r _ [33, 34, 15, 16, 11, 12, 13, 9, 14, 4, 17, 18, 19, 20, 21, 22, 23, 24, 50, 51, 52, 53, 54, 55, 56, 57, 58, 59, 60, 61, 62, 63, 64, 65, 66, 67, 68, 69, 70, 71, 72, 73] (by decide +kernel) (by decide +kernel)
set_option maxRecDepth 20000 in
theorem gX9_checkMember_X9_parentOf : GoodIn wsX9_checkMember (wsV RX9 144 RX9 yX9_parentOf wsX9_parentOf) := goodIn_app (goodIn_of _ (by decide +kernel)) ggX9_checkMember_X9_parentOf
set_option maxRecDepth 20000 in
theorem ggX9_checkMember_X9_findMember : GoodIn wsX9_checkMember wsX9_findMember := goodIn_r _ [38, 34, 4, 5, 3, 39, 40, 9, 41, 11, 12, 13, 14, 15, 16, 17, 18, 19, 20, 21, 22, 23, 24, 30, 31, 32, 33, 50, 51, 52, 53, 54, 55, 56, 57, 58, 59, 60, 61, 62, 63, 64, 65, 66, 67, 68, 69, 70, 71, 72, 73] (by decide +kernel) (by decide +kernel)
set_option maxRecDepth 20000 in
theorem gX9_checkMember_X9_findMember : GoodIn wsX9_checkMember (wsV RX9 158 RX9 yX9_findMember wsX9_findMember) := goodIn_app (goodIn_of _ (by decide +kernel)) ggX9_checkMember_X9_findMember
set_option maxRecDepth 20000 in
theorem ggX9_checkMember_X9_fits : GoodIn wsX9_checkMember wsX9_fits := goodIn_r _ [45, 46, 47, 48, 9, 49, 30, 31, 32, 33, 34, 15, 16, 11, 12, 13, 14, 4, 17, 18, 19, 20, 21, 22, 23, 24, 50, 51, 52, 53, 54, 55, 56, 57, 58, 59, 60, 61, 62, 63, 64, 65, 66, 67, 68, 69, 70, 71, 72, 73] (by decide +kernel) (by decide +kernel)
set_option maxRecDepth 20000 in
theorem gX9_checkMember_X9_fits : GoodIn wsX9_checkMember (wsV RX9 165 RX9 yX9_fits wsX9_fits) := goodIn_app (goodIn_of _ (by decide +kernel)) ggX9_checkMember_X9_fits
theorem dX9_checkMember_0 : decode cX9_checkMember 0 = .ok (.aload_n 0, 1) := by decide +kernel
theorem dX9_checkMember_1 : decode cX9_checkMember 1 = .ok (.aload_n 0, 1) := by decide +kernel
theorem dX9_checkMember_2 : decode cX9_checkMember 2 = .ok (.getfield 44, 3) := by decide +kernel
theorem dX9_checkMember_5 : decode cX9_checkMember 5 = .ok (.iload_n 1, 1) := by decide +kernel
theorem dX9_checkMember_6 : decode cX9_checkMember 6 = .ok (.iaload, 1) := by decide +kernel
theorem dX9_checkMember_7 : decode cX9_checkMember 7 = .ok (.iload_n 2, 1) := by decide +kernel
theorem dX9_checkMember_8 : decode cX9_checkMember 8 = .ok (.invokevirtual 172, 3) := by decide +kernel
theorem dX9_checkMember_11 : decode cX9_checkMember 11 = .ok (.ifCond .ne 37, 3) := by decide +kernel
theorem dX9_checkMember_14 : decode cX9_checkMember 14 = .ok (.aload_n 0, 1) := by decide +kernel
theorem dX9_checkMember_15 : decode cX9_checkMember 15 = .ok (.aload_n 0, 1) := by decide +kernel
theorem dX9_checkMember_16 : decode cX9_checkMember 16 = .ok (.getfield 47, 3) := by decide +kernel
theorem dX9_checkMember_19 : decode cX9_checkMember 19 = .ok (.iconst 2, 1) := by decide +kernel
theorem dX9_checkMember_20 : decode cX9_checkMember 20 = .ok (.iload_n 1, 1) := by decide +kernel
theorem dX9_checkMember_21 : decode cX9_checkMember 21 = .ok (.imul, 1) := by decide +kernel
theorem dX9_checkMember_22 : decode cX9_checkMember 22 = .ok (.iaload, 1) := by decide +kernel
theorem dX9_checkMember_23 : decode cX9_checkMember 23 = .ok (.iload_n 2, 1) := by decide +kernel
theorem dX9_checkMember_24 : decode cX9_checkMember 24 = .ok (.invokevirtual 172, 3) := by decide +kernel
theorem dX9_checkMember_27 : decode cX9_checkMember 27 = .ok (.ifCond .ne 21, 3) := by decide +kernel
theorem dX9_checkMember_30 : decode cX9_checkMember 30 = .ok (.aload_n 0, 1) := by decide +kernel
theorem dX9_checkMember_31 : decode cX9_checkMember 31 = .ok (.aload_n 0, 1) := by decide +kernel
theorem dX9_checkMember_32 : decode cX9_checkMember 32 = .ok (.getfield 47, 3) := by decide +kernel
theorem dX9_checkMember_35 : decode cX9_checkMember 35 = .ok (.iconst 2, 1) := by decide +kernel
theorem dX9_checkMember_36 : decode cX9_checkMember 36 = .ok (.iload_n 1, 1) := by decide +kernel
theorem dX9_checkMember_37 : decode cX9_checkMember 37 = .ok (.imul, 1) := by decide +kernel
theorem dX9_checkMember_38 : decode cX9_checkMember 38 = .ok (.iconst 1, 1) := by decide +kernel
theorem dX9_checkMember_39 : decode cX9_checkMember 39 = .ok (.iadd, 1) := by decide +kernel
theorem dX9_checkMember_40 : decode cX9_checkMember 40 = .ok (.iaload, 1) := by decide +kernel
theorem dX9_checkMember_41 : decode cX9_checkMember 41 = .ok (.iload_n 2, 1) := by decide +kernel
theorem dX9_checkMember_42 : decode cX9_checkMember 42 = .ok (.invokevirtual 172, 3) := by decide +kernel
theorem dX9_checkMember_45 : decode cX9_checkMember 45 = .ok (.ifCond .eq 10, 3) := by decide +kernel
theorem dX9_checkMember_48 : decode cX9_checkMember 48 = .ok (.aload_n 0, 1) := by decide +kernel
theorem dX9_checkMember_49 : decode cX9_checkMember 49 = .ok (.iconst 5, 1) := by decide +kernel
theorem dX9_checkMember_50 : decode cX9_checkMember 50 = .ok (.iload_n 1, 1) := by decide +kernel
theorem dX9_checkMember_51 : decode cX9_checkMember 51 = .ok (.iload_n 2, 1) := by decide +kernel
theorem dX9_checkMember_52 : decode cX9_checkMember 52 = .ok (.invokevirtual 151, 3) := by decide +kernel
theorem dX9_checkMember_55 : decode cX9_checkMember 55 = .ok (.iconst 0, 1) := by decide +kernel
theorem dX9_checkMember_56 : decode cX9_checkMember 56 = .ok (.istore_n 3, 1) := by decide +kernel
theorem dX9_checkMember_57 : decode cX9_checkMember 57 = .ok (.iload_n 3, 1) := by decide +kernel
theorem dX9_checkMember_58 : decode cX9_checkMember 58 = .ok (.iload_n 1, 1) := by decide +kernel
theorem dX9_checkMember_59 : decode cX9_checkMember 59 = .ok (.if_icmp .ge 72, 3) := by decide +kernel
theorem dX9_checkMember_62 : decode cX9_checkMember 62 = .ok (.aload_n 0, 1) := by decide +kernel
theorem dX9_checkMember_63 : decode cX9_checkMember 63 = .ok (.getfield 34, 3) := by decide +kernel
theorem dX9_checkMember_66 : decode cX9_checkMember 66 = .ok (.iload_n 3, 1) := by decide +kernel
theorem dX9_checkMember_67 : decode cX9_checkMember 67 = .ok (.baload, 1) := by decide +kernel
theorem dX9_checkMember_68 : decode cX9_checkMember 68 = .ok (.aload_n 0, 1) := by decide +kernel
theorem dX9_checkMember_69 : decode cX9_checkMember 69 = .ok (.getfield 34, 3) := by decide +kernel
theorem dX9_checkMember_72 : decode cX9_checkMember 72 = .ok (.iload_n 1, 1) := by decide +kernel
theorem dX9_checkMember_73 : decode cX9_checkMember 73 = .ok (.baload, 1) := by decide +kernel
theorem dX9_checkMember_74 : decode cX9_checkMember 74 = .ok (.if_icmp .ne 51, 3) := by decide +kernel
theorem dX9_checkMember_77 : decode cX9_checkMember 77 = .ok (.aload_n 0, 1) := by decide +kernel
theorem dX9_checkMember_78 : decode cX9_checkMember 78 = .ok (.getfield 38, 3) := by decide +kernel
theorem dX9_checkMember_81 : decode cX9_checkMember 81 = .ok (.iload_n 3, 1) := by decide +kernel
theorem dX9_checkMember_82 : decode cX9_checkMember 82 = .ok (.iaload, 1) := by decide +kernel
theorem dX9_checkMember_83 : decode cX9_checkMember 83 = .ok (.aload_n 0, 1) := by decide +kernel
theorem dX9_checkMember_84 : decode cX9_checkMember 84 = .ok (.getfield 38, 3) := by decide +kernel
theorem dX9_checkMember_87 : decode cX9_checkMember 87 = .ok (.iload_n 1, 1) := by decide +kernel
theorem dX9_checkMember_88 : decode cX9_checkMember 88 = .ok (.iaload, 1) := by decide +kernel
theorem dX9_checkMember_89 : decode cX9_checkMember 89 = .ok (.if_icmp .ne 36, 3) := by decide +kernel
theorem dX9_checkMember_92 : decode cX9_checkMember 92 = .ok (.aload_n 0, 1) := by decide +kernel
theorem dX9_checkMember_93 : decode cX9_checkMember 93 = .ok (.getfield 41, 3) := by decide +kernel
theorem dX9_checkMember_96 : decode cX9_checkMember 96 = .ok (.iload_n 3, 1) := by decide +kernel
theorem dX9_checkMember_97 : decode cX9_checkMember 97 = .ok (.iaload, 1) := by decide +kernel
theorem dX9_checkMember_98 : decode cX9_checkMember 98 = .ok (.aload_n 0, 1) := by decide +kernel
theorem dX9_checkMember_99 : decode cX9_checkMember 99 = .ok (.getfield 41, 3) := by decide +kernel
theorem dX9_checkMember_102 : decode cX9_checkMember 102 = .ok (.iload_n 1, 1) := by decide +kernel
theorem dX9_checkMember_103 : decode cX9_checkMember 103 = .ok (.iaload, 1) := by decide +kernel
theorem dX9_checkMember_104 : decode cX9_checkMember 104 = .ok (.if_icmp .ne 21, 3) := by decide +kernel
theorem dX9_checkMember_107 : decode cX9_checkMember 107 = .ok (.aload_n 0, 1) := by decide +kernel
theorem dX9_checkMember_108 : decode cX9_checkMember 108 = .ok (.iconst 2, 1) := by decide +kernel
theorem dX9_checkMember_109 : decode cX9_checkMember 109 = .ok (.iload_n 3, 1) := by decide +kernel
theorem dX9_checkMember_110 : decode cX9_checkMember 110 = .ok (.iload_n 2, 1) := by decide +kernel
theorem dX9_checkMember_111 : decode cX9_checkMember 111 = .ok (.invokevirtual 141, 3) := by decide +kernel
theorem dX9_checkMember_114 : decode cX9_checkMember 114 = .ok (.ifCond .eq 11, 3) := by decide +kernel
theorem dX9_checkMember_117 : decode cX9_checkMember 117 = .ok (.aload_n 0, 1) := by decide +kernel
theorem dX9_checkMember_118 : decode cX9_checkMember 118 = .ok (.bipush 6, 2) := by decide +kernel
theorem dX9_checkMember_120 : decode cX9_checkMember 120 = .ok (.iload_n 1, 1) := by decide +kernel
theorem dX9_checkMember_121 : decode cX9_checkMember 121 = .ok (.iload_n 2, 1) := by decide +kernel
theorem dX9_checkMember_122 : decode cX9_checkMember 122 = .ok (.invokevirtual 151, 3) := by decide +kernel
theorem dX9_checkMember_125 : decode cX9_checkMember 125 = .ok (.iinc 3 1, 3) := by decide +kernel
theorem dX9_checkMember_128 : decode cX9_checkMember 128 = .ok (.goto (-71), 3) := by decide +kernel
theorem dX9_checkMember_131 : decode cX9_checkMember 131 = .ok (.aload_n 0, 1) := by decide +kernel
theorem dX9_checkMember_132 : decode cX9_checkMember 132 = .ok (.aload_n 0, 1) := by decide +kernel
theorem dX9_checkMember_133 : decode cX9_checkMember 133 = .ok (.getfield 38, 3) := by decide +kernel
theorem dX9_checkMember_136 : decode cX9_checkMember 136 = .ok (.iload_n 1, 1) := by decide +kernel
theorem dX9_checkMember_137 : decode cX9_checkMember 137 = .ok (.iaload, 1) := by decide +kernel
theorem dX9_checkMember_138 : decode cX9_checkMember 138 = .ok (.iload_n 2, 1) := by decide +kernel
theorem dX9_checkMember_139 : decode cX9_checkMember 139 = .ok (.invokevirtual 144, 3) := by decide +kernel
theorem dX9_checkMember_142 : decode cX9_checkMember 142 = .ok (.istore_n 3, 1) := by decide +kernel
theorem dX9_checkMember_143 : decode cX9_checkMember 143 = .ok (.aload_n 0, 1) := by decide +kernel
theorem dX9_checkMember_144 : decode cX9_checkMember 144 = .ok (.getfield 34, 3) := by decide +kernel
theorem dX9_checkMember_147 : decode cX9_checkMember 147 = .ok (.iload_n 1, 1) := by decide +kernel
theorem dX9_checkMember_148 : decode cX9_checkMember 148 = .ok (.baload, 1) := by decide +kernel
theorem dX9_checkMember_149 : decode cX9_checkMember 149 = .ok (.ifCond .eq 8, 3) := by decide +kernel
theorem dX9_checkMember_152 : decode cX9_checkMember 152 = .ok (.iload_n 3, 1) := by decide +kernel
theorem dX9_checkMember_153 : decode cX9_checkMember 153 = .ok (.iconst (-1), 1) := by decide +kernel
theorem dX9_checkMember_154 : decode cX9_checkMember 154 = .ok (.if_icmp .ne 4, 3) := by decide +kernel
theorem dX9_checkMember_157 : decode cX9_checkMember 157 = .ok (.return_, 1) := by decide +kernel
theorem dX9_checkMember_158 : decode cX9_checkMember 158 = .ok (.aload_n 0, 1) := by decide +kernel
theorem dX9_checkMember_159 : decode cX9_checkMember 159 = .ok (.iload_n 3, 1) := by decide +kernel
theorem dX9_checkMember_160 : decode cX9_checkMember 160 = .ok (.aload_n 0, 1) := by decide +kernel
theorem dX9_checkMember_161 : decode cX9_checkMember 161 = .ok (.getfield 41, 3) := by decide +kernel
theorem dX9_checkMember_164 : decode cX9_checkMember 164 = .ok (.iload_n 1, 1) := by decide +kernel
theorem dX9_checkMember_165 : decode cX9_checkMember 165 = .ok (.iaload, 1) := by decide +kernel
theorem dX9_checkMember_166 : decode cX9_checkMember 166 = .ok (.iconst 1, 1) := by decide +kernel
theorem dX9_checkMember_167 : decode cX9_checkMember 167 = .ok (.iload_n 2, 1) := by decide +kernel
theorem dX9_checkMember_168 : decode cX9_checkMember 168 = .ok (.invokevirtual 158, 3) := by decide +kernel
theorem dX9_checkMember_171 : decode cX9_checkMember 171 = .ok (.istore 4, 2) := by decide +kernel
theorem dX9_checkMember_173 : decode cX9_checkMember 173 = .ok (.iload 4, 2) := by decide +kernel
theorem dX9_checkMember_175 : decode cX9_checkMember 175 = .ok (.iconst (-1), 1) := by decide +kernel
theorem dX9_checkMember_176 : decode cX9_checkMember 176 = .ok (.if_icmp .eq 9, 3) := by decide +kernel
theorem dX9_checkMember_179 : decode cX9_checkMember 179 = .ok (.iload 4, 2) := by decide +kernel
theorem dX9_checkMember_181 : decode cX9_checkMember 181 = .ok (.iload_n 1, 1) := by decide +kernel
theorem dX9_checkMember_182 : decode cX9_checkMember 182 = .ok (.if_icmp .ne 4, 3) := by decide +kernel
theorem dX9_checkMember_185 : decode cX9_checkMember 185 = .ok (.return_, 1) := by decide +kernel
theorem dX9_checkMember_186 : decode cX9_checkMember 186 = .ok (.aload_n 0, 1) := by decide +kernel
theorem dX9_checkMember_187 : decode cX9_checkMember 187 = .ok (.getfield 47, 3) := by decide +kernel
theorem dX9_checkMember_190 : decode cX9_checkMember 190 = .ok (.iconst 2, 1) := by decide +kernel
theorem dX9_checkMember_191 : decode cX9_checkMember 191 = .ok (.iload_n 1, 1) := by decide +kernel
theorem dX9_checkMember_192 : decode cX9_checkMember 192 = .ok (.imul, 1) := by decide +kernel
theorem dX9_checkMember_193 : decode cX9_checkMember 193 = .ok (.iaload, 1) := by decide +kernel
theorem dX9_checkMember_194 : decode cX9_checkMember 194 = .ok (.aload_n 0, 1) := by decide +kernel
theorem dX9_checkMember_195 : decode cX9_checkMember 195 = .ok (.getfield 47, 3) := by decide +kernel
theorem dX9_checkMember_198 : decode cX9_checkMember 198 = .ok (.iconst 2, 1) := by decide +kernel
theorem dX9_checkMember_199 : decode cX9_checkMember 199 = .ok (.iload 4, 2) := by decide +kernel
theorem dX9_checkMember_201 : decode cX9_checkMember 201 = .ok (.imul, 1) := by decide +kernel
theorem dX9_checkMember_202 : decode cX9_checkMember 202 = .ok (.iaload, 1) := by decide +kernel
theorem dX9_checkMember_203 : decode cX9_checkMember 203 = .ok (.if_icmp .ne 31, 3) := by decide +kernel
theorem dX9_checkMember_206 : decode cX9_checkMember 206 = .ok (.aload_n 0, 1) := by decide +kernel
theorem dX9_checkMember_207 : decode cX9_checkMember 207 = .ok (.getfield 47, 3) := by decide +kernel
theorem dX9_checkMember_210 : decode cX9_checkMember 210 = .ok (.iconst 2, 1) := by decide +kernel
theorem dX9_checkMember_211 : decode cX9_checkMember 211 = .ok (.iload_n 1, 1) := by decide +kernel
theorem dX9_checkMember_212 : decode cX9_checkMember 212 = .ok (.imul, 1) := by decide +kernel
theorem dX9_checkMember_213 : decode cX9_checkMember 213 = .ok (.iconst 1, 1) := by decide +kernel
theorem dX9_checkMember_214 : decode cX9_checkMember 214 = .ok (.iadd, 1) := by decide +kernel
theorem dX9_checkMember_215 : decode cX9_checkMember 215 = .ok (.iaload, 1) := by decide +kernel
theorem dX9_checkMember_216 : decode cX9_checkMember 216 = .ok (.aload_n 0, 1) := by decide +kernel
theorem dX9_checkMember_217 : decode cX9_checkMember 217 = .ok (.getfield 47, 3) := by decide +kernel
theorem dX9_checkMember_220 : decode cX9_checkMember 220 = .ok (.iconst 2, 1) := by decide +kernel
theorem dX9_checkMember_221 : decode cX9_checkMember 221 = .ok (.iload 4, 2) := by decide +kernel
theorem dX9_checkMember_223 : decode cX9_checkMember 223 = .ok (.imul, 1) := by decide +kernel
theorem dX9_checkMember_224 : decode cX9_checkMember 224 = .ok (.iconst 1, 1) := by decide +kernel
theorem dX9_checkMember_225 : decode cX9_checkMember 225 = .ok (.iadd, 1) := by decide +kernel
theorem dX9_checkMember_226 : decode cX9_checkMember 226 = .ok (.iaload, 1) := by decide +kernel
theorem dX9_checkMember_227 : decode cX9_checkMember 227 = .ok (.if_icmp .ne 7, 3) := by decide +kernel
theorem dX9_checkMember_230 : decode cX9_checkMember 230 = .ok (.iconst 1, 1) := by decide +kernel
theorem dX9_checkMember_231 : decode cX9_checkMember 231 = .ok (.goto 4, 3) := by decide +kernel
theorem dX9_checkMember_234 : decode cX9_checkMember 234 = .ok (.iconst 0, 1) := by decide +kernel
theorem dX9_checkMember_235 : decode cX9_checkMember 235 = .ok (.istore 5, 2) := by decide +kernel
theorem dX9_checkMember_237 : decode cX9_checkMember 237 = .ok (.iload 5, 2) := by decide +kernel
theorem dX9_checkMember_239 : decode cX9_checkMember 239 = .ok (.ifCond .eq 24, 3) := by decide +kernel
theorem dX9_checkMember_242 : decode cX9_checkMember 242 = .ok (.aload_n 0, 1) := by decide +kernel
theorem dX9_checkMember_243 : decode cX9_checkMember 243 = .ok (.aload_n 0, 1) := by decide +kernel
theorem dX9_checkMember_244 : decode cX9_checkMember 244 = .ok (.getfield 44, 3) := by decide +kernel
theorem dX9_checkMember_247 : decode cX9_checkMember 247 = .ok (.iload_n 1, 1) := by decide +kernel
theorem dX9_checkMember_248 : decode cX9_checkMember 248 = .ok (.iaload, 1) := by decide +kernel
theorem dX9_checkMember_249 : decode cX9_checkMember 249 = .ok (.aload_n 0, 1) := by decide +kernel
theorem dX9_checkMember_250 : decode cX9_checkMember 250 = .ok (.getfield 44, 3) := by decide +kernel
theorem dX9_checkMember_253 : decode cX9_checkMember 253 = .ok (.iload 4, 2) := by decide +kernel
theorem dX9_checkMember_255 : decode cX9_checkMember 255 = .ok (.iaload, 1) := by decide +kernel
theorem dX9_checkMember_256 : decode cX9_checkMember 256 = .ok (.iload_n 2, 1) := by decide +kernel
theorem dX9_checkMember_257 : decode cX9_checkMember 257 = .ok (.invokevirtual 165, 3) := by decide +kernel
theorem dX9_checkMember_260 : decode cX9_checkMember 260 = .ok (.ifCond .ne 11, 3) := by decide +kernel
theorem dX9_checkMember_263 : decode cX9_checkMember 263 = .ok (.aload_n 0, 1) := by decide +kernel
theorem dX9_checkMember_264 : decode cX9_checkMember 264 = .ok (.bipush 7, 2) := by decide +kernel
theorem dX9_checkMember_266 : decode cX9_checkMember 266 = .ok (.iload_n 1, 1) := by decide +kernel
theorem dX9_checkMember_267 : decode cX9_checkMember 267 = .ok (.iload_n 2, 1) := by decide +kernel
theorem dX9_checkMember_268 : decode cX9_checkMember 268 = .ok (.invokevirtual 151, 3) := by decide +kernel
theorem dX9_checkMember_271 : decode cX9_checkMember 271 = .ok (.return_, 1) := by decide +kernel
set_option maxRecDepth 20000 in
theorem ggX9_know_X9_isProduct : GoodIn wsX9_know wsX9_isProduct := goodIn_r _ [13, 14, 15, 16, 17, 18, 19, 12, 20, 21, 22, 23, 87, 88, 89, 90, 91, 92, 93, 94, 95, 96, 97, 98, 99, 100, 101, 102, 103, 104, 105, 106, 107, 108, 109, 110] (by decide +kernel) (by decide +kernel)
set_option maxRecDepth 20000 in
theorem gX9_know_X9_isProduct : GoodIn wsX9_know (wsV RX9 100 RX9 yX9_isProduct wsX9_isProduct) := goodIn_app (goodIn_of _ (by decide +kernel)) ggX9_know_X9_isProduct
set_option maxRecDepth 20000 in
theorem ggX9_know_X9_checkProgram : GoodIn wsX9_know wsX9_checkProgram := goodIn_r _ [27, 6, 28, 29, 30, 31, 32, 33, 12, 34, 35, 36, 37, 38, 39, 40, 5, 7, 41, 42, 43, 44, 2, 45, 46, 47, 48, 49, 50, 51, 52, 53, 54, 55, 56, 8, 57, 58, 59, 60, 61, 62, 63, 64, 65, 66, 67, 21, 22, 23, 68, 69, 70, 71, 87, 88, 89, 90, 91, 92, 93, 94, 95, 96, 97, 98, 99, 100, 101, 102, 103, 104, 105, 106, 107, 108, 109, 110] (by decide +kernel) (by decide +kernel)
set_option maxRecDepth 20000 in
theorem gX9_know_X9_checkProgram : GoodIn wsX9_know (wsV RX9 175 RX9 yX9_checkProgram wsX9_checkProgram) := goodIn_app (goodIn_of _ (by decide +kernel)) ggX9_know_X9_checkProgram
set_option maxRecDepth 20000 in
theorem ggX9_know_X9_is : GoodIn wsX9_know wsX9_is := goodIn_r _ [40, 28, 29, 30, 5, 7, 31, 32, 33, 12, 34, 35, 36, 37, 38, 39, 87, 88, 89, 90, 91, 92, 93, 94, 95, 96, 97, 98, 99, 100, 101, 102, 103, 104, 105, 106, 107, 108, 109, 110] (by decide +kernel) (by decide +kernel)
set_option maxRecDepth 20000 in
theorem gX9_know_X9_is : GoodIn wsX9_know (wsV RX9 141 RX9 yX9_is wsX9_is) := goodIn_app (goodIn_of _ (by decide +kernel)) ggX9_know_X9_is
set_option maxRecDepth 20000 in
theorem ggX9_know_X9_findType : GoodIn wsX9_know wsX9_findType := goodIn_r _ [75, 5, 76, 77, 30, 57, 78, 8, 37, 38, 39, 12, 40, 28, 29, 7, 31, 32, 33, 34, 35, 36, 41, 42, 43, 44, 2, 79, 80, 81, 82, 4, 64, 65, 66, 67, 6, 59, 58, 21, 22, 23, 49, 50, 51, 52, 83, 84, 85, 86, 68, 69, 70, 71, 45, 46, 47, 48, 87, 88, 89, 90, 91, 92, 93, 94, 95, 96, 97, 98, 99, 100, 101, 102, 103, 104, 105, 106, 107, 108, 109, 110] (by decide +kernel) (by decide +kernel)
set_option maxRecDepth 20000 in
theorem gX9_know_X9_findType : GoodIn wsX9_know (wsV RX9 179 RX9 yX9_findType wsX9_findType) := goodIn_app (goodIn_of _ (by decide +kernel)) ggX9_know_X9_findType
set_option maxRecDepth 20000 in
theorem ggX9_know_X9_typeIn : GoodIn wsX9_know wsX9_typeIn := goodIn_r _ [82, 4, 87, 88, 89, 90, 91, 92, 93, 94, 95, 96, 97, 98, 99, 100, 101, 102, 103, 104, 105, 106, 107, 108, 109, 110] (by decide +kernel) (by decide +kernel)
set_option maxRecDepth 20000 in
theorem gX9_know_X9_typeIn : GoodIn wsX9_know (wsV RX9 155 RX9 yX9_typeIn wsX9_typeIn) := goodIn_app (goodIn_of _ (by decide +kernel)) ggX9_know_X9_typeIn
set_option maxRecDepth 20000 in
theorem ggX9_know_X9_fits : GoodIn wsX9_know wsX9_fits := goodIn_r _ [71, 45, 46, 47, 12, 48, 49, 50, 51, 52, 6, 28, 29, 37, 38, 39, 40, 30, 5, 7, 31, 32, 33, 34, 35, 36, 87, 88, 89, 90, 91, 92, 93, 94, 95, 96, 97, 98, 99, 100, 101, 102, 103, 104, 105, 106, 107, 108, 109, 110] (by decide +kernel) (by decide +kernel)
set_option maxRecDepth 20000 in
theorem gX9_know_X9_fits : GoodIn wsX9_know (wsV RX9 165 RX9 yX9_fits wsX9_fits) := goodIn_app (goodIn_of _ (by decide +kernel)) ggX9_know_X9_fits
set_option maxRecDepth 20000 in
theorem ggX9_know_X9_note : GoodIn wsX9_know wsX9_note := goodIn_r _ [44, 2, 87, 88, 89, 90, 91, 92, 93, 94, 95, 96, 97, 98, 99, 100, 101, 102, 103, 104, 105, 106, 107, 108, 109, 110] (by decide +kernel) (by decide +kernel)
set_option maxRecDepth 20000 in
theorem gX9_know_X9_note : GoodIn wsX9_know (wsV RX9 151 RX9 yX9_note wsX9_note) := goodIn_app (goodIn_of _ (by decide +kernel)) ggX9_know_X9_note
theorem dX9_know_0 : decode cX9_know 0 = .ok (.aload_n 0, 1) := by decide +kernel
theorem dX9_know_1 : decode cX9_know 1 = .ok (.getfield 93, 3) := by decide +kernel
theorem dX9_know_4 : decode cX9_know 4 = .ok (.ifCond .eq 4, 3) := by decide +kernel
theorem dX9_know_7 : decode cX9_know 7 = .ok (.return_, 1) := by decide +kernel
theorem dX9_know_8 : decode cX9_know 8 = .ok (.aload_n 0, 1) := by decide +kernel
theorem dX9_know_9 : decode cX9_know 9 = .ok (.iconst 1, 1) := by decide +kernel
theorem dX9_know_10 : decode cX9_know 10 = .ok (.putfield 93, 3) := by decide +kernel
theorem dX9_know_13 : decode cX9_know 13 = .ok (.iconst 0, 1) := by decide +kernel
theorem dX9_know_14 : decode cX9_know 14 = .ok (.istore_n 1, 1) := by decide +kernel
theorem dX9_know_15 : decode cX9_know 15 = .ok (.iload_n 1, 1) := by decide +kernel
theorem dX9_know_16 : decode cX9_know 16 = .ok (.sipush 650, 3) := by decide +kernel
theorem dX9_know_19 : decode cX9_know 19 = .ok (.if_icmp .ge 16, 3) := by decide +kernel
theorem dX9_know_22 : decode cX9_know 22 = .ok (.aload_n 0, 1) := by decide +kernel
theorem dX9_know_23 : decode cX9_know 23 = .ok (.getfield 68, 3) := by decide +kernel
theorem dX9_know_26 : decode cX9_know 26 = .ok (.iload_n 1, 1) := by decide +kernel
theorem dX9_know_27 : decode cX9_know 27 = .ok (.iconst 0, 1) := by decide +kernel
theorem dX9_know_28 : decode cX9_know 28 = .ok (.iastore, 1) := by decide +kernel
theorem dX9_know_29 : decode cX9_know 29 = .ok (.iinc 1 1, 3) := by decide +kernel
theorem dX9_know_32 : decode cX9_know 32 = .ok (.goto (-17), 3) := by decide +kernel
theorem dX9_know_35 : decode cX9_know 35 = .ok (.iconst 0, 1) := by decide +kernel
theorem dX9_know_36 : decode cX9_know 36 = .ok (.istore_n 1, 1) := by decide +kernel
theorem dX9_know_37 : decode cX9_know 37 = .ok (.iload_n 1, 1) := by decide +kernel
theorem dX9_know_38 : decode cX9_know 38 = .ok (.bipush 16, 2) := by decide +kernel
theorem dX9_know_40 : decode cX9_know 40 = .ok (.if_icmp .ge 155, 3) := by decide +kernel
theorem dX9_know_43 : decode cX9_know 43 = .ok (.aload_n 0, 1) := by decide +kernel
theorem dX9_know_44 : decode cX9_know 44 = .ok (.iload_n 1, 1) := by decide +kernel
theorem dX9_know_45 : decode cX9_know 45 = .ok (.invokevirtual 100, 3) := by decide +kernel
theorem dX9_know_48 : decode cX9_know 48 = .ok (.ifCond .ne 6, 3) := by decide +kernel
theorem dX9_know_51 : decode cX9_know 51 = .ok (.goto 138, 3) := by decide +kernel
theorem dX9_know_54 : decode cX9_know 54 = .ok (.aload_n 0, 1) := by decide +kernel
theorem dX9_know_55 : decode cX9_know 55 = .ok (.iload_n 1, 1) := by decide +kernel
theorem dX9_know_56 : decode cX9_know 56 = .ok (.invokevirtual 175, 3) := by decide +kernel
theorem dX9_know_59 : decode cX9_know 59 = .ok (.iconst 0, 1) := by decide +kernel
theorem dX9_know_60 : decode cX9_know 60 = .ok (.istore_n 2, 1) := by decide +kernel
theorem dX9_know_61 : decode cX9_know 61 = .ok (.iload_n 2, 1) := by decide +kernel
theorem dX9_know_62 : decode cX9_know 62 = .ok (.aload_n 0, 1) := by decide +kernel
theorem dX9_know_63 : decode cX9_know 63 = .ok (.getfield 83, 3) := by decide +kernel
theorem dX9_know_66 : decode cX9_know 66 = .ok (.if_icmp .ge 46, 3) := by decide +kernel
theorem dX9_know_69 : decode cX9_know 69 = .ok (.aload_n 0, 1) := by decide +kernel
theorem dX9_know_70 : decode cX9_know 70 = .ok (.getfield 65, 3) := by decide +kernel
theorem dX9_know_73 : decode cX9_know 73 = .ok (.bipush 50, 2) := by decide +kernel
theorem dX9_know_75 : decode cX9_know 75 = .ok (.iload_n 1, 1) := by decide +kernel
theorem dX9_know_76 : decode cX9_know 76 = .ok (.imul, 1) := by decide +kernel
theorem dX9_know_77 : decode cX9_know 77 = .ok (.iload_n 2, 1) := by decide +kernel
theorem dX9_know_78 : decode cX9_know 78 = .ok (.iadd, 1) := by decide +kernel
theorem dX9_know_79 : decode cX9_know 79 = .ok (.aload_n 0, 1) := by decide +kernel
theorem dX9_know_80 : decode cX9_know 80 = .ok (.iconst 2, 1) := by decide +kernel
theorem dX9_know_81 : decode cX9_know 81 = .ok (.aload_n 0, 1) := by decide +kernel
theorem dX9_know_82 : decode cX9_know 82 = .ok (.getfield 56, 3) := by decide +kernel
theorem dX9_know_85 : decode cX9_know 85 = .ok (.iload_n 2, 1) := by decide +kernel
theorem dX9_know_86 : decode cX9_know 86 = .ok (.iaload, 1) := by decide +kernel
theorem dX9_know_87 : decode cX9_know 87 = .ok (.iload_n 1, 1) := by decide +kernel
theorem dX9_know_88 : decode cX9_know 88 = .ok (.invokevirtual 141, 3) := by decide +kernel
theorem dX9_know_91 : decode cX9_know 91 = .ok (.ifCond .eq 12, 3) := by decide +kernel
theorem dX9_know_94 : decode cX9_know 94 = .ok (.aload_n 0, 1) := by decide +kernel
theorem dX9_know_95 : decode cX9_know 95 = .ok (.iload_n 2, 1) := by decide +kernel
theorem dX9_know_96 : decode cX9_know 96 = .ok (.iload_n 1, 1) := by decide +kernel
theorem dX9_know_97 : decode cX9_know 97 = .ok (.invokevirtual 179, 3) := by decide +kernel
theorem dX9_know_100 : decode cX9_know 100 = .ok (.goto 5, 3) := by decide +kernel
theorem dX9_know_103 : decode cX9_know 103 = .ok (.bipush (-2), 2) := by decide +kernel
theorem dX9_know_105 : decode cX9_know 105 = .ok (.iastore, 1) := by decide +kernel
theorem dX9_know_106 : decode cX9_know 106 = .ok (.iinc 2 1, 3) := by decide +kernel
theorem dX9_know_109 : decode cX9_know 109 = .ok (.goto (-48), 3) := by decide +kernel
theorem dX9_know_112 : decode cX9_know 112 = .ok (.iconst 0, 1) := by decide +kernel
theorem dX9_know_113 : decode cX9_know 113 = .ok (.istore_n 2, 1) := by decide +kernel
theorem dX9_know_114 : decode cX9_know 114 = .ok (.iload_n 2, 1) := by decide +kernel
theorem dX9_know_115 : decode cX9_know 115 = .ok (.aload_n 0, 1) := by decide +kernel
theorem dX9_know_116 : decode cX9_know 116 = .ok (.getfield 19, 3) := by decide +kernel
theorem dX9_know_119 : decode cX9_know 119 = .ok (.iconst 3, 1) := by decide +kernel
theorem dX9_know_120 : decode cX9_know 120 = .ok (.iaload, 1) := by decide +kernel
theorem dX9_know_121 : decode cX9_know 121 = .ok (.if_icmp .ge 68, 3) := by decide +kernel
theorem dX9_know_124 : decode cX9_know 124 = .ok (.aload_n 0, 1) := by decide +kernel
theorem dX9_know_125 : decode cX9_know 125 = .ok (.getfield 50, 3) := by decide +kernel
theorem dX9_know_128 : decode cX9_know 128 = .ok (.iload_n 2, 1) := by decide +kernel
theorem dX9_know_129 : decode cX9_know 129 = .ok (.iaload, 1) := by decide +kernel
theorem dX9_know_130 : decode cX9_know 130 = .ok (.istore_n 3, 1) := by decide +kernel
theorem dX9_know_131 : decode cX9_know 131 = .ok (.aload_n 0, 1) := by decide +kernel
theorem dX9_know_132 : decode cX9_know 132 = .ok (.iconst 3, 1) := by decide +kernel
theorem dX9_know_133 : decode cX9_know 133 = .ok (.iload_n 2, 1) := by decide +kernel
theorem dX9_know_134 : decode cX9_know 134 = .ok (.iload_n 1, 1) := by decide +kernel
theorem dX9_know_135 : decode cX9_know 135 = .ok (.invokevirtual 141, 3) := by decide +kernel
theorem dX9_know_138 : decode cX9_know 138 = .ok (.ifCond .eq 45, 3) := by decide +kernel
theorem dX9_know_141 : decode cX9_know 141 = .ok (.aload_n 0, 1) := by decide +kernel
theorem dX9_know_142 : decode cX9_know 142 = .ok (.iload_n 3, 1) := by decide +kernel
theorem dX9_know_143 : decode cX9_know 143 = .ok (.iload_n 1, 1) := by decide +kernel
theorem dX9_know_144 : decode cX9_know 144 = .ok (.invokevirtual 155, 3) := by decide +kernel
theorem dX9_know_147 : decode cX9_know 147 = .ok (.ifCond .lt 36, 3) := by decide +kernel
theorem dX9_know_150 : decode cX9_know 150 = .ok (.aload_n 0, 1) := by decide +kernel
theorem dX9_know_151 : decode cX9_know 151 = .ok (.aload_n 0, 1) := by decide +kernel
theorem dX9_know_152 : decode cX9_know 152 = .ok (.iload_n 3, 1) := by decide +kernel
theorem dX9_know_153 : decode cX9_know 153 = .ok (.iload_n 1, 1) := by decide +kernel
theorem dX9_know_154 : decode cX9_know 154 = .ok (.invokevirtual 155, 3) := by decide +kernel
theorem dX9_know_157 : decode cX9_know 157 = .ok (.aload_n 0, 1) := by decide +kernel
theorem dX9_know_158 : decode cX9_know 158 = .ok (.getfield 44, 3) := by decide +kernel
theorem dX9_know_161 : decode cX9_know 161 = .ok (.aload_n 0, 1) := by decide +kernel
theorem dX9_know_162 : decode cX9_know 162 = .ok (.getfield 56, 3) := by decide +kernel
theorem dX9_know_165 : decode cX9_know 165 = .ok (.iload_n 3, 1) := by decide +kernel
theorem dX9_know_166 : decode cX9_know 166 = .ok (.iaload, 1) := by decide +kernel
theorem dX9_know_167 : decode cX9_know 167 = .ok (.iaload, 1) := by decide +kernel
theorem dX9_know_168 : decode cX9_know 168 = .ok (.iload_n 1, 1) := by decide +kernel
theorem dX9_know_169 : decode cX9_know 169 = .ok (.invokevirtual 165, 3) := by decide +kernel
theorem dX9_know_172 : decode cX9_know 172 = .ok (.ifCond .ne 11, 3) := by decide +kernel
theorem dX9_know_175 : decode cX9_know 175 = .ok (.aload_n 0, 1) := by decide +kernel
theorem dX9_know_176 : decode cX9_know 176 = .ok (.bipush 12, 2) := by decide +kernel
theorem dX9_know_178 : decode cX9_know 178 = .ok (.iload_n 2, 1) := by decide +kernel
theorem dX9_know_179 : decode cX9_know 179 = .ok (.iload_n 1, 1) := by decide +kernel
theorem dX9_know_180 : decode cX9_know 180 = .ok (.invokevirtual 151, 3) := by decide +kernel
theorem dX9_know_183 : decode cX9_know 183 = .ok (.iinc 2 1, 3) := by decide +kernel
theorem dX9_know_186 : decode cX9_know 186 = .ok (.goto (-72), 3) := by decide +kernel
theorem dX9_know_189 : decode cX9_know 189 = .ok (.iinc 1 1, 3) := by decide +kernel
theorem dX9_know_192 : decode cX9_know 192 = .ok (.goto (-155), 3) := by decide +kernel
theorem dX9_know_195 : decode cX9_know 195 = .ok (.return_, 1) := by decide +kernel
set_option maxRecDepth 20000 in
theorem ggX9_presenceOf_X9_isProduct : GoodIn wsX9_presenceOf wsX9_isProduct := goodIn_r _ [5, 6, 7, 8, 9, 10, 11, 4, 12, 13, 14, 15, 31, 32, 33, 34, 35, 36, 37, 38, 39, 40, 41, 42, 43, 44, 45, 46, 47, 48, 49, 50, 51, 52, 53, 54] (by decide +kernel) (by decide +kernel)
set_option maxRecDepth 20000 in
theorem gX9_presenceOf_X9_isProduct : GoodIn wsX9_presenceOf (wsV RX9 100 RX9 yX9_isProduct wsX9_isProduct) := goodIn_app (goodIn_of _ (by decide +kernel)) ggX9_presenceOf_X9_isProduct
set_option maxRecDepth 20000 in
theorem ggX9_presenceOf_X9_is : GoodIn wsX9_presenceOf wsX9_is := goodIn_r _ [19, 20, 21, 22, 23, 24, 25, 26, 27, 4, 28, 29, 30, 16, 17, 18, 31, 32, 33, 34, 35, 36, 37, 38, 39, 40, 41, 42, 43, 44, 45, 46, 47, 48, 49, 50, 51, 52, 53, 54] (by decide +kernel) (by decide +kernel)
set_option maxRecDepth 20000 in
theorem gX9_presenceOf_X9_is : GoodIn wsX9_presenceOf (wsV RX9 141 RX9 yX9_is wsX9_is) := goodIn_app (goodIn_of _ (by decide +kernel)) ggX9_presenceOf_X9_is
theorem dX9_presenceOf_0 : decode cX9_presenceOf 0 = .ok (.iconst 0, 1) := by decide +kernel
theorem dX9_presenceOf_1 : decode cX9_presenceOf 1 = .ok (.istore_n 3, 1) := by decide +kernel
theorem dX9_presenceOf_2 : decode cX9_presenceOf 2 = .ok (.iconst 0, 1) := by decide +kernel
theorem dX9_presenceOf_3 : decode cX9_presenceOf 3 = .ok (.istore 4, 2) := by decide +kernel
theorem dX9_presenceOf_5 : decode cX9_presenceOf 5 = .ok (.iload 4, 2) := by decide +kernel
theorem dX9_presenceOf_7 : decode cX9_presenceOf 7 = .ok (.bipush 16, 2) := by decide +kernel
theorem dX9_presenceOf_9 : decode cX9_presenceOf 9 = .ok (.if_icmp .ge 36, 3) := by decide +kernel
theorem dX9_presenceOf_12 : decode cX9_presenceOf 12 = .ok (.aload_n 0, 1) := by decide +kernel
theorem dX9_presenceOf_13 : decode cX9_presenceOf 13 = .ok (.iload 4, 2) := by decide +kernel
theorem dX9_presenceOf_15 : decode cX9_presenceOf 15 = .ok (.invokevirtual 100, 3) := by decide +kernel
theorem dX9_presenceOf_18 : decode cX9_presenceOf 18 = .ok (.ifCond .eq 21, 3) := by decide +kernel
theorem dX9_presenceOf_21 : decode cX9_presenceOf 21 = .ok (.aload_n 0, 1) := by decide +kernel
theorem dX9_presenceOf_22 : decode cX9_presenceOf 22 = .ok (.iload_n 1, 1) := by decide +kernel
theorem dX9_presenceOf_23 : decode cX9_presenceOf 23 = .ok (.iload_n 2, 1) := by decide +kernel
theorem dX9_presenceOf_24 : decode cX9_presenceOf 24 = .ok (.iload 4, 2) := by decide +kernel
theorem dX9_presenceOf_26 : decode cX9_presenceOf 26 = .ok (.invokevirtual 141, 3) := by decide +kernel
theorem dX9_presenceOf_29 : decode cX9_presenceOf 29 = .ok (.ifCond .eq 10, 3) := by decide +kernel
theorem dX9_presenceOf_32 : decode cX9_presenceOf 32 = .ok (.iload_n 3, 1) := by decide +kernel
theorem dX9_presenceOf_33 : decode cX9_presenceOf 33 = .ok (.iconst 1, 1) := by decide +kernel
theorem dX9_presenceOf_34 : decode cX9_presenceOf 34 = .ok (.iload 4, 2) := by decide +kernel
theorem dX9_presenceOf_36 : decode cX9_presenceOf 36 = .ok (.ishl, 1) := by decide +kernel
theorem dX9_presenceOf_37 : decode cX9_presenceOf 37 = .ok (.ior, 1) := by decide +kernel
theorem dX9_presenceOf_38 : decode cX9_presenceOf 38 = .ok (.istore_n 3, 1) := by decide +kernel
theorem dX9_presenceOf_39 : decode cX9_presenceOf 39 = .ok (.iinc 4 1, 3) := by decide +kernel
theorem dX9_presenceOf_42 : decode cX9_presenceOf 42 = .ok (.goto (-37), 3) := by decide +kernel
theorem dX9_presenceOf_45 : decode cX9_presenceOf 45 = .ok (.iload_n 3, 1) := by decide +kernel
theorem dX9_presenceOf_46 : decode cX9_presenceOf 46 = .ok (.ireturn, 1) := by decide +kernel
set_option maxRecDepth 20000 in
theorem ggX9_presence_X9_isElement : GoodIn wsX9_presence wsX9_isElement := goodIn_r _ [6, 7, 8, 9, 5, 10, 45, 46, 47, 48, 49, 50, 51, 52, 53, 54, 55, 56, 57, 58, 59, 60, 61, 62, 63, 64, 65, 66, 67, 68] (by decide +kernel) (by decide +kernel)
set_option maxRecDepth 20000 in
theorem gX9_presence_X9_isElement : GoodIn wsX9_presence (wsV RX9 79 RX9 yX9_isElement wsX9_isElement) := goodIn_app (goodIn_of _ (by decide +kernel)) ggX9_presence_X9_isElement
set_option maxRecDepth 20000 in
theorem ggX9_presence_X9_presenceOf : GoodIn wsX9_presence wsX9_presenceOf := goodIn_r _ [14, 15, 16, 17, 5, 18, 19, 20, 21, 22, 8, 9, 10, 23, 24, 25, 26, 27, 28, 29, 30, 31, 32, 33, 34, 35, 36, 37, 38, 39, 40, 45, 46, 47, 48, 49, 50, 51, 52, 53, 54, 55, 56, 57, 58, 59, 60, 61, 62, 63, 64, 65, 66, 67, 68] (by decide +kernel) (by decide +kernel)
set_option maxRecDepth 20000 in
theorem gX9_presence_X9_presenceOf : GoodIn wsX9_presence (wsV RX9 182 RX9 yX9_presenceOf wsX9_presenceOf) := goodIn_app (goodIn_of _ (by decide +kernel)) ggX9_presence_X9_presenceOf
set_option maxRecDepth 20000 in
theorem ggX9_presence_X9_no : GoodIn wsX9_presence wsX9_no := goodIn_r _ [44, 1, 45, 46, 47, 48, 49, 50, 51, 52, 53, 54, 55, 56, 57, 58, 59, 60, 61, 62, 63, 64, 65, 66, 67, 68] (by decide +kernel) (by decide +kernel)
set_option maxRecDepth 20000 in
theorem gX9_presence_X9_no : GoodIn wsX9_presence (wsV RX9 86 RX9 yX9_no wsX9_no) := goodIn_app (goodIn_of _ (by decide +kernel)) ggX9_presence_X9_no
theorem dX9_presence_0 : decode cX9_presence 0 = .ok (.aload_n 0, 1) := by decide +kernel
theorem dX9_presence_1 : decode cX9_presence 1 = .ok (.iconst 0, 1) := by decide +kernel
theorem dX9_presence_2 : decode cX9_presence 2 = .ok (.putfield 71, 3) := by decide +kernel
theorem dX9_presence_5 : decode cX9_presence 5 = .ok (.aload_n 0, 1) := by decide +kernel
theorem dX9_presence_6 : decode cX9_presence 6 = .ok (.iload_n 1, 1) := by decide +kernel
theorem dX9_presence_7 : decode cX9_presence 7 = .ok (.iload_n 2, 1) := by decide +kernel
theorem dX9_presence_8 : decode cX9_presence 8 = .ok (.invokevirtual 79, 3) := by decide +kernel
theorem dX9_presence_11 : decode cX9_presence 11 = .ok (.ifCond .eq 12, 3) := by decide +kernel
theorem dX9_presence_14 : decode cX9_presence 14 = .ok (.aload_n 0, 1) := by decide +kernel
theorem dX9_presence_15 : decode cX9_presence 15 = .ok (.iload_n 1, 1) := by decide +kernel
theorem dX9_presence_16 : decode cX9_presence 16 = .ok (.iload_n 2, 1) := by decide +kernel
theorem dX9_presence_17 : decode cX9_presence 17 = .ok (.invokevirtual 182, 3) := by decide +kernel
theorem dX9_presence_20 : decode cX9_presence 20 = .ok (.goto 8, 3) := by decide +kernel
theorem dX9_presence_23 : decode cX9_presence 23 = .ok (.aload_n 0, 1) := by decide +kernel
theorem dX9_presence_24 : decode cX9_presence 24 = .ok (.iconst 1, 1) := by decide +kernel
theorem dX9_presence_25 : decode cX9_presence 25 = .ok (.invokevirtual 86, 3) := by decide +kernel
theorem dX9_presence_28 : decode cX9_presence 28 = .ok (.ireturn, 1) := by decide +kernel
set_option maxRecDepth 20000 in
theorem ggX9_parent_X9_isElement : GoodIn wsX9_parent wsX9_isElement := goodIn_r _ [6, 7, 8, 9, 5, 10, 45, 46, 47, 48, 49, 50, 51, 52, 53, 54, 55, 56, 57, 58, 59, 60, 61, 62, 63, 64, 65, 66, 67, 68] (by decide +kernel) (by decide +kernel)
set_option maxRecDepth 20000 in
theorem gX9_parent_X9_isElement : GoodIn wsX9_parent (wsV RX9 79 RX9 yX9_isElement wsX9_isElement) := goodIn_app (goodIn_of _ (by decide +kernel)) ggX9_parent_X9_isElement
set_option maxRecDepth 20000 in
theorem ggX9_parent_X9_no : GoodIn wsX9_parent wsX9_no := goodIn_r _ [14, 1, 45, 46, 47, 48, 49, 50, 51, 52, 53, 54, 55, 56, 57, 58, 59, 60, 61, 62, 63, 64, 65, 66, 67, 68] (by decide +kernel) (by decide +kernel)
set_option maxRecDepth 20000 in
theorem gX9_parent_X9_no : GoodIn wsX9_parent (wsV RX9 86 RX9 yX9_no wsX9_no) := goodIn_app (goodIn_of _ (by decide +kernel)) ggX9_parent_X9_no
set_option maxRecDepth 20000 in
theorem ggX9_parent_X9_isProduct : GoodIn wsX9_parent wsX9_isProduct := goodIn_r _ [18, 19, 20, 21, 22, 8, 9, 5, 10, 23, 24, 25, 45, 46, 47, 48, 49, 50, 51, 52, 53, 54, 55, 56, 57, 58, 59, 60, 61, 62, 63, 64, 65, 66, 67, 68] (by decide +kernel) (by decide +kernel)
set_option maxRecDepth 20000 in
theorem gX9_parent_X9_isProduct : GoodIn wsX9_parent (wsV RX9 100 RX9 yX9_isProduct wsX9_isProduct) := goodIn_app (goodIn_of _ (by decide +kernel)) ggX9_parent_X9_isProduct
set_option maxRecDepth 20000 in
theorem ggX9_parent_X9_parentOf : GoodIn wsX9_parent wsX9_parentOf := goodIn_r _ [29, 7, 30, 31, 32, 33, 34, 5, 35, 36, 37, 38, 39, 40, 41, 42, 43, 44, 45, 46, 47, 48, 49, 50, 51, 52, 53, 54, 55, 56, 57, 58, 59, 60, 61, 62, 63, 64, 65, 66, 67, 68] (by decide +kernel) (by decide +kernel)
set_option maxRecDepth 20000 in
theorem gX9_parent_X9_parentOf : GoodIn wsX9_parent (wsV RX9 144 RX9 yX9_parentOf wsX9_parentOf) := goodIn_app (goodIn_of _ (by decide +kernel)) ggX9_parent_X9_parentOf
theorem dX9_parent_0 : decode cX9_parent 0 = .ok (.aload_n 0, 1) := by decide +kernel
theorem dX9_parent_1 : decode cX9_parent 1 = .ok (.iconst 0, 1) := by decide +kernel
theorem dX9_parent_2 : decode cX9_parent 2 = .ok (.putfield 71, 3) := by decide +kernel
theorem dX9_parent_5 : decode cX9_parent 5 = .ok (.aload_n 0, 1) := by decide +kernel
theorem dX9_parent_6 : decode cX9_parent 6 = .ok (.iconst 0, 1) := by decide +kernel
theorem dX9_parent_7 : decode cX9_parent 7 = .ok (.iload_n 1, 1) := by decide +kernel
theorem dX9_parent_8 : decode cX9_parent 8 = .ok (.invokevirtual 79, 3) := by decide +kernel
theorem dX9_parent_11 : decode cX9_parent 11 = .ok (.ifCond .ne 9, 3) := by decide +kernel
theorem dX9_parent_14 : decode cX9_parent 14 = .ok (.aload_n 0, 1) := by decide +kernel
theorem dX9_parent_15 : decode cX9_parent 15 = .ok (.iconst 1, 1) := by decide +kernel
theorem dX9_parent_16 : decode cX9_parent 16 = .ok (.invokevirtual 86, 3) := by decide +kernel
theorem dX9_parent_19 : decode cX9_parent 19 = .ok (.ireturn, 1) := by decide +kernel
theorem dX9_parent_20 : decode cX9_parent 20 = .ok (.aload_n 0, 1) := by decide +kernel
theorem dX9_parent_21 : decode cX9_parent 21 = .ok (.iload_n 2, 1) := by decide +kernel
theorem dX9_parent_22 : decode cX9_parent 22 = .ok (.invokevirtual 100, 3) := by decide +kernel
theorem dX9_parent_25 : decode cX9_parent 25 = .ok (.ifCond .eq 12, 3) := by decide +kernel
theorem dX9_parent_28 : decode cX9_parent 28 = .ok (.aload_n 0, 1) := by decide +kernel
theorem dX9_parent_29 : decode cX9_parent 29 = .ok (.iload_n 1, 1) := by decide +kernel
theorem dX9_parent_30 : decode cX9_parent 30 = .ok (.iload_n 2, 1) := by decide +kernel
theorem dX9_parent_31 : decode cX9_parent 31 = .ok (.invokevirtual 144, 3) := by decide +kernel
theorem dX9_parent_34 : decode cX9_parent 34 = .ok (.goto 8, 3) := by decide +kernel
theorem dX9_parent_37 : decode cX9_parent 37 = .ok (.aload_n 0, 1) := by decide +kernel
theorem dX9_parent_38 : decode cX9_parent 38 = .ok (.iconst 2, 1) := by decide +kernel
theorem dX9_parent_39 : decode cX9_parent 39 = .ok (.invokevirtual 86, 3) := by decide +kernel
theorem dX9_parent_42 : decode cX9_parent 42 = .ok (.ireturn, 1) := by decide +kernel
set_option maxRecDepth 20000 in
theorem ggX9_isBelow_X9_isElement : GoodIn wsX9_isBelow wsX9_isElement := goodIn_r _ [6, 7, 8, 9, 5, 10, 45, 46, 47, 48, 49, 50, 51, 52, 53, 54, 55, 56, 57, 58, 59, 60, 61, 62, 63, 64, 65, 66, 67, 68] (by decide +kernel) (by decide +kernel)
set_option maxRecDepth 20000 in
theorem gX9_isBelow_X9_isElement : GoodIn wsX9_isBelow (wsV RX9 79 RX9 yX9_isElement wsX9_isElement) := goodIn_app (goodIn_of _ (by decide +kernel)) ggX9_isBelow_X9_isElement
set_option maxRecDepth 20000 in
theorem ggX9_isBelow_X9_isProduct : GoodIn wsX9_isBelow wsX9_isProduct := goodIn_r _ [14, 15, 16, 17, 18, 8, 9, 5, 10, 19, 20, 21, 45, 46, 47, 48, 49, 50, 51, 52, 53, 54, 55, 56, 57, 58, 59, 60, 61, 62, 63, 64, 65, 66, 67, 68] (by decide +kernel) (by decide +kernel)
set_option maxRecDepth 20000 in
theorem gX9_isBelow_X9_isProduct : GoodIn wsX9_isBelow (wsV RX9 100 RX9 yX9_isProduct wsX9_isProduct) := goodIn_app (goodIn_of _ (by decide +kernel)) ggX9_isBelow_X9_isProduct
set_option maxRecDepth 20000 in
theorem ggX9_isBelow_X9_below : GoodIn wsX9_isBelow wsX9_below := goodIn_r _ [25, 26, 27, 28, 5, 29, 7, 30, 31, 32, 33, 34, 35, 36, 37, 38, 39, 40, 41, 42, 43, 44, 45, 46, 47, 48, 49, 50, 51, 52, 53, 54, 55, 56, 57, 58, 59, 60, 61, 62, 63, 64, 65, 66, 67, 68] (by decide +kernel) (by decide +kernel)
set_option maxRecDepth 20000 in
theorem gX9_isBelow_X9_below : GoodIn wsX9_isBelow (wsV RX9 148 RX9 yX9_below wsX9_below) := goodIn_app (goodIn_of _ (by decide +kernel)) ggX9_isBelow_X9_below
theorem dX9_isBelow_0 : decode cX9_isBelow 0 = .ok (.aload_n 0, 1) := by decide +kernel
theorem dX9_isBelow_1 : decode cX9_isBelow 1 = .ok (.aload_n 0, 1) := by decide +kernel
theorem dX9_isBelow_2 : decode cX9_isBelow 2 = .ok (.iconst 0, 1) := by decide +kernel
theorem dX9_isBelow_3 : decode cX9_isBelow 3 = .ok (.iload_n 1, 1) := by decide +kernel
theorem dX9_isBelow_4 : decode cX9_isBelow 4 = .ok (.invokevirtual 79, 3) := by decide +kernel
theorem dX9_isBelow_7 : decode cX9_isBelow 7 = .ok (.ifCond .eq 12, 3) := by decide +kernel
theorem dX9_isBelow_10 : decode cX9_isBelow 10 = .ok (.aload_n 0, 1) := by decide +kernel
theorem dX9_isBelow_11 : decode cX9_isBelow 11 = .ok (.iconst 0, 1) := by decide +kernel
theorem dX9_isBelow_12 : decode cX9_isBelow 12 = .ok (.iload_n 2, 1) := by decide +kernel
theorem dX9_isBelow_13 : decode cX9_isBelow 13 = .ok (.invokevirtual 79, 3) := by decide +kernel
theorem dX9_isBelow_16 : decode cX9_isBelow 16 = .ok (.ifCond .ne 7, 3) := by decide +kernel
theorem dX9_isBelow_19 : decode cX9_isBelow 19 = .ok (.iconst 1, 1) := by decide +kernel
theorem dX9_isBelow_20 : decode cX9_isBelow 20 = .ok (.goto 16, 3) := by decide +kernel
theorem dX9_isBelow_23 : decode cX9_isBelow 23 = .ok (.aload_n 0, 1) := by decide +kernel
theorem dX9_isBelow_24 : decode cX9_isBelow 24 = .ok (.iload_n 3, 1) := by decide +kernel
theorem dX9_isBelow_25 : decode cX9_isBelow 25 = .ok (.invokevirtual 100, 3) := by decide +kernel
theorem dX9_isBelow_28 : decode cX9_isBelow 28 = .ok (.ifCond .ne 7, 3) := by decide +kernel
theorem dX9_isBelow_31 : decode cX9_isBelow 31 = .ok (.iconst 2, 1) := by decide +kernel
theorem dX9_isBelow_32 : decode cX9_isBelow 32 = .ok (.goto 4, 3) := by decide +kernel
theorem dX9_isBelow_35 : decode cX9_isBelow 35 = .ok (.iconst 0, 1) := by decide +kernel
theorem dX9_isBelow_36 : decode cX9_isBelow 36 = .ok (.putfield 71, 3) := by decide +kernel
theorem dX9_isBelow_39 : decode cX9_isBelow 39 = .ok (.aload_n 0, 1) := by decide +kernel
theorem dX9_isBelow_40 : decode cX9_isBelow 40 = .ok (.getfield 71, 3) := by decide +kernel
theorem dX9_isBelow_43 : decode cX9_isBelow 43 = .ok (.ifCond .ne 17, 3) := by decide +kernel
theorem dX9_isBelow_46 : decode cX9_isBelow 46 = .ok (.aload_n 0, 1) := by decide +kernel
theorem dX9_isBelow_47 : decode cX9_isBelow 47 = .ok (.iload_n 1, 1) := by decide +kernel
theorem dX9_isBelow_48 : decode cX9_isBelow 48 = .ok (.iload_n 2, 1) := by decide +kernel
theorem dX9_isBelow_49 : decode cX9_isBelow 49 = .ok (.iload_n 3, 1) := by decide +kernel
theorem dX9_isBelow_50 : decode cX9_isBelow 50 = .ok (.invokevirtual 148, 3) := by decide +kernel
theorem dX9_isBelow_53 : decode cX9_isBelow 53 = .ok (.ifCond .eq 7, 3) := by decide +kernel
theorem dX9_isBelow_56 : decode cX9_isBelow 56 = .ok (.iconst 1, 1) := by decide +kernel
theorem dX9_isBelow_57 : decode cX9_isBelow 57 = .ok (.goto 4, 3) := by decide +kernel
theorem dX9_isBelow_60 : decode cX9_isBelow 60 = .ok (.iconst 0, 1) := by decide +kernel
theorem dX9_isBelow_61 : decode cX9_isBelow 61 = .ok (.ireturn, 1) := by decide +kernel
set_option maxRecDepth 20000 in
theorem ggX9_find_X9_isElement : GoodIn wsX9_find wsX9_isElement := goodIn_r _ [6, 7, 8, 9, 5, 10, 54, 55, 56, 57, 58, 59, 60, 61, 62, 63, 64, 65, 66, 67, 68, 69, 70, 71, 72, 73, 74, 75, 76, 77] (by decide +kernel) (by decide +kernel)
set_option maxRecDepth 20000 in
theorem gX9_find_X9_isElement : GoodIn wsX9_find (wsV RX9 79 RX9 yX9_isElement wsX9_isElement) := goodIn_app (goodIn_of _ (by decide +kernel)) ggX9_find_X9_isElement
set_option maxRecDepth 20000 in
theorem ggX9_find_X9_no : GoodIn wsX9_find wsX9_no := goodIn_r _ [14, 1, 54, 55, 56, 57, 58, 59, 60, 61, 62, 63, 64, 65, 66, 67, 68, 69, 70, 71, 72, 73, 74, 75, 76, 77] (by decide +kernel) (by decide +kernel)
set_option maxRecDepth 20000 in
theorem gX9_find_X9_no : GoodIn wsX9_find (wsV RX9 86 RX9 yX9_no wsX9_no) := goodIn_app (goodIn_of _ (by decide +kernel)) ggX9_find_X9_no
set_option maxRecDepth 20000 in
theorem ggX9_find_X9_isName : GoodIn wsX9_find wsX9_isName := goodIn_r _ [17, 8, 9, 5, 10] (by decide +kernel) (by decide +kernel)
set_option maxRecDepth 20000 in
theorem gX9_find_X9_isName : GoodIn wsX9_find (va_wsS RX9 115 yX9_isName wsX9_isName) := goodIn_app (goodIn_of _ (by decide +kernel)) ggX9_find_X9_isName
set_option maxRecDepth 20000 in
theorem ggX9_find_X9_isProduct : GoodIn wsX9_find wsX9_isProduct := goodIn_r _ [21, 22, 23, 24, 25, 8, 9, 5, 10, 26, 27, 28, 54, 55, 56, 57, 58, 59, 60, 61, 62, 63, 64, 65, 66, 67, 68, 69, 70, 71, 72, 73, 74, 75, 76, 77] (by decide +kernel) (by decide +kernel)
set_option maxRecDepth 20000 in
theorem gX9_find_X9_isProduct : GoodIn wsX9_find (wsV RX9 100 RX9 yX9_isProduct wsX9_isProduct) := goodIn_app (goodIn_of _ (by decide +kernel)) ggX9_find_X9_isProduct
set_option maxRecDepth 20000 in
theorem ggX9_find_X9_findMember : GoodIn wsX9_find wsX9_findMember := goodIn_r _ [32, 7, 33, 34, 35, 26, 27, 5, 28, 36, 37, 38, 39, 40, 41, 42, 43, 44, 45, 46, 47, 48, 49, 50, 51, 52, 53, 54, 55, 56, 57, 58, 59, 60, 61, 62, 63, 64, 65, 66, 67, 68, 69, 70, 71, 72, 73, 74, 75, 76, 77] (by decide +kernel) (by decide +kernel)
set_option maxRecDepth 20000 in
theorem gX9_find_X9_findMember : GoodIn wsX9_find (wsV RX9 158 RX9 yX9_findMember wsX9_findMember) := goodIn_app (goodIn_of _ (by decide +kernel)) ggX9_find_X9_findMember
theorem dX9_find_0 : decode cX9_find 0 = .ok (.aload_n 0, 1) := by decide +kernel
theorem dX9_find_1 : decode cX9_find 1 = .ok (.iconst 0, 1) := by decide +kernel
theorem dX9_find_2 : decode cX9_find 2 = .ok (.putfield 71, 3) := by decide +kernel
theorem dX9_find_5 : decode cX9_find 5 = .ok (.aload_n 0, 1) := by decide +kernel
theorem dX9_find_6 : decode cX9_find 6 = .ok (.iconst 0, 1) := by decide +kernel
theorem dX9_find_7 : decode cX9_find 7 = .ok (.iload_n 1, 1) := by decide +kernel
theorem dX9_find_8 : decode cX9_find 8 = .ok (.invokevirtual 79, 3) := by decide +kernel
theorem dX9_find_11 : decode cX9_find 11 = .ok (.ifCond .ne 9, 3) := by decide +kernel
theorem dX9_find_14 : decode cX9_find 14 = .ok (.aload_n 0, 1) := by decide +kernel
theorem dX9_find_15 : decode cX9_find 15 = .ok (.iconst 1, 1) := by decide +kernel
theorem dX9_find_16 : decode cX9_find 16 = .ok (.invokevirtual 86, 3) := by decide +kernel
theorem dX9_find_19 : decode cX9_find 19 = .ok (.ireturn, 1) := by decide +kernel
theorem dX9_find_20 : decode cX9_find 20 = .ok (.iload_n 2, 1) := by decide +kernel
theorem dX9_find_21 : decode cX9_find 21 = .ok (.invokestatic 115, 3) := by decide +kernel
theorem dX9_find_24 : decode cX9_find 24 = .ok (.ifCond .eq 24, 3) := by decide +kernel
theorem dX9_find_27 : decode cX9_find 27 = .ok (.aload_n 0, 1) := by decide +kernel
theorem dX9_find_28 : decode cX9_find 28 = .ok (.iload 4, 2) := by decide +kernel
theorem dX9_find_30 : decode cX9_find 30 = .ok (.invokevirtual 100, 3) := by decide +kernel
theorem dX9_find_33 : decode cX9_find 33 = .ok (.ifCond .eq 15, 3) := by decide +kernel
theorem dX9_find_36 : decode cX9_find 36 = .ok (.aload_n 0, 1) := by decide +kernel
theorem dX9_find_37 : decode cX9_find 37 = .ok (.iload_n 1, 1) := by decide +kernel
theorem dX9_find_38 : decode cX9_find 38 = .ok (.iload_n 2, 1) := by decide +kernel
theorem dX9_find_39 : decode cX9_find 39 = .ok (.iload_n 3, 1) := by decide +kernel
theorem dX9_find_40 : decode cX9_find 40 = .ok (.iload 4, 2) := by decide +kernel
theorem dX9_find_42 : decode cX9_find 42 = .ok (.invokevirtual 158, 3) := by decide +kernel
theorem dX9_find_45 : decode cX9_find 45 = .ok (.goto 8, 3) := by decide +kernel
theorem dX9_find_48 : decode cX9_find 48 = .ok (.aload_n 0, 1) := by decide +kernel
theorem dX9_find_49 : decode cX9_find 49 = .ok (.iconst 2, 1) := by decide +kernel
theorem dX9_find_50 : decode cX9_find 50 = .ok (.invokevirtual 86, 3) := by decide +kernel
theorem dX9_find_53 : decode cX9_find 53 = .ok (.ireturn, 1) := by decide +kernel
set_option maxRecDepth 20000 in
theorem ggX9_typeOf_X9_isExpression : GoodIn wsX9_typeOf wsX9_isExpression := goodIn_r _ [6, 7, 8, 9, 5, 10, 100, 101, 102, 103, 104, 105, 106, 107, 108, 109, 110, 111, 112, 113, 114, 115, 116, 117, 118, 119, 120, 121, 122, 123] (by decide +kernel) (by decide +kernel)
set_option maxRecDepth 20000 in
theorem gX9_typeOf_X9_isExpression : GoodIn wsX9_typeOf (wsV RX9 135 RX9 yX9_isExpression wsX9_isExpression) := goodIn_app (goodIn_of _ (by decide +kernel)) ggX9_typeOf_X9_isExpression
set_option maxRecDepth 20000 in
theorem ggX9_typeOf_X9_no : GoodIn wsX9_typeOf wsX9_no := goodIn_r _ [14, 1, 100, 101, 102, 103, 104, 105, 106, 107, 108, 109, 110, 111, 112, 113, 114, 115, 116, 117, 118, 119, 120, 121, 122, 123] (by decide +kernel) (by decide +kernel)
set_option maxRecDepth 20000 in
theorem gX9_typeOf_X9_no : GoodIn wsX9_typeOf (wsV RX9 86 RX9 yX9_no wsX9_no) := goodIn_app (goodIn_of _ (by decide +kernel)) ggX9_typeOf_X9_no
set_option maxRecDepth 20000 in
theorem ggX9_typeOf_X9_isProduct : GoodIn wsX9_typeOf wsX9_isProduct := goodIn_r _ [18, 19, 20, 21, 22, 8, 9, 5, 10, 23, 24, 25, 100, 101, 102, 103, 104, 105, 106, 107, 108, 109, 110, 111, 112, 113, 114, 115, 116, 117, 118, 119, 120, 121, 122, 123] (by decide +kernel) (by decide +kernel)
set_option maxRecDepth 20000 in
theorem gX9_typeOf_X9_isProduct : GoodIn wsX9_typeOf (wsV RX9 100 RX9 yX9_isProduct wsX9_isProduct) := goodIn_app (goodIn_of _ (by decide +kernel)) ggX9_typeOf_X9_isProduct
set_option maxRecDepth 20000 in
theorem ggX9_typeOf_X9_know : GoodIn wsX9_typeOf wsX9_know := goodIn_r _ [29, 30, 31, 7, 32, 33, 34, 35, 36, 15, 16, 17, 5, 18, 19, 20, 21, 22, 8, 9, 10, 23, 24, 25, 37, 38, 39, 40, 41, 42, 43, 44, 45, 46, 47, 48, 49, 50, 51, 52, 53, 54, 55, 56, 57, 58, 59, 60, 61, 62, 63, 64, 65, 66, 67, 68, 69, 70, 71, 72, 73, 74, 75, 76, 77, 78, 79, 80, 81, 82, 83, 84, 85, 86, 87, 88, 89, 90, 91, 92, 93, 94, 95, 96, 97, 98, 99, 100, 101, 102, 103, 104, 105, 106, 107, 108, 109, 110, 111, 112, 113, 114, 115, 116, 117, 118, 119, 120, 121, 122, 123] (by decide +kernel) (by decide +kernel)
set_option maxRecDepth 20000 in
theorem gX9_typeOf_X9_know : GoodIn wsX9_typeOf (wsV RX9 185 RX9 yX9_know wsX9_know) := goodIn_app (goodIn_of _ (by decide +kernel)) ggX9_typeOf_X9_know
set_option maxRecDepth 20000 in
theorem ggX9_typeOf_X9_typeIn : GoodIn wsX9_typeOf wsX9_typeIn := goodIn_r _ [95, 32, 100, 101, 102, 103, 104, 105, 106, 107, 108, 109, 110, 111, 112, 113, 114, 115, 116, 117, 118, 119, 120, 121, 122, 123] (by decide +kernel) (by decide +kernel)
set_option maxRecDepth 20000 in
theorem gX9_typeOf_X9_typeIn : GoodIn wsX9_typeOf (wsV RX9 155 RX9 yX9_typeIn wsX9_typeIn) := goodIn_app (goodIn_of _ (by decide +kernel)) ggX9_typeOf_X9_typeIn
theorem dX9_typeOf_0 : decode cX9_typeOf 0 = .ok (.aload_n 0, 1) := by decide +kernel
theorem dX9_typeOf_1 : decode cX9_typeOf 1 = .ok (.iconst 0, 1) := by decide +kernel
theorem dX9_typeOf_2 : decode cX9_typeOf 2 = .ok (.putfield 71, 3) := by decide +kernel
theorem dX9_typeOf_5 : decode cX9_typeOf 5 = .ok (.aload_n 0, 1) := by decide +kernel
theorem dX9_typeOf_6 : decode cX9_typeOf 6 = .ok (.iload_n 1, 1) := by decide +kernel
theorem dX9_typeOf_7 : decode cX9_typeOf 7 = .ok (.invokevirtual 135, 3) := by decide +kernel
theorem dX9_typeOf_10 : decode cX9_typeOf 10 = .ok (.ifCond .ne 9, 3) := by decide +kernel
theorem dX9_typeOf_13 : decode cX9_typeOf 13 = .ok (.aload_n 0, 1) := by decide +kernel
theorem dX9_typeOf_14 : decode cX9_typeOf 14 = .ok (.iconst 1, 1) := by decide +kernel
theorem dX9_typeOf_15 : decode cX9_typeOf 15 = .ok (.invokevirtual 86, 3) := by decide +kernel
theorem dX9_typeOf_18 : decode cX9_typeOf 18 = .ok (.ireturn, 1) := by decide +kernel
theorem dX9_typeOf_19 : decode cX9_typeOf 19 = .ok (.aload_n 0, 1) := by decide +kernel
theorem dX9_typeOf_20 : decode cX9_typeOf 20 = .ok (.iload_n 2, 1) := by decide +kernel
theorem dX9_typeOf_21 : decode cX9_typeOf 21 = .ok (.invokevirtual 100, 3) := by decide +kernel
theorem dX9_typeOf_24 : decode cX9_typeOf 24 = .ok (.ifCond .ne 9, 3) := by decide +kernel
theorem dX9_typeOf_27 : decode cX9_typeOf 27 = .ok (.aload_n 0, 1) := by decide +kernel
theorem dX9_typeOf_28 : decode cX9_typeOf 28 = .ok (.iconst 2, 1) := by decide +kernel
theorem dX9_typeOf_29 : decode cX9_typeOf 29 = .ok (.invokevirtual 86, 3) := by decide +kernel
theorem dX9_typeOf_32 : decode cX9_typeOf 32 = .ok (.ireturn, 1) := by decide +kernel
theorem dX9_typeOf_33 : decode cX9_typeOf 33 = .ok (.aload_n 0, 1) := by decide +kernel
theorem dX9_typeOf_34 : decode cX9_typeOf 34 = .ok (.invokevirtual 185, 3) := by decide +kernel
theorem dX9_typeOf_37 : decode cX9_typeOf 37 = .ok (.aload_n 0, 1) := by decide +kernel
theorem dX9_typeOf_38 : decode cX9_typeOf 38 = .ok (.iload_n 1, 1) := by decide +kernel
theorem dX9_typeOf_39 : decode cX9_typeOf 39 = .ok (.iload_n 2, 1) := by decide +kernel
theorem dX9_typeOf_40 : decode cX9_typeOf 40 = .ok (.invokevirtual 155, 3) := by decide +kernel
theorem dX9_typeOf_43 : decode cX9_typeOf 43 = .ok (.ireturn, 1) := by decide +kernel
set_option maxRecDepth 20000 in
theorem ggX9_countErrors_X9_know : GoodIn wsX9_countErrors wsX9_know := goodIn_r _ [6, 7, 1, 8, 9, 10, 11, 12, 13, 14, 15, 16, 5, 17, 18, 19, 20, 21, 22, 23, 24, 25, 26, 27, 28, 29, 30, 31, 32, 33, 34, 35, 36, 37, 38, 39, 40, 41, 42, 43, 44, 45, 46, 47, 48, 49, 50, 51, 52, 53, 54, 55, 56, 57, 58, 59, 60, 61, 62, 63, 64, 65, 66, 67, 68, 69, 70, 71, 72, 73, 74, 75, 76, 77, 78, 79, 80, 81, 82, 83, 84, 85, 86, 87, 88, 89, 90, 91, 92, 93, 94, 95, 96, 97, 98, 99, 100, 101, 102, 103, 104, 105, 106, 107, 108, 109, 110, 111, 112, 113, 114] (by decide +kernel) (by decide +kernel)
set_option maxRecDepth 20000 in
theorem gX9_countErrors_X9_know : GoodIn wsX9_countErrors (wsV RX9 185 RX9 yX9_know wsX9_know) := goodIn_app (goodIn_of _ (by decide +kernel)) ggX9_countErrors_X9_know
theorem dX9_countErrors_0 : decode cX9_countErrors 0 = .ok (.aload_n 0, 1) := by decide +kernel
theorem dX9_countErrors_1 : decode cX9_countErrors 1 = .ok (.invokevirtual 185, 3) := by decide +kernel
theorem dX9_countErrors_4 : decode cX9_countErrors 4 = .ok (.iconst 0, 1) := by decide +kernel
theorem dX9_countErrors_5 : decode cX9_countErrors 5 = .ok (.istore_n 1, 1) := by decide +kernel
theorem dX9_countErrors_6 : decode cX9_countErrors 6 = .ok (.iconst 0, 1) := by decide +kernel
theorem dX9_countErrors_7 : decode cX9_countErrors 7 = .ok (.istore_n 2, 1) := by decide +kernel
theorem dX9_countErrors_8 : decode cX9_countErrors 8 = .ok (.iload_n 2, 1) := by decide +kernel
theorem dX9_countErrors_9 : decode cX9_countErrors 9 = .ok (.sipush 650, 3) := by decide +kernel
theorem dX9_countErrors_12 : decode cX9_countErrors 12 = .ok (.if_icmp .ge 26, 3) := by decide +kernel
theorem dX9_countErrors_15 : decode cX9_countErrors 15 = .ok (.iload_n 1, 1) := by decide +kernel
theorem dX9_countErrors_16 : decode cX9_countErrors 16 = .ok (.aload_n 0, 1) := by decide +kernel
theorem dX9_countErrors_17 : decode cX9_countErrors 17 = .ok (.getfield 68, 3) := by decide +kernel
theorem dX9_countErrors_20 : decode cX9_countErrors 20 = .ok (.iload_n 2, 1) := by decide +kernel
theorem dX9_countErrors_21 : decode cX9_countErrors 21 = .ok (.iaload, 1) := by decide +kernel
theorem dX9_countErrors_22 : decode cX9_countErrors 22 = .ok (.ifCond .eq 7, 3) := by decide +kernel
theorem dX9_countErrors_25 : decode cX9_countErrors 25 = .ok (.iconst 1, 1) := by decide +kernel
theorem dX9_countErrors_26 : decode cX9_countErrors 26 = .ok (.goto 4, 3) := by decide +kernel
theorem dX9_countErrors_29 : decode cX9_countErrors 29 = .ok (.iconst 0, 1) := by decide +kernel
theorem dX9_countErrors_30 : decode cX9_countErrors 30 = .ok (.iadd, 1) := by decide +kernel
theorem dX9_countErrors_31 : decode cX9_countErrors 31 = .ok (.istore_n 1, 1) := by decide +kernel
theorem dX9_countErrors_32 : decode cX9_countErrors 32 = .ok (.iinc 2 1, 3) := by decide +kernel
theorem dX9_countErrors_35 : decode cX9_countErrors 35 = .ok (.goto (-27), 3) := by decide +kernel
theorem dX9_countErrors_38 : decode cX9_countErrors 38 = .ok (.iload_n 1, 1) := by decide +kernel
theorem dX9_countErrors_39 : decode cX9_countErrors 39 = .ok (.ireturn, 1) := by decide +kernel
set_option maxRecDepth 20000 in
theorem ggX9_errorCount_X9_countErrors : GoodIn wsX9_errorCount wsX9_countErrors := goodIn_r _ [6, 7, 8, 9, 10, 5, 11, 12, 13, 14, 15, 16, 17, 18, 19, 20, 21, 22, 23, 24, 25, 26, 27, 28, 29, 30, 31, 32, 33, 34, 35, 36, 37, 38, 39, 40, 41, 42, 43, 44, 45, 46, 47, 48, 49, 50, 51, 52, 53, 54, 55, 56, 57, 58, 59, 60, 61, 62, 63, 64, 65, 66, 67, 68, 69, 70, 71, 72, 73, 74, 75, 76, 77, 78, 79, 80, 81, 82, 83, 84, 85, 86, 87, 88, 89, 90, 91, 92, 93, 94, 95, 96, 97, 98, 99, 100, 101, 102, 103, 104, 105, 106, 107, 108, 109, 110, 111, 112, 113, 114, 115, 116, 117, 118, 119] (by decide +kernel) (by decide +kernel)
set_option maxRecDepth 20000 in
theorem gX9_errorCount_X9_countErrors : GoodIn wsX9_errorCount (wsV RX9 188 RX9 yX9_countErrors wsX9_countErrors) := goodIn_app (goodIn_of _ (by decide +kernel)) ggX9_errorCount_X9_countErrors
theorem dX9_errorCount_0 : decode cX9_errorCount 0 = .ok (.aload_n 0, 1) := by decide +kernel
theorem dX9_errorCount_1 : decode cX9_errorCount 1 = .ok (.iconst 0, 1) := by decide +kernel
theorem dX9_errorCount_2 : decode cX9_errorCount 2 = .ok (.putfield 71, 3) := by decide +kernel
theorem dX9_errorCount_5 : decode cX9_errorCount 5 = .ok (.aload_n 0, 1) := by decide +kernel
theorem dX9_errorCount_6 : decode cX9_errorCount 6 = .ok (.invokevirtual 188, 3) := by decide +kernel
theorem dX9_errorCount_9 : decode cX9_errorCount 9 = .ok (.ireturn, 1) := by decide +kernel
set_option maxRecDepth 20000 in
theorem ggX9_error_X9_countErrors : GoodIn wsX9_error wsX9_countErrors := goodIn_r _ [7, 2, 8, 9, 10, 6, 11, 12, 13, 14, 15, 16, 17, 18, 19, 20, 21, 22, 23, 24, 25, 26, 27, 28, 29, 30, 31, 32, 33, 34, 35, 36, 37, 38, 39, 40, 41, 42, 43, 44, 45, 46, 47, 48, 49, 50, 51, 52, 53, 54, 55, 56, 57, 58, 59, 60, 61, 62, 63, 64, 65, 66, 67, 68, 69, 70, 71, 72, 73, 74, 75, 76, 77, 78, 79, 80, 81, 82, 83, 84, 85, 86, 87, 88, 89, 90, 91, 92, 93, 94, 95, 100, 101, 102, 103, 104, 105, 106, 107, 108, 109, 110, 111, 112, 113, 114, 115, 116, 117, 118, 119, 120, 121, 122, 123] (by decide +kernel) (by decide +kernel)
set_option maxRecDepth 20000 in
theorem gX9_error_X9_countErrors : GoodIn wsX9_error (wsV RX9 188 RX9 yX9_countErrors wsX9_countErrors) := goodIn_app (goodIn_of _ (by decide +kernel)) ggX9_error_X9_countErrors
set_option maxRecDepth 20000 in
theorem ggX9_error_X9_isIn : GoodIn wsX9_error wsX9_isIn := goodIn_r _ [29] (by decide +kernel) (by decide +kernel)
set_option maxRecDepth 20000 in
theorem gX9_error_X9_isIn : GoodIn wsX9_error (va_wsS RX9 75 yX9_isIn wsX9_isIn) := goodIn_app (goodIn_of _ (by decide +kernel)) ggX9_error_X9_isIn
set_option maxRecDepth 20000 in
theorem ggX9_error_X9_no : GoodIn wsX9_error wsX9_no := goodIn_r _ [99, 1, 100, 101, 102, 103, 104, 105, 106, 107, 108, 109, 110, 111, 112, 113, 114, 115, 116, 117, 118, 119, 120, 121, 122, 123] (by decide +kernel) (by decide +kernel)
set_option maxRecDepth 20000 in
theorem gX9_error_X9_no : GoodIn wsX9_error (wsV RX9 86 RX9 yX9_no wsX9_no) := goodIn_app (goodIn_of _ (by decide +kernel)) ggX9_error_X9_no
theorem dX9_error_0 : decode cX9_error 0 = .ok (.aload_n 0, 1) := by decide +kernel
theorem dX9_error_1 : decode cX9_error 1 = .ok (.iconst 0, 1) := by decide +kernel
theorem dX9_error_2 : decode cX9_error 2 = .ok (.putfield 71, 3) := by decide +kernel
theorem dX9_error_5 : decode cX9_error 5 = .ok (.iload_n 1, 1) := by decide +kernel
theorem dX9_error_6 : decode cX9_error 6 = .ok (.iconst 0, 1) := by decide +kernel
theorem dX9_error_7 : decode cX9_error 7 = .ok (.aload_n 0, 1) := by decide +kernel
theorem dX9_error_8 : decode cX9_error 8 = .ok (.invokevirtual 188, 3) := by decide +kernel
theorem dX9_error_11 : decode cX9_error 11 = .ok (.iconst 1, 1) := by decide +kernel
theorem dX9_error_12 : decode cX9_error 12 = .ok (.isub, 1) := by decide +kernel
theorem dX9_error_13 : decode cX9_error 13 = .ok (.invokestatic 75, 3) := by decide +kernel
theorem dX9_error_16 : decode cX9_error 16 = .ok (.ifCond .eq 12, 3) := by decide +kernel
theorem dX9_error_19 : decode cX9_error 19 = .ok (.iload_n 2, 1) := by decide +kernel
theorem dX9_error_20 : decode cX9_error 20 = .ok (.iconst 0, 1) := by decide +kernel
theorem dX9_error_21 : decode cX9_error 21 = .ok (.iconst 2, 1) := by decide +kernel
theorem dX9_error_22 : decode cX9_error 22 = .ok (.invokestatic 75, 3) := by decide +kernel
theorem dX9_error_25 : decode cX9_error 25 = .ok (.ifCond .ne 9, 3) := by decide +kernel
theorem dX9_error_28 : decode cX9_error 28 = .ok (.aload_n 0, 1) := by decide +kernel
theorem dX9_error_29 : decode cX9_error 29 = .ok (.iconst 1, 1) := by decide +kernel
theorem dX9_error_30 : decode cX9_error 30 = .ok (.invokevirtual 86, 3) := by decide +kernel
theorem dX9_error_33 : decode cX9_error 33 = .ok (.ireturn, 1) := by decide +kernel
theorem dX9_error_34 : decode cX9_error 34 = .ok (.iconst (-1), 1) := by decide +kernel
theorem dX9_error_35 : decode cX9_error 35 = .ok (.istore_n 3, 1) := by decide +kernel
theorem dX9_error_36 : decode cX9_error 36 = .ok (.iload_n 1, 1) := by decide +kernel
theorem dX9_error_37 : decode cX9_error 37 = .ok (.istore 4, 2) := by decide +kernel
theorem dX9_error_39 : decode cX9_error 39 = .ok (.iload 4, 2) := by decide +kernel
theorem dX9_error_41 : decode cX9_error 41 = .ok (.ifCond .lt 27, 3) := by decide +kernel
theorem dX9_error_44 : decode cX9_error 44 = .ok (.iinc 3 1, 3) := by decide +kernel
theorem dX9_error_47 : decode cX9_error 47 = .ok (.aload_n 0, 1) := by decide +kernel
theorem dX9_error_48 : decode cX9_error 48 = .ok (.getfield 68, 3) := by decide +kernel
theorem dX9_error_51 : decode cX9_error 51 = .ok (.iload_n 3, 1) := by decide +kernel
theorem dX9_error_52 : decode cX9_error 52 = .ok (.iaload, 1) := by decide +kernel
theorem dX9_error_53 : decode cX9_error 53 = .ok (.ifCond .ne 9, 3) := by decide +kernel
theorem dX9_error_56 : decode cX9_error 56 = .ok (.iinc 3 1, 3) := by decide +kernel
theorem dX9_error_59 : decode cX9_error 59 = .ok (.goto (-12), 3) := by decide +kernel
theorem dX9_error_62 : decode cX9_error 62 = .ok (.iinc 4 (-1), 3) := by decide +kernel
theorem dX9_error_65 : decode cX9_error 65 = .ok (.goto (-26), 3) := by decide +kernel
theorem dX9_error_68 : decode cX9_error 68 = .ok (.iload_n 2, 1) := by decide +kernel
theorem dX9_error_69 : decode cX9_error 69 = .ok (.ifCond .ne 10, 3) := by decide +kernel
theorem dX9_error_72 : decode cX9_error 72 = .ok (.iload_n 3, 1) := by decide +kernel
theorem dX9_error_73 : decode cX9_error 73 = .ok (.bipush 50, 2) := by decide +kernel
theorem dX9_error_75 : decode cX9_error 75 = .ok (.idiv, 1) := by decide +kernel
theorem dX9_error_76 : decode cX9_error 76 = .ok (.goto 21, 3) := by decide +kernel
theorem dX9_error_79 : decode cX9_error 79 = .ok (.iload_n 2, 1) := by decide +kernel
theorem dX9_error_80 : decode cX9_error 80 = .ok (.iconst 1, 1) := by decide +kernel
theorem dX9_error_81 : decode cX9_error 81 = .ok (.if_icmp .ne 10, 3) := by decide +kernel
theorem dX9_error_84 : decode cX9_error 84 = .ok (.iload_n 3, 1) := by decide +kernel
theorem dX9_error_85 : decode cX9_error 85 = .ok (.bipush 50, 2) := by decide +kernel
theorem dX9_error_87 : decode cX9_error 87 = .ok (.irem, 1) := by decide +kernel
theorem dX9_error_88 : decode cX9_error 88 = .ok (.goto 9, 3) := by decide +kernel
theorem dX9_error_91 : decode cX9_error 91 = .ok (.aload_n 0, 1) := by decide +kernel
theorem dX9_error_92 : decode cX9_error 92 = .ok (.getfield 68, 3) := by decide +kernel
theorem dX9_error_95 : decode cX9_error 95 = .ok (.iload_n 3, 1) := by decide +kernel
theorem dX9_error_96 : decode cX9_error 96 = .ok (.iaload, 1) := by decide +kernel
theorem dX9_error_97 : decode cX9_error 97 = .ok (.ireturn, 1) := by decide +kernel
set_option maxRecDepth 20000 in
theorem ggX9_rightSet_X9_know : GoodIn wsX9_rightSet wsX9_know := goodIn_r _ [6, 7, 1, 8, 9, 10, 11, 12, 13, 14, 15, 16, 5, 17, 18, 19, 20, 21, 22, 23, 24, 25, 26, 27, 28, 29, 30, 31, 32, 33, 34, 35, 36, 37, 38, 39, 40, 41, 42, 43, 44, 45, 46, 47, 48, 49, 50, 51, 52, 53, 54, 55, 56, 57, 58, 59, 60, 61, 62, 63, 64, 65, 66, 67, 68, 69, 70, 71, 72, 73, 74, 75, 76, 77, 78, 79, 80, 81, 82, 83, 84, 85, 86, 87, 88, 89, 90, 95, 96, 97, 98, 99, 100, 101, 102, 103, 104, 105, 106, 107, 108, 109, 110, 111, 112, 113, 114, 115, 116, 117, 118] (by decide +kernel) (by decide +kernel)
set_option maxRecDepth 20000 in
theorem gX9_rightSet_X9_know : GoodIn wsX9_rightSet (wsV RX9 185 RX9 yX9_know wsX9_know) := goodIn_app (goodIn_of _ (by decide +kernel)) ggX9_rightSet_X9_know
set_option maxRecDepth 20000 in
theorem ggX9_rightSet_X9_allProducts : GoodIn wsX9_rightSet wsX9_allProducts := goodIn_r _ [94, 14, 15, 16, 5, 17, 18, 19, 20, 21, 22, 23, 24, 25, 26, 27, 95, 96, 97, 98, 99, 100, 101, 102, 103, 104, 105, 106, 107, 108, 109, 110, 111, 112, 113, 114, 115, 116, 117, 118] (by decide +kernel) (by decide +kernel)
set_option maxRecDepth 20000 in
theorem gX9_rightSet_X9_allProducts : GoodIn wsX9_rightSet (wsV RX9 104 RX9 yX9_allProducts wsX9_allProducts) := goodIn_app (goodIn_of _ (by decide +kernel)) ggX9_rightSet_X9_allProducts
theorem dX9_rightSet_0 : decode cX9_rightSet 0 = .ok (.aload_n 0, 1) := by decide +kernel
theorem dX9_rightSet_1 : decode cX9_rightSet 1 = .ok (.invokevirtual 185, 3) := by decide +kernel
theorem dX9_rightSet_4 : decode cX9_rightSet 4 = .ok (.aload_n 0, 1) := by decide +kernel
theorem dX9_rightSet_5 : decode cX9_rightSet 5 = .ok (.invokevirtual 104, 3) := by decide +kernel
theorem dX9_rightSet_8 : decode cX9_rightSet 8 = .ok (.istore_n 1, 1) := by decide +kernel
theorem dX9_rightSet_9 : decode cX9_rightSet 9 = .ok (.iconst 0, 1) := by decide +kernel
theorem dX9_rightSet_10 : decode cX9_rightSet 10 = .ok (.istore_n 2, 1) := by decide +kernel
theorem dX9_rightSet_11 : decode cX9_rightSet 11 = .ok (.iload_n 2, 1) := by decide +kernel
theorem dX9_rightSet_12 : decode cX9_rightSet 12 = .ok (.sipush 650, 3) := by decide +kernel
theorem dX9_rightSet_15 : decode cX9_rightSet 15 = .ok (.if_icmp .ge 20, 3) := by decide +kernel
theorem dX9_rightSet_18 : decode cX9_rightSet 18 = .ok (.iload_n 1, 1) := by decide +kernel
theorem dX9_rightSet_19 : decode cX9_rightSet 19 = .ok (.aload_n 0, 1) := by decide +kernel
theorem dX9_rightSet_20 : decode cX9_rightSet 20 = .ok (.getfield 68, 3) := by decide +kernel
theorem dX9_rightSet_23 : decode cX9_rightSet 23 = .ok (.iload_n 2, 1) := by decide +kernel
theorem dX9_rightSet_24 : decode cX9_rightSet 24 = .ok (.iaload, 1) := by decide +kernel
theorem dX9_rightSet_25 : decode cX9_rightSet 25 = .ok (.iconst (-1), 1) := by decide +kernel
theorem dX9_rightSet_26 : decode cX9_rightSet 26 = .ok (.ixor, 1) := by decide +kernel
theorem dX9_rightSet_27 : decode cX9_rightSet 27 = .ok (.iand, 1) := by decide +kernel
theorem dX9_rightSet_28 : decode cX9_rightSet 28 = .ok (.istore_n 1, 1) := by decide +kernel
theorem dX9_rightSet_29 : decode cX9_rightSet 29 = .ok (.iinc 2 1, 3) := by decide +kernel
theorem dX9_rightSet_32 : decode cX9_rightSet 32 = .ok (.goto (-21), 3) := by decide +kernel
theorem dX9_rightSet_35 : decode cX9_rightSet 35 = .ok (.iload_n 1, 1) := by decide +kernel
theorem dX9_rightSet_36 : decode cX9_rightSet 36 = .ok (.ireturn, 1) := by decide +kernel
set_option maxRecDepth 20000 in
theorem ggX9_right_X9_rightSet : GoodIn wsX9_right wsX9_rightSet := goodIn_r _ [6, 7, 8, 9, 10, 5, 11, 12, 13, 14, 15, 16, 17, 18, 19, 20, 21, 22, 23, 24, 25, 26, 27, 28, 29, 30, 31, 32, 33, 34, 35, 36, 37, 38, 39, 40, 41, 42, 43, 44, 45, 46, 47, 48, 49, 50, 51, 52, 53, 54, 55, 56, 57, 58, 59, 60, 61, 62, 63, 64, 65, 66, 67, 68, 69, 70, 71, 72, 73, 74, 75, 76, 77, 78, 79, 80, 81, 82, 83, 84, 85, 86, 87, 88, 89, 90, 91, 92, 93, 94, 95, 96, 97, 98, 99, 100, 101, 102, 103, 104, 105, 106, 107, 108, 109, 110, 111, 112, 113, 114, 115, 116, 117, 118, 119, 120, 121, 122, 123] (by decide +kernel) (by decide +kernel)
set_option maxRecDepth 20000 in
theorem gX9_right_X9_rightSet : GoodIn wsX9_right (wsV RX9 191 RX9 yX9_rightSet wsX9_rightSet) := goodIn_app (goodIn_of _ (by decide +kernel)) ggX9_right_X9_rightSet
theorem dX9_right_0 : decode cX9_right 0 = .ok (.aload_n 0, 1) := by decide +kernel
theorem dX9_right_1 : decode cX9_right 1 = .ok (.iconst 0, 1) := by decide +kernel
theorem dX9_right_2 : decode cX9_right 2 = .ok (.putfield 71, 3) := by decide +kernel
theorem dX9_right_5 : decode cX9_right 5 = .ok (.aload_n 0, 1) := by decide +kernel
theorem dX9_right_6 : decode cX9_right 6 = .ok (.invokevirtual 191, 3) := by decide +kernel
theorem dX9_right_9 : decode cX9_right 9 = .ok (.ireturn, 1) := by decide +kernel
set_option maxRecDepth 20000 in
theorem ggX9_errorsIn_X9_isProduct : GoodIn wsX9_errorsIn wsX9_isProduct := goodIn_r _ [7, 8, 9, 10, 11, 12, 13, 6, 14, 15, 16, 17, 96, 97, 98, 99, 100, 101, 102, 103, 104, 105, 106, 107, 108, 109, 110, 111, 112, 113, 114, 115, 116, 117, 118, 119] (by decide +kernel) (by decide +kernel)
set_option maxRecDepth 20000 in
theorem gX9_errorsIn_X9_isProduct : GoodIn wsX9_errorsIn (wsV RX9 100 RX9 yX9_isProduct wsX9_isProduct) := goodIn_app (goodIn_of _ (by decide +kernel)) ggX9_errorsIn_X9_isProduct
set_option maxRecDepth 20000 in
theorem ggX9_errorsIn_X9_no : GoodIn wsX9_errorsIn wsX9_no := goodIn_r _ [21, 1, 96, 97, 98, 99, 100, 101, 102, 103, 104, 105, 106, 107, 108, 109, 110, 111, 112, 113, 114, 115, 116, 117, 118, 119] (by decide +kernel) (by decide +kernel)
set_option maxRecDepth 20000 in
theorem gX9_errorsIn_X9_no : GoodIn wsX9_errorsIn (wsV RX9 86 RX9 yX9_no wsX9_no) := goodIn_app (goodIn_of _ (by decide +kernel)) ggX9_errorsIn_X9_no
set_option maxRecDepth 20000 in
theorem ggX9_errorsIn_X9_know : GoodIn wsX9_errorsIn wsX9_know := goodIn_r _ [25, 26, 2, 27, 28, 29, 30, 31, 32, 3, 4, 5, 6, 7, 8, 9, 10, 11, 12, 13, 14, 15, 16, 17, 33, 34, 35, 36, 37, 38, 39, 40, 41, 42, 43, 44, 45, 46, 47, 48, 49, 50, 51, 52, 53, 54, 55, 56, 57, 58, 59, 60, 61, 62, 63, 64, 65, 66, 67, 68, 69, 70, 71, 72, 73, 74, 75, 76, 77, 78, 79, 80, 81, 82, 83, 84, 85, 86, 87, 88, 89, 90, 91, 92, 93, 94, 95, 96, 97, 98, 99, 100, 101, 102, 103, 104, 105, 106, 107, 108, 109, 110, 111, 112, 113, 114, 115, 116, 117, 118, 119] (by decide +kernel) (by decide +kernel)
set_option maxRecDepth 20000 in
theorem gX9_errorsIn_X9_know : GoodIn wsX9_errorsIn (wsV RX9 185 RX9 yX9_know wsX9_know) := goodIn_app (goodIn_of _ (by decide +kernel)) ggX9_errorsIn_X9_know
set_option maxRecDepth 20000 in
theorem ggX9_errorsIn_X9_has : GoodIn wsX9_errorsIn wsX9_has := goodIn_r _ [17] (by decide +kernel) (by decide +kernel)
set_option maxRecDepth 20000 in
theorem gX9_errorsIn_X9_has : GoodIn wsX9_errorsIn (va_wsS RX9 97 yX9_has wsX9_has) := goodIn_app (goodIn_of _ (by decide +kernel)) ggX9_errorsIn_X9_has
theorem dX9_errorsIn_0 : decode cX9_errorsIn 0 = .ok (.aload_n 0, 1) := by decide +kernel
theorem dX9_errorsIn_1 : decode cX9_errorsIn 1 = .ok (.iconst 0, 1) := by decide +kernel
theorem dX9_errorsIn_2 : decode cX9_errorsIn 2 = .ok (.putfield 71, 3) := by decide +kernel
theorem dX9_errorsIn_5 : decode cX9_errorsIn 5 = .ok (.aload_n 0, 1) := by decide +kernel
theorem dX9_errorsIn_6 : decode cX9_errorsIn 6 = .ok (.iload_n 1, 1) := by decide +kernel
theorem dX9_errorsIn_7 : decode cX9_errorsIn 7 = .ok (.invokevirtual 100, 3) := by decide +kernel
theorem dX9_errorsIn_10 : decode cX9_errorsIn 10 = .ok (.ifCond .ne 9, 3) := by decide +kernel
theorem dX9_errorsIn_13 : decode cX9_errorsIn 13 = .ok (.aload_n 0, 1) := by decide +kernel
theorem dX9_errorsIn_14 : decode cX9_errorsIn 14 = .ok (.iconst 1, 1) := by decide +kernel
theorem dX9_errorsIn_15 : decode cX9_errorsIn 15 = .ok (.invokevirtual 86, 3) := by decide +kernel
theorem dX9_errorsIn_18 : decode cX9_errorsIn 18 = .ok (.ireturn, 1) := by decide +kernel
theorem dX9_errorsIn_19 : decode cX9_errorsIn 19 = .ok (.aload_n 0, 1) := by decide +kernel
theorem dX9_errorsIn_20 : decode cX9_errorsIn 20 = .ok (.invokevirtual 185, 3) := by decide +kernel
theorem dX9_errorsIn_23 : decode cX9_errorsIn 23 = .ok (.iconst 0, 1) := by decide +kernel
theorem dX9_errorsIn_24 : decode cX9_errorsIn 24 = .ok (.istore_n 2, 1) := by decide +kernel
theorem dX9_errorsIn_25 : decode cX9_errorsIn 25 = .ok (.iconst 0, 1) := by decide +kernel
theorem dX9_errorsIn_26 : decode cX9_errorsIn 26 = .ok (.istore_n 3, 1) := by decide +kernel
theorem dX9_errorsIn_27 : decode cX9_errorsIn 27 = .ok (.iload_n 3, 1) := by decide +kernel
theorem dX9_errorsIn_28 : decode cX9_errorsIn 28 = .ok (.sipush 650, 3) := by decide +kernel
theorem dX9_errorsIn_31 : decode cX9_errorsIn 31 = .ok (.if_icmp .ge 30, 3) := by decide +kernel
theorem dX9_errorsIn_34 : decode cX9_errorsIn 34 = .ok (.iload_n 2, 1) := by decide +kernel
theorem dX9_errorsIn_35 : decode cX9_errorsIn 35 = .ok (.aload_n 0, 1) := by decide +kernel
theorem dX9_errorsIn_36 : decode cX9_errorsIn 36 = .ok (.getfield 68, 3) := by decide +kernel
theorem dX9_errorsIn_39 : decode cX9_errorsIn 39 = .ok (.iload_n 3, 1) := by decide +kernel
theorem dX9_errorsIn_40 : decode cX9_errorsIn 40 = .ok (.iaload, 1) := by decide +kernel
theorem dX9_errorsIn_41 : decode cX9_errorsIn 41 = .ok (.iload_n 1, 1) := by decide +kernel
theorem dX9_errorsIn_42 : decode cX9_errorsIn 42 = .ok (.invokestatic 97, 3) := by decide +kernel
theorem dX9_errorsIn_45 : decode cX9_errorsIn 45 = .ok (.ifCond .eq 7, 3) := by decide +kernel
theorem dX9_errorsIn_48 : decode cX9_errorsIn 48 = .ok (.iconst 1, 1) := by decide +kernel
theorem dX9_errorsIn_49 : decode cX9_errorsIn 49 = .ok (.goto 4, 3) := by decide +kernel
theorem dX9_errorsIn_52 : decode cX9_errorsIn 52 = .ok (.iconst 0, 1) := by decide +kernel
theorem dX9_errorsIn_53 : decode cX9_errorsIn 53 = .ok (.iadd, 1) := by decide +kernel
theorem dX9_errorsIn_54 : decode cX9_errorsIn 54 = .ok (.istore_n 2, 1) := by decide +kernel
theorem dX9_errorsIn_55 : decode cX9_errorsIn 55 = .ok (.iinc 3 1, 3) := by decide +kernel
theorem dX9_errorsIn_58 : decode cX9_errorsIn 58 = .ok (.goto (-31), 3) := by decide +kernel
theorem dX9_errorsIn_61 : decode cX9_errorsIn 61 = .ok (.iload_n 2, 1) := by decide +kernel
theorem dX9_errorsIn_62 : decode cX9_errorsIn 62 = .ok (.ireturn, 1) := by decide +kernel
set_option maxRecDepth 20000 in
theorem ggX9_trueFor_X9_isProduct : GoodIn wsX9_trueFor wsX9_isProduct := goodIn_r _ [5, 6, 7, 8, 9, 10, 11, 4, 12, 13, 14, 15, 16, 17, 18, 19, 20, 21, 22, 23, 24, 25, 26, 27, 28, 29, 30, 31, 32, 33, 34, 35, 36, 37, 38, 39] (by decide +kernel) (by decide +kernel)
set_option maxRecDepth 20000 in
theorem gX9_trueFor_X9_isProduct : GoodIn wsX9_trueFor (wsV RX9 100 RX9 yX9_isProduct wsX9_isProduct) := goodIn_app (goodIn_of _ (by decide +kernel)) ggX9_trueFor_X9_isProduct
theorem dX9_trueFor_0 : decode cX9_trueFor 0 = .ok (.iconst 0, 1) := by decide +kernel
theorem dX9_trueFor_1 : decode cX9_trueFor 1 = .ok (.istore_n 3, 1) := by decide +kernel
theorem dX9_trueFor_2 : decode cX9_trueFor 2 = .ok (.iconst 0, 1) := by decide +kernel
theorem dX9_trueFor_3 : decode cX9_trueFor 3 = .ok (.istore 4, 2) := by decide +kernel
theorem dX9_trueFor_5 : decode cX9_trueFor 5 = .ok (.iload 4, 2) := by decide +kernel
theorem dX9_trueFor_7 : decode cX9_trueFor 7 = .ok (.bipush 16, 2) := by decide +kernel
theorem dX9_trueFor_9 : decode cX9_trueFor 9 = .ok (.if_icmp .ge 41, 3) := by decide +kernel
theorem dX9_trueFor_12 : decode cX9_trueFor 12 = .ok (.aload_n 0, 1) := by decide +kernel
theorem dX9_trueFor_13 : decode cX9_trueFor 13 = .ok (.iload 4, 2) := by decide +kernel
theorem dX9_trueFor_15 : decode cX9_trueFor 15 = .ok (.invokevirtual 100, 3) := by decide +kernel
theorem dX9_trueFor_18 : decode cX9_trueFor 18 = .ok (.ifCond .eq 26, 3) := by decide +kernel
theorem dX9_trueFor_21 : decode cX9_trueFor 21 = .ok (.iload_n 1, 1) := by decide +kernel
theorem dX9_trueFor_22 : decode cX9_trueFor 22 = .ok (.iload 4, 2) := by decide +kernel
theorem dX9_trueFor_24 : decode cX9_trueFor 24 = .ok (.iconst (-1), 1) := by decide +kernel
theorem dX9_trueFor_25 : decode cX9_trueFor 25 = .ok (.ixor, 1) := by decide +kernel
theorem dX9_trueFor_26 : decode cX9_trueFor 26 = .ok (.iand, 1) := by decide +kernel
theorem dX9_trueFor_27 : decode cX9_trueFor 27 = .ok (.ifCond .ne 17, 3) := by decide +kernel
theorem dX9_trueFor_30 : decode cX9_trueFor 30 = .ok (.iload_n 2, 1) := by decide +kernel
theorem dX9_trueFor_31 : decode cX9_trueFor 31 = .ok (.iload 4, 2) := by decide +kernel
theorem dX9_trueFor_33 : decode cX9_trueFor 33 = .ok (.iand, 1) := by decide +kernel
theorem dX9_trueFor_34 : decode cX9_trueFor 34 = .ok (.ifCond .ne 10, 3) := by decide +kernel
theorem dX9_trueFor_37 : decode cX9_trueFor 37 = .ok (.iload_n 3, 1) := by decide +kernel
theorem dX9_trueFor_38 : decode cX9_trueFor 38 = .ok (.iconst 1, 1) := by decide +kernel
theorem dX9_trueFor_39 : decode cX9_trueFor 39 = .ok (.iload 4, 2) := by decide +kernel
theorem dX9_trueFor_41 : decode cX9_trueFor 41 = .ok (.ishl, 1) := by decide +kernel
theorem dX9_trueFor_42 : decode cX9_trueFor 42 = .ok (.ior, 1) := by decide +kernel
theorem dX9_trueFor_43 : decode cX9_trueFor 43 = .ok (.istore_n 3, 1) := by decide +kernel
theorem dX9_trueFor_44 : decode cX9_trueFor 44 = .ok (.iinc 4 1, 3) := by decide +kernel
theorem dX9_trueFor_47 : decode cX9_trueFor 47 = .ok (.goto (-42), 3) := by decide +kernel
theorem dX9_trueFor_50 : decode cX9_trueFor 50 = .ok (.iload_n 3, 1) := by decide +kernel
theorem dX9_trueFor_51 : decode cX9_trueFor 51 = .ok (.ireturn, 1) := by decide +kernel
set_option maxRecDepth 20000 in
theorem ggX9_culprit_X9_rightSet : GoodIn wsX9_culprit wsX9_rightSet := goodIn_r _ [6, 7, 8, 9, 10, 5, 11, 12, 13, 14, 15, 16, 17, 18, 19, 20, 21, 22, 23, 24, 25, 26, 27, 28, 29, 30, 31, 32, 33, 34, 35, 36, 37, 38, 39, 40, 41, 42, 43, 44, 45, 46, 47, 48, 49, 50, 51, 52, 53, 54, 55, 56, 57, 58, 59, 60, 61, 62, 63, 64, 65, 66, 67, 68, 69, 70, 71, 72, 73, 74, 75, 76, 77, 78, 79, 80, 81, 82, 83, 84, 85, 86, 87, 88, 89, 90, 91, 92, 93, 94, 95, 96, 97, 98, 99, 111, 112, 113, 114, 115, 116, 117, 118, 119, 120, 121, 122, 123, 124, 125, 126, 127, 128, 129, 130, 131, 132, 133, 134] (by decide +kernel) (by decide +kernel)
set_option maxRecDepth 20000 in
theorem gX9_culprit_X9_rightSet : GoodIn wsX9_culprit (wsV RX9 191 RX9 yX9_rightSet wsX9_rightSet) := goodIn_app (goodIn_of _ (by decide +kernel)) ggX9_culprit_X9_rightSet
set_option maxRecDepth 20000 in
theorem ggX9_culprit_X9_trueFor : GoodIn wsX9_culprit wsX9_trueFor := goodIn_r _ [103, 19, 20, 21, 5, 22, 23, 24, 25, 26, 27, 28, 29, 30, 31, 32, 111, 112, 113, 114, 115, 116, 117, 118, 119, 120, 121, 122, 123, 124, 125, 126, 127, 128, 129, 130, 131, 132, 133, 134] (by decide +kernel) (by decide +kernel)
set_option maxRecDepth 20000 in
theorem gX9_culprit_X9_trueFor : GoodIn wsX9_culprit (wsV RX9 194 RX9 yX9_trueFor wsX9_trueFor) := goodIn_app (goodIn_of _ (by decide +kernel)) ggX9_culprit_X9_trueFor
set_option maxRecDepth 20000 in
theorem ggX9_culprit_J6_bitCount_0f7a4 : GoodIn wsX9_culprit wsJ6_bitCount_0f7a4 := goodIn_r _ [107, 108, 109, 110] (by decide +kernel) (by decide +kernel)
set_option maxRecDepth 20000 in
theorem gX9_culprit_J6_bitCount_0f7a4 : GoodIn wsX9_culprit (va_wsS RX9 197 yJ6_bitCount_0f7a4 wsJ6_bitCount_0f7a4) := goodIn_app (goodIn_of _ (by decide +kernel)) ggX9_culprit_J6_bitCount_0f7a4
theorem dX9_culprit_0 : decode cX9_culprit 0 = .ok (.aload_n 0, 1) := by decide +kernel
theorem dX9_culprit_1 : decode cX9_culprit 1 = .ok (.iconst 0, 1) := by decide +kernel
theorem dX9_culprit_2 : decode cX9_culprit 2 = .ok (.putfield 71, 3) := by decide +kernel
theorem dX9_culprit_5 : decode cX9_culprit 5 = .ok (.aload_n 0, 1) := by decide +kernel
theorem dX9_culprit_6 : decode cX9_culprit 6 = .ok (.invokevirtual 191, 3) := by decide +kernel
theorem dX9_culprit_9 : decode cX9_culprit 9 = .ok (.istore_n 1, 1) := by decide +kernel
theorem dX9_culprit_10 : decode cX9_culprit 10 = .ok (.iconst (-1), 1) := by decide +kernel
theorem dX9_culprit_11 : decode cX9_culprit 11 = .ok (.istore_n 2, 1) := by decide +kernel
theorem dX9_culprit_12 : decode cX9_culprit 12 = .ok (.iconst 0, 1) := by decide +kernel
theorem dX9_culprit_13 : decode cX9_culprit 13 = .ok (.istore_n 3, 1) := by decide +kernel
theorem dX9_culprit_14 : decode cX9_culprit 14 = .ok (.iload_n 3, 1) := by decide +kernel
theorem dX9_culprit_15 : decode cX9_culprit 15 = .ok (.sipush 256, 3) := by decide +kernel
theorem dX9_culprit_18 : decode cX9_culprit 18 = .ok (.if_icmp .ge 72, 3) := by decide +kernel
theorem dX9_culprit_21 : decode cX9_culprit 21 = .ok (.iload_n 3, 1) := by decide +kernel
theorem dX9_culprit_22 : decode cX9_culprit 22 = .ok (.bipush 16, 2) := by decide +kernel
theorem dX9_culprit_24 : decode cX9_culprit 24 = .ok (.idiv, 1) := by decide +kernel
theorem dX9_culprit_25 : decode cX9_culprit 25 = .ok (.istore 4, 2) := by decide +kernel
theorem dX9_culprit_27 : decode cX9_culprit 27 = .ok (.iload_n 3, 1) := by decide +kernel
theorem dX9_culprit_28 : decode cX9_culprit 28 = .ok (.bipush 16, 2) := by decide +kernel
theorem dX9_culprit_30 : decode cX9_culprit 30 = .ok (.irem, 1) := by decide +kernel
theorem dX9_culprit_31 : decode cX9_culprit 31 = .ok (.istore 5, 2) := by decide +kernel
theorem dX9_culprit_33 : decode cX9_culprit 33 = .ok (.aload_n 0, 1) := by decide +kernel
theorem dX9_culprit_34 : decode cX9_culprit 34 = .ok (.iload 4, 2) := by decide +kernel
theorem dX9_culprit_36 : decode cX9_culprit 36 = .ok (.iload 5, 2) := by decide +kernel
theorem dX9_culprit_38 : decode cX9_culprit 38 = .ok (.invokevirtual 194, 3) := by decide +kernel
theorem dX9_culprit_41 : decode cX9_culprit 41 = .ok (.istore 6, 2) := by decide +kernel
theorem dX9_culprit_43 : decode cX9_culprit 43 = .ok (.iload 4, 2) := by decide +kernel
theorem dX9_culprit_45 : decode cX9_culprit 45 = .ok (.iload 5, 2) := by decide +kernel
theorem dX9_culprit_47 : decode cX9_culprit 47 = .ok (.iand, 1) := by decide +kernel
theorem dX9_culprit_48 : decode cX9_culprit 48 = .ok (.ifCond .ne 36, 3) := by decide +kernel
theorem dX9_culprit_51 : decode cX9_culprit 51 = .ok (.iload 6, 2) := by decide +kernel
theorem dX9_culprit_53 : decode cX9_culprit 53 = .ok (.ifCond .eq 31, 3) := by decide +kernel
theorem dX9_culprit_56 : decode cX9_culprit 56 = .ok (.iload 6, 2) := by decide +kernel
theorem dX9_culprit_58 : decode cX9_culprit 58 = .ok (.iload_n 1, 1) := by decide +kernel
theorem dX9_culprit_59 : decode cX9_culprit 59 = .ok (.iand, 1) := by decide +kernel
theorem dX9_culprit_60 : decode cX9_culprit 60 = .ok (.ifCond .eq 6, 3) := by decide +kernel
theorem dX9_culprit_63 : decode cX9_culprit 63 = .ok (.goto 21, 3) := by decide +kernel
theorem dX9_culprit_66 : decode cX9_culprit 66 = .ok (.iload_n 2, 1) := by decide +kernel
theorem dX9_culprit_67 : decode cX9_culprit 67 = .ok (.iconst (-1), 1) := by decide +kernel
theorem dX9_culprit_68 : decode cX9_culprit 68 = .ok (.if_icmp .eq 14, 3) := by decide +kernel
theorem dX9_culprit_71 : decode cX9_culprit 71 = .ok (.iload_n 3, 1) := by decide +kernel
theorem dX9_culprit_72 : decode cX9_culprit 72 = .ok (.invokestatic 197, 3) := by decide +kernel
theorem dX9_culprit_75 : decode cX9_culprit 75 = .ok (.iload_n 2, 1) := by decide +kernel
theorem dX9_culprit_76 : decode cX9_culprit 76 = .ok (.invokestatic 197, 3) := by decide +kernel
theorem dX9_culprit_79 : decode cX9_culprit 79 = .ok (.if_icmp .ge 5, 3) := by decide +kernel
theorem dX9_culprit_82 : decode cX9_culprit 82 = .ok (.iload_n 3, 1) := by decide +kernel
theorem dX9_culprit_83 : decode cX9_culprit 83 = .ok (.istore_n 2, 1) := by decide +kernel
theorem dX9_culprit_84 : decode cX9_culprit 84 = .ok (.iinc 3 1, 3) := by decide +kernel
theorem dX9_culprit_87 : decode cX9_culprit 87 = .ok (.goto (-73), 3) := by decide +kernel
theorem dX9_culprit_90 : decode cX9_culprit 90 = .ok (.iload_n 2, 1) := by decide +kernel
theorem dX9_culprit_91 : decode cX9_culprit 91 = .ok (.ireturn, 1) := by decide +kernel
set_option maxRecDepth 20000 in
theorem ggX9_share_X9_allProducts : GoodIn wsX9_share wsX9_allProducts := goodIn_r _ [6, 7, 8, 9, 5, 10, 11, 12, 13, 14, 15, 16, 17, 18, 19, 20, 107, 108, 109, 110, 111, 112, 113, 114, 115, 116, 117, 118, 119, 120, 121, 122, 123, 124, 125, 126, 127, 128, 129, 130] (by decide +kernel) (by decide +kernel)
set_option maxRecDepth 20000 in
theorem gX9_share_X9_allProducts : GoodIn wsX9_share (wsV RX9 104 RX9 yX9_allProducts wsX9_allProducts) := goodIn_app (goodIn_of _ (by decide +kernel)) ggX9_share_X9_allProducts
set_option maxRecDepth 20000 in
theorem ggX9_share_J6_bitCount_0f7a4 : GoodIn wsX9_share wsJ6_bitCount_0f7a4 := goodIn_r _ [24, 25, 26, 27] (by decide +kernel) (by decide +kernel)
set_option maxRecDepth 20000 in
theorem gX9_share_J6_bitCount_0f7a4 : GoodIn wsX9_share (va_wsS RX9 197 yJ6_bitCount_0f7a4 wsJ6_bitCount_0f7a4) := goodIn_app (goodIn_of _ (by decide +kernel)) ggX9_share_J6_bitCount_0f7a4
set_option maxRecDepth 20000 in
theorem ggX9_share_X9_rightSet : GoodIn wsX9_share wsX9_rightSet := goodIn_r _ [31, 32, 33, 34, 35, 5, 36, 37, 38, 39, 40, 41, 42, 43, 7, 8, 9, 10, 11, 12, 13, 14, 15, 16, 17, 18, 19, 20, 44, 45, 46, 47, 48, 49, 50, 51, 52, 53, 54, 55, 56, 57, 58, 59, 60, 61, 62, 63, 64, 65, 66, 67, 68, 69, 70, 71, 72, 73, 74, 75, 76, 77, 78, 79, 80, 81, 82, 83, 84, 85, 86, 87, 88, 89, 90, 91, 92, 93, 94, 95, 96, 97, 98, 99, 100, 101, 102, 103, 104, 105, 106, 2, 3, 4, 6, 107, 108, 109, 110, 111, 112, 113, 114, 115, 116, 117, 118, 119, 120, 121, 122, 123, 124, 125, 126, 127, 128, 129, 130] (by decide +kernel) (by decide +kernel)
set_option maxRecDepth 20000 in
theorem gX9_share_X9_rightSet : GoodIn wsX9_share (wsV RX9 191 RX9 yX9_rightSet wsX9_rightSet) := goodIn_app (goodIn_of _ (by decide +kernel)) ggX9_share_X9_rightSet
theorem dX9_share_0 : decode cX9_share 0 = .ok (.aload_n 0, 1) := by decide +kernel
theorem dX9_share_1 : decode cX9_share 1 = .ok (.iconst 0, 1) := by decide +kernel
theorem dX9_share_2 : decode cX9_share 2 = .ok (.putfield 71, 3) := by decide +kernel
theorem dX9_share_5 : decode cX9_share 5 = .ok (.aload_n 0, 1) := by decide +kernel
theorem dX9_share_6 : decode cX9_share 6 = .ok (.invokevirtual 104, 3) := by decide +kernel
theorem dX9_share_9 : decode cX9_share 9 = .ok (.invokestatic 197, 3) := by decide +kernel
theorem dX9_share_12 : decode cX9_share 12 = .ok (.istore_n 1, 1) := by decide +kernel
theorem dX9_share_13 : decode cX9_share 13 = .ok (.iload_n 1, 1) := by decide +kernel
theorem dX9_share_14 : decode cX9_share 14 = .ok (.ifCond .ne 7, 3) := by decide +kernel
theorem dX9_share_17 : decode cX9_share 17 = .ok (.dconst 0, 1) := by decide +kernel
theorem dX9_share_18 : decode cX9_share 18 = .ok (.goto 14, 3) := by decide +kernel
theorem dX9_share_21 : decode cX9_share 21 = .ok (.aload_n 0, 1) := by decide +kernel
theorem dX9_share_22 : decode cX9_share 22 = .ok (.invokevirtual 191, 3) := by decide +kernel
theorem dX9_share_25 : decode cX9_share 25 = .ok (.invokestatic 197, 3) := by decide +kernel
theorem dX9_share_28 : decode cX9_share 28 = .ok (.i2d, 1) := by decide +kernel
theorem dX9_share_29 : decode cX9_share 29 = .ok (.iload_n 1, 1) := by decide +kernel
theorem dX9_share_30 : decode cX9_share 30 = .ok (.i2d, 1) := by decide +kernel
theorem dX9_share_31 : decode cX9_share 31 = .ok (.ddiv, 1) := by decide +kernel
theorem dX9_share_32 : decode cX9_share 32 = .ok (.dreturn, 1) := by decide +kernel
set_option maxRecDepth 20000 in
theorem ggX9_digest_X9_allProducts : GoodIn wsX9_digest wsX9_allProducts := goodIn_r _ [11, 12, 13, 14, 10, 15, 16, 17, 18, 19, 20, 21, 22, 23, 24, 25, 106, 107, 108, 109, 110, 111, 112, 113, 114, 115, 116, 117, 118, 119, 120, 121, 122, 123, 124, 125, 126, 127, 128, 129] (by decide +kernel) (by decide +kernel)
set_option maxRecDepth 20000 in
theorem gX9_digest_X9_allProducts : GoodIn wsX9_digest (wsV RX9 104 RX9 yX9_allProducts wsX9_allProducts) := goodIn_app (goodIn_of _ (by decide +kernel)) ggX9_digest_X9_allProducts
set_option maxRecDepth 20000 in
theorem ggX9_digest_X9_presenceOf : GoodIn wsX9_digest wsX9_presenceOf := goodIn_r _ [29, 12, 13, 14, 10, 15, 16, 17, 18, 19, 20, 21, 22, 23, 24, 25, 30, 31, 32, 33, 34, 35, 36, 37, 38, 39, 40, 41, 42, 43, 44, 106, 107, 108, 109, 110, 111, 112, 113, 114, 115, 116, 117, 118, 119, 120, 121, 122, 123, 124, 125, 126, 127, 128, 129] (by decide +kernel) (by decide +kernel)
set_option maxRecDepth 20000 in
theorem gX9_digest_X9_presenceOf : GoodIn wsX9_digest (wsV RX9 182 RX9 yX9_presenceOf wsX9_presenceOf) := goodIn_app (goodIn_of _ (by decide +kernel)) ggX9_digest_X9_presenceOf
set_option maxRecDepth 20000 in
theorem ggX9_digest_X9_countErrors : GoodIn wsX9_digest wsX9_countErrors := goodIn_r _ [48, 6, 49, 50, 51, 10, 52, 53, 5, 54, 37, 4, 38, 55, 12, 13, 14, 15, 16, 17, 18, 19, 20, 21, 22, 23, 24, 25, 56, 57, 58, 59, 34, 35, 36, 39, 40, 41, 42, 43, 44, 30, 31, 32, 33, 60, 61, 62, 63, 64, 65, 66, 67, 68, 69, 70, 71, 72, 73, 74, 75, 76, 77, 78, 79, 80, 81, 82, 83, 84, 85, 86, 87, 88, 89, 90, 91, 92, 93, 94, 95, 96, 97, 98, 99, 100, 101, 102, 103, 104, 105, 106, 107, 108, 109, 110, 111, 112, 113, 114, 115, 116, 117, 118, 119, 120, 121, 122, 123, 124, 125, 126, 127, 128, 129] (by decide +kernel) (by decide +kernel)
set_option maxRecDepth 20000 in
theorem gX9_digest_X9_countErrors : GoodIn wsX9_digest (wsV RX9 188 RX9 yX9_countErrors wsX9_countErrors) := goodIn_app (goodIn_of _ (by decide +kernel)) ggX9_digest_X9_countErrors
set_option maxRecDepth 20000 in
theorem ggX9_digest_X9_isProduct : GoodIn wsX9_digest wsX9_isProduct := goodIn_r _ [15, 16, 17, 18, 19, 20, 21, 10, 22, 23, 24, 25, 106, 107, 108, 109, 110, 111, 112, 113, 114, 115, 116, 117, 118, 119, 120, 121, 122, 123, 124, 125, 126, 127, 128, 129] (by decide +kernel) (by decide +kernel)
set_option maxRecDepth 20000 in
theorem gX9_digest_X9_isProduct : GoodIn wsX9_digest (wsV RX9 100 RX9 yX9_isProduct wsX9_isProduct) := goodIn_app (goodIn_of _ (by decide +kernel)) ggX9_digest_X9_isProduct
set_option maxRecDepth 20000 in
theorem ggX9_digest_X9_typeIn : GoodIn wsX9_digest wsX9_typeIn := goodIn_r _ [101, 54, 106, 107, 108, 109, 110, 111, 112, 113, 114, 115, 116, 117, 118, 119, 120, 121, 122, 123, 124, 125, 126, 127, 128, 129] (by decide +kernel) (by decide +kernel)
set_option maxRecDepth 20000 in
theorem gX9_digest_X9_typeIn : GoodIn wsX9_digest (wsV RX9 155 RX9 yX9_typeIn wsX9_typeIn) := goodIn_app (goodIn_of _ (by decide +kernel)) ggX9_digest_X9_typeIn
theorem dX9_digest_0 : decode cX9_digest 0 = .ok (.aload_n 0, 1) := by decide +kernel
theorem dX9_digest_1 : decode cX9_digest 1 = .ok (.iconst 0, 1) := by decide +kernel
theorem dX9_digest_2 : decode cX9_digest 2 = .ok (.putfield 71, 3) := by decide +kernel
theorem dX9_digest_5 : decode cX9_digest 5 = .ok (.ldc2_w 202, 3) := by decide +kernel
theorem dX9_digest_8 : decode cX9_digest 8 = .ok (.aload_n 0, 1) := by decide +kernel
theorem dX9_digest_9 : decode cX9_digest 9 = .ok (.invokevirtual 104, 3) := by decide +kernel
theorem dX9_digest_12 : decode cX9_digest 12 = .ok (.i2l, 1) := by decide +kernel
theorem dX9_digest_13 : decode cX9_digest 13 = .ok (.ladd, 1) := by decide +kernel
theorem dX9_digest_14 : decode cX9_digest 14 = .ok (.lstore_n 1, 1) := by decide +kernel
theorem dX9_digest_15 : decode cX9_digest 15 = .ok (.iconst 0, 1) := by decide +kernel
theorem dX9_digest_16 : decode cX9_digest 16 = .ok (.istore_n 3, 1) := by decide +kernel
theorem dX9_digest_17 : decode cX9_digest 17 = .ok (.iload_n 3, 1) := by decide +kernel
theorem dX9_digest_18 : decode cX9_digest 18 = .ok (.iconst 3, 1) := by decide +kernel
theorem dX9_digest_19 : decode cX9_digest 19 = .ok (.if_icmp .gt 23, 3) := by decide +kernel
theorem dX9_digest_22 : decode cX9_digest 22 = .ok (.lload_n 1, 1) := by decide +kernel
theorem dX9_digest_23 : decode cX9_digest 23 = .ok (.ldc2_w 204, 3) := by decide +kernel
theorem dX9_digest_26 : decode cX9_digest 26 = .ok (.lmul, 1) := by decide +kernel
theorem dX9_digest_27 : decode cX9_digest 27 = .ok (.aload_n 0, 1) := by decide +kernel
theorem dX9_digest_28 : decode cX9_digest 28 = .ok (.getfield 19, 3) := by decide +kernel
theorem dX9_digest_31 : decode cX9_digest 31 = .ok (.iload_n 3, 1) := by decide +kernel
theorem dX9_digest_32 : decode cX9_digest 32 = .ok (.iaload, 1) := by decide +kernel
theorem dX9_digest_33 : decode cX9_digest 33 = .ok (.i2l, 1) := by decide +kernel
theorem dX9_digest_34 : decode cX9_digest 34 = .ok (.ladd, 1) := by decide +kernel
theorem dX9_digest_35 : decode cX9_digest 35 = .ok (.lstore_n 1, 1) := by decide +kernel
theorem dX9_digest_36 : decode cX9_digest 36 = .ok (.iinc 3 1, 3) := by decide +kernel
theorem dX9_digest_39 : decode cX9_digest 39 = .ok (.goto (-22), 3) := by decide +kernel
theorem dX9_digest_42 : decode cX9_digest 42 = .ok (.lload_n 1, 1) := by decide +kernel
theorem dX9_digest_43 : decode cX9_digest 43 = .ok (.ldc2_w 204, 3) := by decide +kernel
theorem dX9_digest_46 : decode cX9_digest 46 = .ok (.lmul, 1) := by decide +kernel
theorem dX9_digest_47 : decode cX9_digest 47 = .ok (.aload_n 0, 1) := by decide +kernel
theorem dX9_digest_48 : decode cX9_digest 48 = .ok (.getfield 83, 3) := by decide +kernel
theorem dX9_digest_51 : decode cX9_digest 51 = .ok (.i2l, 1) := by decide +kernel
theorem dX9_digest_52 : decode cX9_digest 52 = .ok (.ladd, 1) := by decide +kernel
theorem dX9_digest_53 : decode cX9_digest 53 = .ok (.lstore_n 1, 1) := by decide +kernel
theorem dX9_digest_54 : decode cX9_digest 54 = .ok (.iconst 0, 1) := by decide +kernel
theorem dX9_digest_55 : decode cX9_digest 55 = .ok (.istore_n 3, 1) := by decide +kernel
theorem dX9_digest_56 : decode cX9_digest 56 = .ok (.iload_n 3, 1) := by decide +kernel
theorem dX9_digest_57 : decode cX9_digest 57 = .ok (.iconst 3, 1) := by decide +kernel
theorem dX9_digest_58 : decode cX9_digest 58 = .ok (.if_icmp .gt 44, 3) := by decide +kernel
theorem dX9_digest_61 : decode cX9_digest 61 = .ok (.iconst 0, 1) := by decide +kernel
theorem dX9_digest_62 : decode cX9_digest 62 = .ok (.istore 4, 2) := by decide +kernel
theorem dX9_digest_64 : decode cX9_digest 64 = .ok (.iload 4, 2) := by decide +kernel
theorem dX9_digest_66 : decode cX9_digest 66 = .ok (.aload_n 0, 1) := by decide +kernel
theorem dX9_digest_67 : decode cX9_digest 67 = .ok (.getfield 19, 3) := by decide +kernel
theorem dX9_digest_70 : decode cX9_digest 70 = .ok (.iload_n 3, 1) := by decide +kernel
theorem dX9_digest_71 : decode cX9_digest 71 = .ok (.iaload, 1) := by decide +kernel
theorem dX9_digest_72 : decode cX9_digest 72 = .ok (.if_icmp .ge 24, 3) := by decide +kernel
theorem dX9_digest_75 : decode cX9_digest 75 = .ok (.lload_n 1, 1) := by decide +kernel
theorem dX9_digest_76 : decode cX9_digest 76 = .ok (.ldc2_w 204, 3) := by decide +kernel
theorem dX9_digest_79 : decode cX9_digest 79 = .ok (.lmul, 1) := by decide +kernel
theorem dX9_digest_80 : decode cX9_digest 80 = .ok (.aload_n 0, 1) := by decide +kernel
theorem dX9_digest_81 : decode cX9_digest 81 = .ok (.iload_n 3, 1) := by decide +kernel
theorem dX9_digest_82 : decode cX9_digest 82 = .ok (.iload 4, 2) := by decide +kernel
theorem dX9_digest_84 : decode cX9_digest 84 = .ok (.invokevirtual 182, 3) := by decide +kernel
theorem dX9_digest_87 : decode cX9_digest 87 = .ok (.i2l, 1) := by decide +kernel
theorem dX9_digest_88 : decode cX9_digest 88 = .ok (.ladd, 1) := by decide +kernel
theorem dX9_digest_89 : decode cX9_digest 89 = .ok (.lstore_n 1, 1) := by decide +kernel
theorem dX9_digest_90 : decode cX9_digest 90 = .ok (.iinc 4 1, 3) := by decide +kernel
theorem dX9_digest_93 : decode cX9_digest 93 = .ok (.goto (-29), 3) := by decide +kernel
theorem dX9_digest_96 : decode cX9_digest 96 = .ok (.iinc 3 1, 3) := by decide +kernel
theorem dX9_digest_99 : decode cX9_digest 99 = .ok (.goto (-43), 3) := by decide +kernel
theorem dX9_digest_102 : decode cX9_digest 102 = .ok (.lload_n 1, 1) := by decide +kernel
theorem dX9_digest_103 : decode cX9_digest 103 = .ok (.ldc2_w 204, 3) := by decide +kernel
theorem dX9_digest_106 : decode cX9_digest 106 = .ok (.lmul, 1) := by decide +kernel
theorem dX9_digest_107 : decode cX9_digest 107 = .ok (.aload_n 0, 1) := by decide +kernel
theorem dX9_digest_108 : decode cX9_digest 108 = .ok (.invokevirtual 188, 3) := by decide +kernel
theorem dX9_digest_111 : decode cX9_digest 111 = .ok (.i2l, 1) := by decide +kernel
theorem dX9_digest_112 : decode cX9_digest 112 = .ok (.ladd, 1) := by decide +kernel
theorem dX9_digest_113 : decode cX9_digest 113 = .ok (.lstore_n 1, 1) := by decide +kernel
theorem dX9_digest_114 : decode cX9_digest 114 = .ok (.iconst 0, 1) := by decide +kernel
theorem dX9_digest_115 : decode cX9_digest 115 = .ok (.istore_n 3, 1) := by decide +kernel
theorem dX9_digest_116 : decode cX9_digest 116 = .ok (.iload_n 3, 1) := by decide +kernel
theorem dX9_digest_117 : decode cX9_digest 117 = .ok (.sipush 650, 3) := by decide +kernel
theorem dX9_digest_120 : decode cX9_digest 120 = .ok (.if_icmp .ge 52, 3) := by decide +kernel
theorem dX9_digest_123 : decode cX9_digest 123 = .ok (.aload_n 0, 1) := by decide +kernel
theorem dX9_digest_124 : decode cX9_digest 124 = .ok (.getfield 68, 3) := by decide +kernel
theorem dX9_digest_127 : decode cX9_digest 127 = .ok (.iload_n 3, 1) := by decide +kernel
theorem dX9_digest_128 : decode cX9_digest 128 = .ok (.iaload, 1) := by decide +kernel
theorem dX9_digest_129 : decode cX9_digest 129 = .ok (.ifCond .eq 37, 3) := by decide +kernel
theorem dX9_digest_132 : decode cX9_digest 132 = .ok (.lload_n 1, 1) := by decide +kernel
theorem dX9_digest_133 : decode cX9_digest 133 = .ok (.ldc2_w 204, 3) := by decide +kernel
theorem dX9_digest_136 : decode cX9_digest 136 = .ok (.lmul, 1) := by decide +kernel
theorem dX9_digest_137 : decode cX9_digest 137 = .ok (.iload_n 3, 1) := by decide +kernel
theorem dX9_digest_138 : decode cX9_digest 138 = .ok (.bipush 50, 2) := by decide +kernel
theorem dX9_digest_140 : decode cX9_digest 140 = .ok (.idiv, 1) := by decide +kernel
theorem dX9_digest_141 : decode cX9_digest 141 = .ok (.i2l, 1) := by decide +kernel
theorem dX9_digest_142 : decode cX9_digest 142 = .ok (.ladd, 1) := by decide +kernel
theorem dX9_digest_143 : decode cX9_digest 143 = .ok (.ldc2_w 204, 3) := by decide +kernel
theorem dX9_digest_146 : decode cX9_digest 146 = .ok (.lmul, 1) := by decide +kernel
theorem dX9_digest_147 : decode cX9_digest 147 = .ok (.iload_n 3, 1) := by decide +kernel
theorem dX9_digest_148 : decode cX9_digest 148 = .ok (.bipush 50, 2) := by decide +kernel
theorem dX9_digest_150 : decode cX9_digest 150 = .ok (.irem, 1) := by decide +kernel
theorem dX9_digest_151 : decode cX9_digest 151 = .ok (.i2l, 1) := by decide +kernel
theorem dX9_digest_152 : decode cX9_digest 152 = .ok (.ladd, 1) := by decide +kernel
theorem dX9_digest_153 : decode cX9_digest 153 = .ok (.ldc2_w 204, 3) := by decide +kernel
theorem dX9_digest_156 : decode cX9_digest 156 = .ok (.lmul, 1) := by decide +kernel
theorem dX9_digest_157 : decode cX9_digest 157 = .ok (.aload_n 0, 1) := by decide +kernel
theorem dX9_digest_158 : decode cX9_digest 158 = .ok (.getfield 68, 3) := by decide +kernel
theorem dX9_digest_161 : decode cX9_digest 161 = .ok (.iload_n 3, 1) := by decide +kernel
theorem dX9_digest_162 : decode cX9_digest 162 = .ok (.iaload, 1) := by decide +kernel
theorem dX9_digest_163 : decode cX9_digest 163 = .ok (.i2l, 1) := by decide +kernel
theorem dX9_digest_164 : decode cX9_digest 164 = .ok (.ladd, 1) := by decide +kernel
theorem dX9_digest_165 : decode cX9_digest 165 = .ok (.lstore_n 1, 1) := by decide +kernel
theorem dX9_digest_166 : decode cX9_digest 166 = .ok (.iinc 3 1, 3) := by decide +kernel
theorem dX9_digest_169 : decode cX9_digest 169 = .ok (.goto (-53), 3) := by decide +kernel
theorem dX9_digest_172 : decode cX9_digest 172 = .ok (.iconst 0, 1) := by decide +kernel
theorem dX9_digest_173 : decode cX9_digest 173 = .ok (.istore_n 3, 1) := by decide +kernel
theorem dX9_digest_174 : decode cX9_digest 174 = .ok (.iload_n 3, 1) := by decide +kernel
theorem dX9_digest_175 : decode cX9_digest 175 = .ok (.aload_n 0, 1) := by decide +kernel
theorem dX9_digest_176 : decode cX9_digest 176 = .ok (.getfield 83, 3) := by decide +kernel
theorem dX9_digest_179 : decode cX9_digest 179 = .ok (.if_icmp .ge 49, 3) := by decide +kernel
theorem dX9_digest_182 : decode cX9_digest 182 = .ok (.iconst 0, 1) := by decide +kernel
theorem dX9_digest_183 : decode cX9_digest 183 = .ok (.istore 4, 2) := by decide +kernel
theorem dX9_digest_185 : decode cX9_digest 185 = .ok (.iload 4, 2) := by decide +kernel
theorem dX9_digest_187 : decode cX9_digest 187 = .ok (.bipush 16, 2) := by decide +kernel
theorem dX9_digest_189 : decode cX9_digest 189 = .ok (.if_icmp .ge 33, 3) := by decide +kernel
theorem dX9_digest_192 : decode cX9_digest 192 = .ok (.aload_n 0, 1) := by decide +kernel
theorem dX9_digest_193 : decode cX9_digest 193 = .ok (.iload 4, 2) := by decide +kernel
theorem dX9_digest_195 : decode cX9_digest 195 = .ok (.invokevirtual 100, 3) := by decide +kernel
theorem dX9_digest_198 : decode cX9_digest 198 = .ok (.ifCond .eq 18, 3) := by decide +kernel
theorem dX9_digest_201 : decode cX9_digest 201 = .ok (.lload_n 1, 1) := by decide +kernel
theorem dX9_digest_202 : decode cX9_digest 202 = .ok (.ldc2_w 204, 3) := by decide +kernel
theorem dX9_digest_205 : decode cX9_digest 205 = .ok (.lmul, 1) := by decide +kernel
theorem dX9_digest_206 : decode cX9_digest 206 = .ok (.aload_n 0, 1) := by decide +kernel
theorem dX9_digest_207 : decode cX9_digest 207 = .ok (.iload_n 3, 1) := by decide +kernel
theorem dX9_digest_208 : decode cX9_digest 208 = .ok (.iload 4, 2) := by decide +kernel
theorem dX9_digest_210 : decode cX9_digest 210 = .ok (.invokevirtual 155, 3) := by decide +kernel
theorem dX9_digest_213 : decode cX9_digest 213 = .ok (.i2l, 1) := by decide +kernel
theorem dX9_digest_214 : decode cX9_digest 214 = .ok (.ladd, 1) := by decide +kernel
theorem dX9_digest_215 : decode cX9_digest 215 = .ok (.lstore_n 1, 1) := by decide +kernel
theorem dX9_digest_216 : decode cX9_digest 216 = .ok (.iinc 4 1, 3) := by decide +kernel
theorem dX9_digest_219 : decode cX9_digest 219 = .ok (.goto (-34), 3) := by decide +kernel
theorem dX9_digest_222 : decode cX9_digest 222 = .ok (.iinc 3 1, 3) := by decide +kernel
theorem dX9_digest_225 : decode cX9_digest 225 = .ok (.goto (-51), 3) := by decide +kernel
theorem dX9_digest_228 : decode cX9_digest 228 = .ok (.lload_n 1, 1) := by decide +kernel
theorem dX9_digest_229 : decode cX9_digest 229 = .ok (.lreturn, 1) := by decide +kernel
theorem dJ6_bitCount_0f7a4_0 : decode cJ6_bitCount_0f7a4 0 = .ok (.iload_n 0, 1) := by decide +kernel
theorem dJ6_bitCount_0f7a4_1 : decode cJ6_bitCount_0f7a4 1 = .ok (.iload_n 0, 1) := by decide +kernel
theorem dJ6_bitCount_0f7a4_2 : decode cJ6_bitCount_0f7a4 2 = .ok (.iconst 1, 1) := by decide +kernel
theorem dJ6_bitCount_0f7a4_3 : decode cJ6_bitCount_0f7a4 3 = .ok (.iushr, 1) := by decide +kernel
theorem dJ6_bitCount_0f7a4_4 : decode cJ6_bitCount_0f7a4 4 = .ok (.ldc_w 265, 3) := by decide +kernel
theorem dJ6_bitCount_0f7a4_7 : decode cJ6_bitCount_0f7a4 7 = .ok (.iand, 1) := by decide +kernel
theorem dJ6_bitCount_0f7a4_8 : decode cJ6_bitCount_0f7a4 8 = .ok (.isub, 1) := by decide +kernel
theorem dJ6_bitCount_0f7a4_9 : decode cJ6_bitCount_0f7a4 9 = .ok (.istore_n 0, 1) := by decide +kernel
theorem dJ6_bitCount_0f7a4_10 : decode cJ6_bitCount_0f7a4 10 = .ok (.iload_n 0, 1) := by decide +kernel
theorem dJ6_bitCount_0f7a4_11 : decode cJ6_bitCount_0f7a4 11 = .ok (.ldc_w 266, 3) := by decide +kernel
theorem dJ6_bitCount_0f7a4_14 : decode cJ6_bitCount_0f7a4 14 = .ok (.iand, 1) := by decide +kernel
theorem dJ6_bitCount_0f7a4_15 : decode cJ6_bitCount_0f7a4 15 = .ok (.iload_n 0, 1) := by decide +kernel
theorem dJ6_bitCount_0f7a4_16 : decode cJ6_bitCount_0f7a4 16 = .ok (.iconst 2, 1) := by decide +kernel
theorem dJ6_bitCount_0f7a4_17 : decode cJ6_bitCount_0f7a4 17 = .ok (.iushr, 1) := by decide +kernel
theorem dJ6_bitCount_0f7a4_18 : decode cJ6_bitCount_0f7a4 18 = .ok (.ldc_w 266, 3) := by decide +kernel
theorem dJ6_bitCount_0f7a4_21 : decode cJ6_bitCount_0f7a4 21 = .ok (.iand, 1) := by decide +kernel
theorem dJ6_bitCount_0f7a4_22 : decode cJ6_bitCount_0f7a4 22 = .ok (.iadd, 1) := by decide +kernel
theorem dJ6_bitCount_0f7a4_23 : decode cJ6_bitCount_0f7a4 23 = .ok (.istore_n 0, 1) := by decide +kernel
theorem dJ6_bitCount_0f7a4_24 : decode cJ6_bitCount_0f7a4 24 = .ok (.iload_n 0, 1) := by decide +kernel
theorem dJ6_bitCount_0f7a4_25 : decode cJ6_bitCount_0f7a4 25 = .ok (.iload_n 0, 1) := by decide +kernel
theorem dJ6_bitCount_0f7a4_26 : decode cJ6_bitCount_0f7a4 26 = .ok (.iconst 4, 1) := by decide +kernel
theorem dJ6_bitCount_0f7a4_27 : decode cJ6_bitCount_0f7a4 27 = .ok (.iushr, 1) := by decide +kernel
theorem dJ6_bitCount_0f7a4_28 : decode cJ6_bitCount_0f7a4 28 = .ok (.iadd, 1) := by decide +kernel
theorem dJ6_bitCount_0f7a4_29 : decode cJ6_bitCount_0f7a4 29 = .ok (.ldc_w 267, 3) := by decide +kernel
theorem dJ6_bitCount_0f7a4_32 : decode cJ6_bitCount_0f7a4 32 = .ok (.iand, 1) := by decide +kernel
theorem dJ6_bitCount_0f7a4_33 : decode cJ6_bitCount_0f7a4 33 = .ok (.istore_n 0, 1) := by decide +kernel
theorem dJ6_bitCount_0f7a4_34 : decode cJ6_bitCount_0f7a4 34 = .ok (.iload_n 0, 1) := by decide +kernel
theorem dJ6_bitCount_0f7a4_35 : decode cJ6_bitCount_0f7a4 35 = .ok (.iload_n 0, 1) := by decide +kernel
theorem dJ6_bitCount_0f7a4_36 : decode cJ6_bitCount_0f7a4 36 = .ok (.bipush 8, 2) := by decide +kernel
theorem dJ6_bitCount_0f7a4_38 : decode cJ6_bitCount_0f7a4 38 = .ok (.iushr, 1) := by decide +kernel
theorem dJ6_bitCount_0f7a4_39 : decode cJ6_bitCount_0f7a4 39 = .ok (.iadd, 1) := by decide +kernel
theorem dJ6_bitCount_0f7a4_40 : decode cJ6_bitCount_0f7a4 40 = .ok (.istore_n 0, 1) := by decide +kernel
theorem dJ6_bitCount_0f7a4_41 : decode cJ6_bitCount_0f7a4 41 = .ok (.iload_n 0, 1) := by decide +kernel
theorem dJ6_bitCount_0f7a4_42 : decode cJ6_bitCount_0f7a4 42 = .ok (.iload_n 0, 1) := by decide +kernel
theorem dJ6_bitCount_0f7a4_43 : decode cJ6_bitCount_0f7a4 43 = .ok (.bipush 16, 2) := by decide +kernel
theorem dJ6_bitCount_0f7a4_45 : decode cJ6_bitCount_0f7a4 45 = .ok (.iushr, 1) := by decide +kernel
theorem dJ6_bitCount_0f7a4_46 : decode cJ6_bitCount_0f7a4 46 = .ok (.iadd, 1) := by decide +kernel
theorem dJ6_bitCount_0f7a4_47 : decode cJ6_bitCount_0f7a4 47 = .ok (.istore_n 0, 1) := by decide +kernel
theorem dJ6_bitCount_0f7a4_48 : decode cJ6_bitCount_0f7a4 48 = .ok (.iload_n 0, 1) := by decide +kernel
theorem dJ6_bitCount_0f7a4_49 : decode cJ6_bitCount_0f7a4 49 = .ok (.bipush 63, 2) := by decide +kernel
theorem dJ6_bitCount_0f7a4_51 : decode cJ6_bitCount_0f7a4 51 = .ok (.iand, 1) := by decide +kernel
theorem dJ6_bitCount_0f7a4_52 : decode cJ6_bitCount_0f7a4 52 = .ok (.ireturn, 1) := by decide +kernel
set_option maxRecDepth 20000 in
theorem ggL_addRule_X8_addRule : GoodIn wsL_addRule wsX8_addRule := goodIn_ca (goodIn_ca (goodIn_r _ [7, 8, 9, 10, 11, 12, 13, 14, 6, 15, 16, 17, 18, 19, 20, 21, 22, 23, 24, 25, 26, 27, 28, 29, 30, 31, 32, 33, 34, 35, 36, 37, 38, 39, 40, 41, 42, 43] (by decide +kernel) (by decide +kernel)) (goodIn_sub (fun _ h => List.mem_cons_of_mem _ (List.mem_append_left _ (List.mem_append_right _ h))) (by decide +kernel))) (goodIn_sub (fun _ h => List.mem_cons_of_mem _ (List.mem_append_right _ h)) (by decide +kernel))
set_option maxRecDepth 20000 in
theorem gL_addRule_X8_addRule : GoodIn wsL_addRule (wsV RL 7 RX8 yX8_addRule wsX8_addRule) := goodIn_app (goodIn_of _ (by decide +kernel)) ggL_addRule_X8_addRule
theorem dL_addRule_0 : decode cL_addRule 0 = .ok (.aload 4, 2) := by decide +kernel
theorem dL_addRule_2 : decode cL_addRule 2 = .ok (.iconst 0, 1) := by decide +kernel
theorem dL_addRule_3 : decode cL_addRule 3 = .ok (.aload_n 0, 1) := by decide +kernel
theorem dL_addRule_4 : decode cL_addRule 4 = .ok (.iload_n 1, 1) := by decide +kernel
theorem dL_addRule_5 : decode cL_addRule 5 = .ok (.iload_n 2, 1) := by decide +kernel
theorem dL_addRule_6 : decode cL_addRule 6 = .ok (.iload_n 3, 1) := by decide +kernel
theorem dL_addRule_7 : decode cL_addRule 7 = .ok (.invokevirtual 7, 3) := by decide +kernel
theorem dL_addRule_10 : decode cL_addRule 10 = .ok (.i2l, 1) := by decide +kernel
theorem dL_addRule_11 : decode cL_addRule 11 = .ok (.lastore, 1) := by decide +kernel
theorem dL_addRule_12 : decode cL_addRule 12 = .ok (.goto 11, 3) := by decide +kernel
theorem dL_addRule_15 : decode cL_addRule 15 = .ok (.astore 5, 2) := by decide +kernel
theorem dL_addRule_17 : decode cL_addRule 17 = .ok (.iconst 1, 1) := by decide +kernel
theorem dL_addRule_18 : decode cL_addRule 18 = .ok (.ireturn, 1) := by decide +kernel
theorem dL_addRule_19 : decode cL_addRule 19 = .ok (.astore 5, 2) := by decide +kernel
theorem dL_addRule_21 : decode cL_addRule 21 = .ok (.iconst 2, 1) := by decide +kernel
theorem dL_addRule_22 : decode cL_addRule 22 = .ok (.ireturn, 1) := by decide +kernel
theorem dL_addRule_23 : decode cL_addRule 23 = .ok (.iconst 0, 1) := by decide +kernel
theorem dL_addRule_24 : decode cL_addRule 24 = .ok (.ireturn, 1) := by decide +kernel
set_option maxRecDepth 20000 in
theorem ggL_dropRule_X8_dropRule : GoodIn wsL_dropRule wsX8_dropRule := goodIn_ca (goodIn_r _ [6, 7, 8, 9, 10, 11, 12, 13, 14, 15, 16, 17, 18, 19, 20, 21, 22, 23, 24, 25, 26, 27] (by decide +kernel) (by decide +kernel)) (goodIn_sub (fun _ h => List.mem_cons_of_mem _ (List.mem_append_right _ h)) (by decide +kernel))
set_option maxRecDepth 20000 in
theorem gL_dropRule_X8_dropRule : GoodIn wsL_dropRule (wsV RL 17 RX8 yX8_dropRule wsX8_dropRule) := goodIn_app (goodIn_of _ (by decide +kernel)) ggL_dropRule_X8_dropRule
theorem dL_dropRule_0 : decode cL_dropRule 0 = .ok (.aload_n 1, 1) := by decide +kernel
theorem dL_dropRule_1 : decode cL_dropRule 1 = .ok (.iconst 0, 1) := by decide +kernel
theorem dL_dropRule_2 : decode cL_dropRule 2 = .ok (.aload_n 0, 1) := by decide +kernel
theorem dL_dropRule_3 : decode cL_dropRule 3 = .ok (.invokevirtual 17, 3) := by decide +kernel
theorem dL_dropRule_6 : decode cL_dropRule 6 = .ok (.i2l, 1) := by decide +kernel
theorem dL_dropRule_7 : decode cL_dropRule 7 = .ok (.lastore, 1) := by decide +kernel
theorem dL_dropRule_8 : decode cL_dropRule 8 = .ok (.goto 6, 3) := by decide +kernel
theorem dL_dropRule_11 : decode cL_dropRule 11 = .ok (.astore_n 2, 1) := by decide +kernel
theorem dL_dropRule_12 : decode cL_dropRule 12 = .ok (.iconst 1, 1) := by decide +kernel
theorem dL_dropRule_13 : decode cL_dropRule 13 = .ok (.ireturn, 1) := by decide +kernel
theorem dL_dropRule_14 : decode cL_dropRule 14 = .ok (.iconst 0, 1) := by decide +kernel
theorem dL_dropRule_15 : decode cL_dropRule 15 = .ok (.ireturn, 1) := by decide +kernel
set_option maxRecDepth 20000 in
theorem ggL_addClass_X8_addClass : GoodIn wsL_addClass wsX8_addClass := goodIn_ca (goodIn_ca (goodIn_r _ [7, 8, 9, 10, 11, 12, 13, 14, 15, 6, 16, 17, 18, 19, 20, 21, 22, 23, 24, 25, 26, 27, 28, 29, 30, 31, 32, 33, 34, 35, 36, 37, 38, 39, 40, 41, 42, 43, 44, 45, 46, 47, 48, 49, 50, 51, 52, 53, 54, 55, 56, 57, 58] (by decide +kernel) (by decide +kernel)) (goodIn_sub (fun _ h => List.mem_cons_of_mem _ (List.mem_append_left _ (List.mem_append_right _ h))) (by decide +kernel))) (goodIn_sub (fun _ h => List.mem_cons_of_mem _ (List.mem_append_right _ h)) (by decide +kernel))
set_option maxRecDepth 20000 in
theorem gL_addClass_X8_addClass : GoodIn wsL_addClass (wsV RL 21 RX8 yX8_addClass wsX8_addClass) := goodIn_app (goodIn_of _ (by decide +kernel)) ggL_addClass_X8_addClass
theorem dL_addClass_0 : decode cL_addClass 0 = .ok (.aload_n 3, 1) := by decide +kernel
theorem dL_addClass_1 : decode cL_addClass 1 = .ok (.iconst 0, 1) := by decide +kernel
theorem dL_addClass_2 : decode cL_addClass 2 = .ok (.aload_n 0, 1) := by decide +kernel
theorem dL_addClass_3 : decode cL_addClass 3 = .ok (.iload_n 1, 1) := by decide +kernel
theorem dL_addClass_4 : decode cL_addClass 4 = .ok (.iload_n 2, 1) := by decide +kernel
theorem dL_addClass_5 : decode cL_addClass 5 = .ok (.invokevirtual 21, 3) := by decide +kernel
theorem dL_addClass_8 : decode cL_addClass 8 = .ok (.i2l, 1) := by decide +kernel
theorem dL_addClass_9 : decode cL_addClass 9 = .ok (.lastore, 1) := by decide +kernel
theorem dL_addClass_10 : decode cL_addClass 10 = .ok (.goto 11, 3) := by decide +kernel
theorem dL_addClass_13 : decode cL_addClass 13 = .ok (.astore 4, 2) := by decide +kernel
theorem dL_addClass_15 : decode cL_addClass 15 = .ok (.iconst 1, 1) := by decide +kernel
theorem dL_addClass_16 : decode cL_addClass 16 = .ok (.ireturn, 1) := by decide +kernel
theorem dL_addClass_17 : decode cL_addClass 17 = .ok (.astore 4, 2) := by decide +kernel
theorem dL_addClass_19 : decode cL_addClass 19 = .ok (.iconst 2, 1) := by decide +kernel
theorem dL_addClass_20 : decode cL_addClass 20 = .ok (.ireturn, 1) := by decide +kernel
theorem dL_addClass_21 : decode cL_addClass 21 = .ok (.iconst 0, 1) := by decide +kernel
theorem dL_addClass_22 : decode cL_addClass 22 = .ok (.ireturn, 1) := by decide +kernel
set_option maxRecDepth 20000 in
theorem ggL_addLink_X8_addLink : GoodIn wsL_addLink wsX8_addLink := goodIn_ca (goodIn_ca (goodIn_ca (goodIn_r _ [8, 9, 10, 11, 12, 13, 14, 15, 16, 17, 18, 19, 20, 21, 22, 23, 24, 25, 7, 26, 27, 28, 29, 30, 31, 32, 33, 34, 35, 36, 37, 38, 39, 40, 41, 42, 43, 44, 45, 46, 47, 48, 49, 50, 51, 52, 53, 54, 55, 56, 57, 58, 59, 60, 61, 62, 63, 64, 65, 66, 67, 68, 69, 70, 71, 72, 73, 74, 75] (by decide +kernel) (by decide +kernel)) (goodIn_sub (fun _ h => List.mem_cons_of_mem _ (List.mem_append_left _ (List.mem_append_left _ (List.mem_append_right _ h)))) (by decide +kernel))) (goodIn_sub (fun _ h => List.mem_cons_of_mem _ (List.mem_append_left _ (List.mem_append_right _ h))) (by decide +kernel))) (goodIn_sub (fun _ h => List.mem_cons_of_mem _ (List.mem_append_right _ h)) (by decide +kernel))
set_option maxRecDepth 20000 in
theorem gL_addLink_X8_addLink : GoodIn wsL_addLink (wsV RL 25 RX8 yX8_addLink wsX8_addLink) := goodIn_app (goodIn_of _ (by decide +kernel)) ggL_addLink_X8_addLink
theorem dL_addLink_0 : decode cL_addLink 0 = .ok (.aload 5, 2) := by decide +kernel
theorem dL_addLink_2 : decode cL_addLink 2 = .ok (.iconst 0, 1) := by decide +kernel
theorem dL_addLink_3 : decode cL_addLink 3 = .ok (.aload_n 0, 1) := by decide +kernel
theorem dL_addLink_4 : decode cL_addLink 4 = .ok (.iload_n 1, 1) := by decide +kernel
theorem dL_addLink_5 : decode cL_addLink 5 = .ok (.iload_n 2, 1) := by decide +kernel
theorem dL_addLink_6 : decode cL_addLink 6 = .ok (.iload_n 3, 1) := by decide +kernel
theorem dL_addLink_7 : decode cL_addLink 7 = .ok (.iload 4, 2) := by decide +kernel
theorem dL_addLink_9 : decode cL_addLink 9 = .ok (.invokevirtual 25, 3) := by decide +kernel
theorem dL_addLink_12 : decode cL_addLink 12 = .ok (.i2l, 1) := by decide +kernel
theorem dL_addLink_13 : decode cL_addLink 13 = .ok (.lastore, 1) := by decide +kernel
theorem dL_addLink_14 : decode cL_addLink 14 = .ok (.goto 15, 3) := by decide +kernel
theorem dL_addLink_17 : decode cL_addLink 17 = .ok (.astore 6, 2) := by decide +kernel
theorem dL_addLink_19 : decode cL_addLink 19 = .ok (.iconst 1, 1) := by decide +kernel
theorem dL_addLink_20 : decode cL_addLink 20 = .ok (.ireturn, 1) := by decide +kernel
theorem dL_addLink_21 : decode cL_addLink 21 = .ok (.astore 6, 2) := by decide +kernel
theorem dL_addLink_23 : decode cL_addLink 23 = .ok (.iconst 2, 1) := by decide +kernel
theorem dL_addLink_24 : decode cL_addLink 24 = .ok (.ireturn, 1) := by decide +kernel
theorem dL_addLink_25 : decode cL_addLink 25 = .ok (.astore 6, 2) := by decide +kernel
theorem dL_addLink_27 : decode cL_addLink 27 = .ok (.iconst 3, 1) := by decide +kernel
theorem dL_addLink_28 : decode cL_addLink 28 = .ok (.ireturn, 1) := by decide +kernel
theorem dL_addLink_29 : decode cL_addLink 29 = .ok (.iconst 0, 1) := by decide +kernel
theorem dL_addLink_30 : decode cL_addLink 30 = .ok (.ireturn, 1) := by decide +kernel
set_option maxRecDepth 20000 in
theorem ggL_addField_X8_addField : GoodIn wsL_addField wsX8_addField := goodIn_ca (goodIn_ca (goodIn_ca (goodIn_r _ [8, 9, 10, 11, 12, 13, 14, 15, 16, 17, 18, 19, 20, 21, 22, 23, 24, 25, 7, 26, 27, 28, 29, 30, 31, 32, 33, 34, 35, 36, 37, 38, 39, 40, 41, 42, 43, 44, 45, 46, 47, 48, 49, 50, 51, 52, 53, 54, 55, 56, 57, 58, 59, 60, 61, 62, 63, 64, 65, 66, 67, 68, 69, 70, 71, 72, 73, 74, 75, 76, 77, 78, 79, 80, 81, 82, 83, 84, 85, 86, 87, 88, 89, 90, 91, 92, 93, 94, 95, 96, 97, 98, 99, 100, 101, 102, 103, 104] (by decide +kernel) (by decide +kernel)) (goodIn_sub (fun _ h => List.mem_cons_of_mem _ (List.mem_append_left _ (List.mem_append_left _ (List.mem_append_right _ h)))) (by decide +kernel))) (goodIn_sub (fun _ h => List.mem_cons_of_mem _ (List.mem_append_left _ (List.mem_append_right _ h))) (by decide +kernel))) (goodIn_sub (fun _ h => List.mem_cons_of_mem _ (List.mem_append_right _ h)) (by decide +kernel))
set_option maxRecDepth 20000 in
theorem gL_addField_X8_addField : GoodIn wsL_addField (wsV RL 31 RX8 yX8_addField wsX8_addField) := goodIn_app (goodIn_of _ (by decide +kernel)) ggL_addField_X8_addField
theorem dL_addField_0 : decode cL_addField 0 = .ok (.aload 6, 2) := by decide +kernel
theorem dL_addField_2 : decode cL_addField 2 = .ok (.iconst 0, 1) := by decide +kernel
theorem dL_addField_3 : decode cL_addField 3 = .ok (.aload_n 0, 1) := by decide +kernel
theorem dL_addField_4 : decode cL_addField 4 = .ok (.iload_n 1, 1) := by decide +kernel
theorem dL_addField_5 : decode cL_addField 5 = .ok (.iload_n 2, 1) := by decide +kernel
theorem dL_addField_6 : decode cL_addField 6 = .ok (.iload_n 3, 1) := by decide +kernel
theorem dL_addField_7 : decode cL_addField 7 = .ok (.iload 4, 2) := by decide +kernel
theorem dL_addField_9 : decode cL_addField 9 = .ok (.iload 5, 2) := by decide +kernel
theorem dL_addField_11 : decode cL_addField 11 = .ok (.invokevirtual 31, 3) := by decide +kernel
theorem dL_addField_14 : decode cL_addField 14 = .ok (.i2l, 1) := by decide +kernel
theorem dL_addField_15 : decode cL_addField 15 = .ok (.lastore, 1) := by decide +kernel
theorem dL_addField_16 : decode cL_addField 16 = .ok (.goto 15, 3) := by decide +kernel
theorem dL_addField_19 : decode cL_addField 19 = .ok (.astore 7, 2) := by decide +kernel
theorem dL_addField_21 : decode cL_addField 21 = .ok (.iconst 1, 1) := by decide +kernel
theorem dL_addField_22 : decode cL_addField 22 = .ok (.ireturn, 1) := by decide +kernel
theorem dL_addField_23 : decode cL_addField 23 = .ok (.astore 7, 2) := by decide +kernel
theorem dL_addField_25 : decode cL_addField 25 = .ok (.iconst 2, 1) := by decide +kernel
theorem dL_addField_26 : decode cL_addField 26 = .ok (.ireturn, 1) := by decide +kernel
theorem dL_addField_27 : decode cL_addField 27 = .ok (.astore 7, 2) := by decide +kernel
theorem dL_addField_29 : decode cL_addField 29 = .ok (.iconst 3, 1) := by decide +kernel
theorem dL_addField_30 : decode cL_addField 30 = .ok (.ireturn, 1) := by decide +kernel
theorem dL_addField_31 : decode cL_addField 31 = .ok (.iconst 0, 1) := by decide +kernel
theorem dL_addField_32 : decode cL_addField 32 = .ok (.ireturn, 1) := by decide +kernel
set_option maxRecDepth 20000 in
theorem ggL_addMethod_X8_addMethod : GoodIn wsL_addMethod wsX8_addMethod := goodIn_ca (goodIn_ca (goodIn_ca (goodIn_r _ [8, 9, 10, 11, 12, 13, 14, 15, 16, 17, 18, 19, 20, 21, 22, 23, 24, 25, 7, 26, 27, 28, 29, 30, 31, 32, 33, 34, 35, 36, 37, 38, 39, 40, 41, 42, 43, 44, 45, 46, 47, 48, 49, 50, 51, 52, 53, 54, 55, 56, 57, 58, 59, 60, 61, 62, 63, 64, 65, 66, 67, 68, 69, 70, 71, 72, 73, 74, 75, 76, 77, 78, 79, 80, 81, 82, 83, 84, 85, 86, 87, 88, 89, 90, 91, 92, 93, 94, 95, 96, 97, 98, 99, 100, 101, 102, 103, 104, 105, 106, 107, 108, 109] (by decide +kernel) (by decide +kernel)) (goodIn_sub (fun _ h => List.mem_cons_of_mem _ (List.mem_append_left _ (List.mem_append_left _ (List.mem_append_right _ h)))) (by decide +kernel))) (goodIn_sub (fun _ h => List.mem_cons_of_mem _ (List.mem_append_left _ (List.mem_append_right _ h))) (by decide +kernel))) (goodIn_sub (fun _ h => List.mem_cons_of_mem _ (List.mem_append_right _ h)) (by decide +kernel))
set_option maxRecDepth 20000 in
theorem gL_addMethod_X8_addMethod : GoodIn wsL_addMethod (wsV RL 35 RX8 yX8_addMethod wsX8_addMethod) := goodIn_app (goodIn_of _ (by decide +kernel)) ggL_addMethod_X8_addMethod
theorem dL_addMethod_0 : decode cL_addMethod 0 = .ok (.aload 8, 2) := by decide +kernel
theorem dL_addMethod_2 : decode cL_addMethod 2 = .ok (.iconst 0, 1) := by decide +kernel
theorem dL_addMethod_3 : decode cL_addMethod 3 = .ok (.aload_n 0, 1) := by decide +kernel
theorem dL_addMethod_4 : decode cL_addMethod 4 = .ok (.iload_n 1, 1) := by decide +kernel
theorem dL_addMethod_5 : decode cL_addMethod 5 = .ok (.iload_n 2, 1) := by decide +kernel
theorem dL_addMethod_6 : decode cL_addMethod 6 = .ok (.iload_n 3, 1) := by decide +kernel
theorem dL_addMethod_7 : decode cL_addMethod 7 = .ok (.iload 4, 2) := by decide +kernel
theorem dL_addMethod_9 : decode cL_addMethod 9 = .ok (.iload 5, 2) := by decide +kernel
theorem dL_addMethod_11 : decode cL_addMethod 11 = .ok (.iload 6, 2) := by decide +kernel
theorem dL_addMethod_13 : decode cL_addMethod 13 = .ok (.iload 7, 2) := by decide +kernel
theorem dL_addMethod_15 : decode cL_addMethod 15 = .ok (.invokevirtual 35, 3) := by decide +kernel
theorem dL_addMethod_18 : decode cL_addMethod 18 = .ok (.i2l, 1) := by decide +kernel
theorem dL_addMethod_19 : decode cL_addMethod 19 = .ok (.lastore, 1) := by decide +kernel
theorem dL_addMethod_20 : decode cL_addMethod 20 = .ok (.goto 15, 3) := by decide +kernel
theorem dL_addMethod_23 : decode cL_addMethod 23 = .ok (.astore 9, 2) := by decide +kernel
theorem dL_addMethod_25 : decode cL_addMethod 25 = .ok (.iconst 1, 1) := by decide +kernel
theorem dL_addMethod_26 : decode cL_addMethod 26 = .ok (.ireturn, 1) := by decide +kernel
theorem dL_addMethod_27 : decode cL_addMethod 27 = .ok (.astore 9, 2) := by decide +kernel
theorem dL_addMethod_29 : decode cL_addMethod 29 = .ok (.iconst 2, 1) := by decide +kernel
theorem dL_addMethod_30 : decode cL_addMethod 30 = .ok (.ireturn, 1) := by decide +kernel
theorem dL_addMethod_31 : decode cL_addMethod 31 = .ok (.astore 9, 2) := by decide +kernel
theorem dL_addMethod_33 : decode cL_addMethod 33 = .ok (.iconst 3, 1) := by decide +kernel
theorem dL_addMethod_34 : decode cL_addMethod 34 = .ok (.ireturn, 1) := by decide +kernel
theorem dL_addMethod_35 : decode cL_addMethod 35 = .ok (.iconst 0, 1) := by decide +kernel
theorem dL_addMethod_36 : decode cL_addMethod 36 = .ok (.ireturn, 1) := by decide +kernel
set_option maxRecDepth 20000 in
theorem ggL_addNew_X8_addNew : GoodIn wsL_addNew wsX8_addNew := goodIn_ca (goodIn_ca (goodIn_r _ [7, 8, 9, 10, 11, 12, 13, 14, 15, 16, 17, 18, 19, 20, 21, 22, 23, 24, 25, 26, 27, 28, 29, 30, 31, 32, 33, 34, 35, 36, 37, 38, 39, 40, 41, 42, 43, 44, 45, 46, 47, 48, 49, 50, 51, 52, 53, 54, 55, 56, 57, 58, 59, 60, 61, 62, 63, 64, 65, 66, 67, 68, 69, 70, 71, 72, 73, 74, 75, 76, 77, 78, 79, 80, 81, 82, 83, 84, 85, 86, 87, 88, 89, 90] (by decide +kernel) (by decide +kernel)) (goodIn_sub (fun _ h => List.mem_cons_of_mem _ (List.mem_append_left _ (List.mem_append_right _ h))) (by decide +kernel))) (goodIn_sub (fun _ h => List.mem_cons_of_mem _ (List.mem_append_right _ h)) (by decide +kernel))
set_option maxRecDepth 20000 in
theorem gL_addNew_X8_addNew : GoodIn wsL_addNew (wsV RL 39 RX8 yX8_addNew wsX8_addNew) := goodIn_app (goodIn_of _ (by decide +kernel)) ggL_addNew_X8_addNew
theorem dL_addNew_0 : decode cL_addNew 0 = .ok (.aload_n 3, 1) := by decide +kernel
theorem dL_addNew_1 : decode cL_addNew 1 = .ok (.iconst 0, 1) := by decide +kernel
theorem dL_addNew_2 : decode cL_addNew 2 = .ok (.aload_n 0, 1) := by decide +kernel
theorem dL_addNew_3 : decode cL_addNew 3 = .ok (.iload_n 1, 1) := by decide +kernel
theorem dL_addNew_4 : decode cL_addNew 4 = .ok (.iload_n 2, 1) := by decide +kernel
theorem dL_addNew_5 : decode cL_addNew 5 = .ok (.invokevirtual 39, 3) := by decide +kernel
theorem dL_addNew_8 : decode cL_addNew 8 = .ok (.i2l, 1) := by decide +kernel
theorem dL_addNew_9 : decode cL_addNew 9 = .ok (.lastore, 1) := by decide +kernel
theorem dL_addNew_10 : decode cL_addNew 10 = .ok (.goto 11, 3) := by decide +kernel
theorem dL_addNew_13 : decode cL_addNew 13 = .ok (.astore 4, 2) := by decide +kernel
theorem dL_addNew_15 : decode cL_addNew 15 = .ok (.iconst 1, 1) := by decide +kernel
theorem dL_addNew_16 : decode cL_addNew 16 = .ok (.ireturn, 1) := by decide +kernel
theorem dL_addNew_17 : decode cL_addNew 17 = .ok (.astore 4, 2) := by decide +kernel
theorem dL_addNew_19 : decode cL_addNew 19 = .ok (.iconst 2, 1) := by decide +kernel
theorem dL_addNew_20 : decode cL_addNew 20 = .ok (.ireturn, 1) := by decide +kernel
theorem dL_addNew_21 : decode cL_addNew 21 = .ok (.iconst 0, 1) := by decide +kernel
theorem dL_addNew_22 : decode cL_addNew 22 = .ok (.ireturn, 1) := by decide +kernel
set_option maxRecDepth 20000 in
theorem ggL_addPlain_X8_addPlain : GoodIn wsL_addPlain wsX8_addPlain := goodIn_ca (goodIn_ca (goodIn_r _ [7, 8, 9, 10, 11, 12, 13, 14, 15, 16, 17, 18, 19, 20, 21, 22, 23, 24, 25, 26, 27, 28, 29, 30, 31, 32, 33, 34, 35, 36, 37, 38, 39, 40, 41, 42, 43, 44, 45, 46, 47, 48, 49, 50, 51, 52, 53, 54, 55, 56, 57, 58, 59, 60, 61, 62, 63, 64, 65, 66, 67, 68, 69, 70, 71, 72, 73, 74, 75, 76, 77, 78, 79, 80, 81, 82, 83, 84, 85, 86, 87, 88] (by decide +kernel) (by decide +kernel)) (goodIn_sub (fun _ h => List.mem_cons_of_mem _ (List.mem_append_left _ (List.mem_append_right _ h))) (by decide +kernel))) (goodIn_sub (fun _ h => List.mem_cons_of_mem _ (List.mem_append_right _ h)) (by decide +kernel))
set_option maxRecDepth 20000 in
theorem gL_addPlain_X8_addPlain : GoodIn wsL_addPlain (wsV RL 42 RX8 yX8_addPlain wsX8_addPlain) := goodIn_app (goodIn_of _ (by decide +kernel)) ggL_addPlain_X8_addPlain
theorem dL_addPlain_0 : decode cL_addPlain 0 = .ok (.aload_n 3, 1) := by decide +kernel
theorem dL_addPlain_1 : decode cL_addPlain 1 = .ok (.iconst 0, 1) := by decide +kernel
theorem dL_addPlain_2 : decode cL_addPlain 2 = .ok (.aload_n 0, 1) := by decide +kernel
theorem dL_addPlain_3 : decode cL_addPlain 3 = .ok (.iload_n 1, 1) := by decide +kernel
theorem dL_addPlain_4 : decode cL_addPlain 4 = .ok (.iload_n 2, 1) := by decide +kernel
theorem dL_addPlain_5 : decode cL_addPlain 5 = .ok (.invokevirtual 42, 3) := by decide +kernel
theorem dL_addPlain_8 : decode cL_addPlain 8 = .ok (.i2l, 1) := by decide +kernel
theorem dL_addPlain_9 : decode cL_addPlain 9 = .ok (.lastore, 1) := by decide +kernel
theorem dL_addPlain_10 : decode cL_addPlain 10 = .ok (.goto 11, 3) := by decide +kernel
theorem dL_addPlain_13 : decode cL_addPlain 13 = .ok (.astore 4, 2) := by decide +kernel
theorem dL_addPlain_15 : decode cL_addPlain 15 = .ok (.iconst 1, 1) := by decide +kernel
theorem dL_addPlain_16 : decode cL_addPlain 16 = .ok (.ireturn, 1) := by decide +kernel
theorem dL_addPlain_17 : decode cL_addPlain 17 = .ok (.astore 4, 2) := by decide +kernel
theorem dL_addPlain_19 : decode cL_addPlain 19 = .ok (.iconst 2, 1) := by decide +kernel
theorem dL_addPlain_20 : decode cL_addPlain 20 = .ok (.ireturn, 1) := by decide +kernel
theorem dL_addPlain_21 : decode cL_addPlain 21 = .ok (.iconst 0, 1) := by decide +kernel
theorem dL_addPlain_22 : decode cL_addPlain 22 = .ok (.ireturn, 1) := by decide +kernel
set_option maxRecDepth 20000 in
theorem ggL_addArgument_X8_addArgument : GoodIn wsL_addArgument wsX8_addArgument := goodIn_ca (goodIn_ca (goodIn_r _ [7, 8, 9, 10, 11, 12, 13, 14, 15, 16, 17, 18, 19, 20, 21, 22, 23, 24, 25, 26, 27, 28, 29, 30, 31, 32, 33, 34, 35, 36, 37, 38, 39, 40, 41, 42, 43, 44, 45, 46, 47, 48, 49, 50, 51, 52, 53, 54, 55, 56, 57, 58, 59, 60, 61, 62, 63, 64, 65, 66, 67, 68, 69, 70, 71, 72, 73, 74, 75, 76, 77, 78, 79, 80, 81, 82, 83, 84, 85, 86, 87, 88, 89, 90, 91, 92, 93, 94] (by decide +kernel) (by decide +kernel)) (goodIn_sub (fun _ h => List.mem_cons_of_mem _ (List.mem_append_left _ (List.mem_append_right _ h))) (by decide +kernel))) (goodIn_sub (fun _ h => List.mem_cons_of_mem _ (List.mem_append_right _ h)) (by decide +kernel))
set_option maxRecDepth 20000 in
theorem gL_addArgument_X8_addArgument : GoodIn wsL_addArgument (wsV RL 46 RX8 yX8_addArgument wsX8_addArgument) := goodIn_app (goodIn_of _ (by decide +kernel)) ggL_addArgument_X8_addArgument
theorem dL_addArgument_0 : decode cL_addArgument 0 = .ok (.aload_n 3, 1) := by decide +kernel
theorem dL_addArgument_1 : decode cL_addArgument 1 = .ok (.iconst 0, 1) := by decide +kernel
theorem dL_addArgument_2 : decode cL_addArgument 2 = .ok (.aload_n 0, 1) := by decide +kernel
theorem dL_addArgument_3 : decode cL_addArgument 3 = .ok (.iload_n 1, 1) := by decide +kernel
theorem dL_addArgument_4 : decode cL_addArgument 4 = .ok (.iload_n 2, 1) := by decide +kernel
theorem dL_addArgument_5 : decode cL_addArgument 5 = .ok (.invokevirtual 46, 3) := by decide +kernel
theorem dL_addArgument_8 : decode cL_addArgument 8 = .ok (.i2l, 1) := by decide +kernel
theorem dL_addArgument_9 : decode cL_addArgument 9 = .ok (.lastore, 1) := by decide +kernel
theorem dL_addArgument_10 : decode cL_addArgument 10 = .ok (.goto 11, 3) := by decide +kernel
theorem dL_addArgument_13 : decode cL_addArgument 13 = .ok (.astore 4, 2) := by decide +kernel
theorem dL_addArgument_15 : decode cL_addArgument 15 = .ok (.iconst 1, 1) := by decide +kernel
theorem dL_addArgument_16 : decode cL_addArgument 16 = .ok (.ireturn, 1) := by decide +kernel
theorem dL_addArgument_17 : decode cL_addArgument 17 = .ok (.astore 4, 2) := by decide +kernel
theorem dL_addArgument_19 : decode cL_addArgument 19 = .ok (.iconst 2, 1) := by decide +kernel
theorem dL_addArgument_20 : decode cL_addArgument 20 = .ok (.ireturn, 1) := by decide +kernel
theorem dL_addArgument_21 : decode cL_addArgument 21 = .ok (.iconst 0, 1) := by decide +kernel
theorem dL_addArgument_22 : decode cL_addArgument 22 = .ok (.ireturn, 1) := by decide +kernel
set_option maxRecDepth 20000 in
theorem ggL_addFieldOf_X8_addFieldOf : GoodIn wsL_addFieldOf wsX8_addFieldOf := goodIn_ca (goodIn_ca (goodIn_ca (goodIn_r _ [8, 9, 10, 11, 12, 13, 14, 15, 16, 17, 18, 19, 20, 21, 22, 23, 24, 7, 25, 26, 27, 28, 29, 30, 31, 32, 33, 34, 35, 36, 37, 38, 39, 40, 41, 42, 43, 44, 45, 46, 47, 48, 49, 50, 51, 52, 53, 54, 55, 56, 57, 58, 59, 60, 61, 62, 63, 64, 65, 66, 67, 68, 69, 70, 71, 72, 73, 74, 75, 76, 77, 78] (by decide +kernel) (by decide +kernel)) (goodIn_sub (fun _ h => List.mem_cons_of_mem _ (List.mem_append_left _ (List.mem_append_left _ (List.mem_append_right _ h)))) (by decide +kernel))) (goodIn_sub (fun _ h => List.mem_cons_of_mem _ (List.mem_append_left _ (List.mem_append_right _ h))) (by decide +kernel))) (goodIn_sub (fun _ h => List.mem_cons_of_mem _ (List.mem_append_right _ h)) (by decide +kernel))
set_option maxRecDepth 20000 in
theorem gL_addFieldOf_X8_addFieldOf : GoodIn wsL_addFieldOf (wsV RL 49 RX8 yX8_addFieldOf wsX8_addFieldOf) := goodIn_app (goodIn_of _ (by decide +kernel)) ggL_addFieldOf_X8_addFieldOf
theorem dL_addFieldOf_0 : decode cL_addFieldOf 0 = .ok (.aload_n 3, 1) := by decide +kernel
theorem dL_addFieldOf_1 : decode cL_addFieldOf 1 = .ok (.iconst 0, 1) := by decide +kernel
theorem dL_addFieldOf_2 : decode cL_addFieldOf 2 = .ok (.aload_n 0, 1) := by decide +kernel
theorem dL_addFieldOf_3 : decode cL_addFieldOf 3 = .ok (.iload_n 1, 1) := by decide +kernel
theorem dL_addFieldOf_4 : decode cL_addFieldOf 4 = .ok (.iload_n 2, 1) := by decide +kernel
theorem dL_addFieldOf_5 : decode cL_addFieldOf 5 = .ok (.invokevirtual 49, 3) := by decide +kernel
theorem dL_addFieldOf_8 : decode cL_addFieldOf 8 = .ok (.i2l, 1) := by decide +kernel
theorem dL_addFieldOf_9 : decode cL_addFieldOf 9 = .ok (.lastore, 1) := by decide +kernel
theorem dL_addFieldOf_10 : decode cL_addFieldOf 10 = .ok (.goto 15, 3) := by decide +kernel
theorem dL_addFieldOf_13 : decode cL_addFieldOf 13 = .ok (.astore 4, 2) := by decide +kernel
theorem dL_addFieldOf_15 : decode cL_addFieldOf 15 = .ok (.iconst 1, 1) := by decide +kernel
theorem dL_addFieldOf_16 : decode cL_addFieldOf 16 = .ok (.ireturn, 1) := by decide +kernel
theorem dL_addFieldOf_17 : decode cL_addFieldOf 17 = .ok (.astore 4, 2) := by decide +kernel
theorem dL_addFieldOf_19 : decode cL_addFieldOf 19 = .ok (.iconst 2, 1) := by decide +kernel
theorem dL_addFieldOf_20 : decode cL_addFieldOf 20 = .ok (.ireturn, 1) := by decide +kernel
theorem dL_addFieldOf_21 : decode cL_addFieldOf 21 = .ok (.astore 4, 2) := by decide +kernel
theorem dL_addFieldOf_23 : decode cL_addFieldOf 23 = .ok (.iconst 3, 1) := by decide +kernel
theorem dL_addFieldOf_24 : decode cL_addFieldOf 24 = .ok (.ireturn, 1) := by decide +kernel
theorem dL_addFieldOf_25 : decode cL_addFieldOf 25 = .ok (.iconst 0, 1) := by decide +kernel
theorem dL_addFieldOf_26 : decode cL_addFieldOf 26 = .ok (.ireturn, 1) := by decide +kernel
set_option maxRecDepth 20000 in
theorem ggL_addCall_X8_addCall : GoodIn wsL_addCall wsX8_addCall := goodIn_ca (goodIn_ca (goodIn_ca (goodIn_r _ [8, 9, 10, 11, 12, 13, 14, 15, 16, 17, 18, 19, 20, 21, 22, 23, 24, 25, 26, 27, 28, 29, 7, 30, 31, 32, 33, 34, 35, 36, 37, 38, 39, 40, 41, 42, 43, 44, 45, 46, 47, 48, 49, 50, 51, 52, 53, 54, 55, 56, 57, 58, 59, 60, 61, 62, 63, 64, 65, 66, 67, 68, 69, 70, 71, 72, 73, 74, 75, 76, 77, 78, 79, 80, 81, 82, 83, 84, 85, 86, 87] (by decide +kernel) (by decide +kernel)) (goodIn_sub (fun _ h => List.mem_cons_of_mem _ (List.mem_append_left _ (List.mem_append_left _ (List.mem_append_right _ h)))) (by decide +kernel))) (goodIn_sub (fun _ h => List.mem_cons_of_mem _ (List.mem_append_left _ (List.mem_append_right _ h))) (by decide +kernel))) (goodIn_sub (fun _ h => List.mem_cons_of_mem _ (List.mem_append_right _ h)) (by decide +kernel))
set_option maxRecDepth 20000 in
theorem gL_addCall_X8_addCall : GoodIn wsL_addCall (wsV RL 52 RX8 yX8_addCall wsX8_addCall) := goodIn_app (goodIn_of _ (by decide +kernel)) ggL_addCall_X8_addCall
theorem dL_addCall_0 : decode cL_addCall 0 = .ok (.aload 5, 2) := by decide +kernel
theorem dL_addCall_2 : decode cL_addCall 2 = .ok (.iconst 0, 1) := by decide +kernel
theorem dL_addCall_3 : decode cL_addCall 3 = .ok (.aload_n 0, 1) := by decide +kernel
theorem dL_addCall_4 : decode cL_addCall 4 = .ok (.iload_n 1, 1) := by decide +kernel
theorem dL_addCall_5 : decode cL_addCall 5 = .ok (.iload_n 2, 1) := by decide +kernel
theorem dL_addCall_6 : decode cL_addCall 6 = .ok (.iload_n 3, 1) := by decide +kernel
theorem dL_addCall_7 : decode cL_addCall 7 = .ok (.iload 4, 2) := by decide +kernel
theorem dL_addCall_9 : decode cL_addCall 9 = .ok (.invokevirtual 52, 3) := by decide +kernel
theorem dL_addCall_12 : decode cL_addCall 12 = .ok (.i2l, 1) := by decide +kernel
theorem dL_addCall_13 : decode cL_addCall 13 = .ok (.lastore, 1) := by decide +kernel
theorem dL_addCall_14 : decode cL_addCall 14 = .ok (.goto 15, 3) := by decide +kernel
theorem dL_addCall_17 : decode cL_addCall 17 = .ok (.astore 6, 2) := by decide +kernel
theorem dL_addCall_19 : decode cL_addCall 19 = .ok (.iconst 1, 1) := by decide +kernel
theorem dL_addCall_20 : decode cL_addCall 20 = .ok (.ireturn, 1) := by decide +kernel
theorem dL_addCall_21 : decode cL_addCall 21 = .ok (.astore 6, 2) := by decide +kernel
theorem dL_addCall_23 : decode cL_addCall 23 = .ok (.iconst 2, 1) := by decide +kernel
theorem dL_addCall_24 : decode cL_addCall 24 = .ok (.ireturn, 1) := by decide +kernel
theorem dL_addCall_25 : decode cL_addCall 25 = .ok (.astore 6, 2) := by decide +kernel
theorem dL_addCall_27 : decode cL_addCall 27 = .ok (.iconst 3, 1) := by decide +kernel
theorem dL_addCall_28 : decode cL_addCall 28 = .ok (.ireturn, 1) := by decide +kernel
theorem dL_addCall_29 : decode cL_addCall 29 = .ok (.iconst 0, 1) := by decide +kernel
theorem dL_addCall_30 : decode cL_addCall 30 = .ok (.ireturn, 1) := by decide +kernel
set_option maxRecDepth 20000 in
theorem ggL_addResult_X8_addResult : GoodIn wsL_addResult wsX8_addResult := goodIn_ca (goodIn_ca (goodIn_ca (goodIn_r _ [8, 9, 10, 11, 12, 13, 14, 15, 16, 17, 18, 19, 20, 21, 22, 23, 24, 25, 7, 26, 27, 28, 29, 30, 31, 32, 33, 34, 35, 36, 37, 38, 39, 40, 41, 42, 43, 44, 45, 46, 47, 48, 49, 50, 51, 52, 53, 54, 55, 56, 57, 58, 59, 60, 61, 62, 63, 64, 65, 66, 67, 68, 69, 70, 71, 72, 73, 74, 75, 76, 77, 78, 79, 80, 81, 82, 83] (by decide +kernel) (by decide +kernel)) (goodIn_sub (fun _ h => List.mem_cons_of_mem _ (List.mem_append_left _ (List.mem_append_left _ (List.mem_append_right _ h)))) (by decide +kernel))) (goodIn_sub (fun _ h => List.mem_cons_of_mem _ (List.mem_append_left _ (List.mem_append_right _ h))) (by decide +kernel))) (goodIn_sub (fun _ h => List.mem_cons_of_mem _ (List.mem_append_right _ h)) (by decide +kernel))
set_option maxRecDepth 20000 in
theorem gL_addResult_X8_addResult : GoodIn wsL_addResult (wsV RL 55 RX8 yX8_addResult wsX8_addResult) := goodIn_app (goodIn_of _ (by decide +kernel)) ggL_addResult_X8_addResult
theorem dL_addResult_0 : decode cL_addResult 0 = .ok (.aload 4, 2) := by decide +kernel
theorem dL_addResult_2 : decode cL_addResult 2 = .ok (.iconst 0, 1) := by decide +kernel
theorem dL_addResult_3 : decode cL_addResult 3 = .ok (.aload_n 0, 1) := by decide +kernel
theorem dL_addResult_4 : decode cL_addResult 4 = .ok (.iload_n 1, 1) := by decide +kernel
theorem dL_addResult_5 : decode cL_addResult 5 = .ok (.iload_n 2, 1) := by decide +kernel
theorem dL_addResult_6 : decode cL_addResult 6 = .ok (.iload_n 3, 1) := by decide +kernel
theorem dL_addResult_7 : decode cL_addResult 7 = .ok (.invokevirtual 55, 3) := by decide +kernel
theorem dL_addResult_10 : decode cL_addResult 10 = .ok (.i2l, 1) := by decide +kernel
theorem dL_addResult_11 : decode cL_addResult 11 = .ok (.lastore, 1) := by decide +kernel
theorem dL_addResult_12 : decode cL_addResult 12 = .ok (.goto 15, 3) := by decide +kernel
theorem dL_addResult_15 : decode cL_addResult 15 = .ok (.astore 5, 2) := by decide +kernel
theorem dL_addResult_17 : decode cL_addResult 17 = .ok (.iconst 1, 1) := by decide +kernel
theorem dL_addResult_18 : decode cL_addResult 18 = .ok (.ireturn, 1) := by decide +kernel
theorem dL_addResult_19 : decode cL_addResult 19 = .ok (.astore 5, 2) := by decide +kernel
theorem dL_addResult_21 : decode cL_addResult 21 = .ok (.iconst 2, 1) := by decide +kernel
theorem dL_addResult_22 : decode cL_addResult 22 = .ok (.ireturn, 1) := by decide +kernel
theorem dL_addResult_23 : decode cL_addResult 23 = .ok (.astore 5, 2) := by decide +kernel
theorem dL_addResult_25 : decode cL_addResult 25 = .ok (.iconst 3, 1) := by decide +kernel
theorem dL_addResult_26 : decode cL_addResult 26 = .ok (.ireturn, 1) := by decide +kernel
theorem dL_addResult_27 : decode cL_addResult 27 = .ok (.iconst 0, 1) := by decide +kernel
theorem dL_addResult_28 : decode cL_addResult 28 = .ok (.ireturn, 1) := by decide +kernel
set_option maxRecDepth 20000 in
theorem ggL_setCondition_X8_setCondition : GoodIn wsL_setCondition wsX8_setCondition := goodIn_ca (goodIn_ca (goodIn_r _ [7, 8, 9, 10, 11, 12, 13, 14, 15, 16, 17, 18, 19, 20, 21, 22, 23, 24, 25, 26, 27, 28, 29, 30, 31, 32, 33, 34, 6, 35, 36, 37, 38, 39, 40, 41, 42, 43, 44, 45, 46, 47, 48, 49, 50, 51, 52, 53, 54, 55, 56, 57, 58, 59, 60, 61, 62, 63, 64, 65, 66, 67, 68, 69, 70, 71, 72, 73, 74, 75, 76, 77, 78, 79, 80, 81, 82, 83] (by decide +kernel) (by decide +kernel)) (goodIn_sub (fun _ h => List.mem_cons_of_mem _ (List.mem_append_left _ (List.mem_append_right _ h))) (by decide +kernel))) (goodIn_sub (fun _ h => List.mem_cons_of_mem _ (List.mem_append_right _ h)) (by decide +kernel))
set_option maxRecDepth 20000 in
theorem gL_setCondition_X8_setCondition : GoodIn wsL_setCondition (wsV RL 58 RX8 yX8_setCondition wsX8_setCondition) := goodIn_app (goodIn_of _ (by decide +kernel)) ggL_setCondition_X8_setCondition
theorem dL_setCondition_0 : decode cL_setCondition 0 = .ok (.aload 5, 2) := by decide +kernel
theorem dL_setCondition_2 : decode cL_setCondition 2 = .ok (.iconst 0, 1) := by decide +kernel
theorem dL_setCondition_3 : decode cL_setCondition 3 = .ok (.aload_n 0, 1) := by decide +kernel
theorem dL_setCondition_4 : decode cL_setCondition 4 = .ok (.iload_n 1, 1) := by decide +kernel
theorem dL_setCondition_5 : decode cL_setCondition 5 = .ok (.iload_n 2, 1) := by decide +kernel
theorem dL_setCondition_6 : decode cL_setCondition 6 = .ok (.iload_n 3, 1) := by decide +kernel
theorem dL_setCondition_7 : decode cL_setCondition 7 = .ok (.iload 4, 2) := by decide +kernel
theorem dL_setCondition_9 : decode cL_setCondition 9 = .ok (.invokevirtual 58, 3) := by decide +kernel
theorem dL_setCondition_12 : decode cL_setCondition 12 = .ok (.ifCond .eq 7, 3) := by decide +kernel
theorem dL_setCondition_15 : decode cL_setCondition 15 = .ok (.lconst 1, 1) := by decide +kernel
theorem dL_setCondition_16 : decode cL_setCondition 16 = .ok (.goto 4, 3) := by decide +kernel
theorem dL_setCondition_19 : decode cL_setCondition 19 = .ok (.lconst 0, 1) := by decide +kernel
theorem dL_setCondition_20 : decode cL_setCondition 20 = .ok (.lastore, 1) := by decide +kernel
theorem dL_setCondition_21 : decode cL_setCondition 21 = .ok (.goto 11, 3) := by decide +kernel
theorem dL_setCondition_24 : decode cL_setCondition 24 = .ok (.astore 6, 2) := by decide +kernel
theorem dL_setCondition_26 : decode cL_setCondition 26 = .ok (.iconst 1, 1) := by decide +kernel
theorem dL_setCondition_27 : decode cL_setCondition 27 = .ok (.ireturn, 1) := by decide +kernel
theorem dL_setCondition_28 : decode cL_setCondition 28 = .ok (.astore 6, 2) := by decide +kernel
theorem dL_setCondition_30 : decode cL_setCondition 30 = .ok (.iconst 2, 1) := by decide +kernel
theorem dL_setCondition_31 : decode cL_setCondition 31 = .ok (.ireturn, 1) := by decide +kernel
theorem dL_setCondition_32 : decode cL_setCondition 32 = .ok (.iconst 0, 1) := by decide +kernel
theorem dL_setCondition_33 : decode cL_setCondition 33 = .ok (.ireturn, 1) := by decide +kernel
set_option maxRecDepth 20000 in
theorem ggL_dropResult_X8_dropResult : GoodIn wsL_dropResult wsX8_dropResult := goodIn_ca (goodIn_r _ [6, 7, 8, 9, 10, 11, 12, 13, 14, 15, 16, 17, 18, 19, 20, 21, 22, 23, 24, 25, 26, 27, 28, 29, 30, 31, 32, 33, 34, 35, 36] (by decide +kernel) (by decide +kernel)) (goodIn_sub (fun _ h => List.mem_cons_of_mem _ (List.mem_append_right _ h)) (by decide +kernel))
set_option maxRecDepth 20000 in
theorem gL_dropResult_X8_dropResult : GoodIn wsL_dropResult (wsV RL 62 RX8 yX8_dropResult wsX8_dropResult) := goodIn_app (goodIn_of _ (by decide +kernel)) ggL_dropResult_X8_dropResult
theorem dL_dropResult_0 : decode cL_dropResult 0 = .ok (.aload_n 1, 1) := by decide +kernel
theorem dL_dropResult_1 : decode cL_dropResult 1 = .ok (.iconst 0, 1) := by decide +kernel
theorem dL_dropResult_2 : decode cL_dropResult 2 = .ok (.aload_n 0, 1) := by decide +kernel
theorem dL_dropResult_3 : decode cL_dropResult 3 = .ok (.invokevirtual 62, 3) := by decide +kernel
theorem dL_dropResult_6 : decode cL_dropResult 6 = .ok (.i2l, 1) := by decide +kernel
theorem dL_dropResult_7 : decode cL_dropResult 7 = .ok (.lastore, 1) := by decide +kernel
theorem dL_dropResult_8 : decode cL_dropResult 8 = .ok (.goto 6, 3) := by decide +kernel
theorem dL_dropResult_11 : decode cL_dropResult 11 = .ok (.astore_n 2, 1) := by decide +kernel
theorem dL_dropResult_12 : decode cL_dropResult 12 = .ok (.iconst 1, 1) := by decide +kernel
theorem dL_dropResult_13 : decode cL_dropResult 13 = .ok (.ireturn, 1) := by decide +kernel
theorem dL_dropResult_14 : decode cL_dropResult 14 = .ok (.iconst 0, 1) := by decide +kernel
theorem dL_dropResult_15 : decode cL_dropResult 15 = .ok (.ireturn, 1) := by decide +kernel
set_option maxRecDepth 20000 in
theorem ggL_count_X8_count : GoodIn wsL_count wsX8_count := goodIn_ca (goodIn_r _ [6, 7, 8, 9, 10, 11, 12, 13, 14, 15, 16, 17, 18, 19, 20, 21, 22, 23, 24, 25, 26, 27, 28, 29, 30, 31, 32, 33, 34, 35, 36, 37, 38, 39, 40, 41, 42, 43, 44, 45, 46, 47, 48, 49, 50, 51, 52, 53, 54, 55, 56, 57, 58, 59, 60, 61, 62, 63, 64, 65, 66] (by decide +kernel) (by decide +kernel)) (goodIn_sub (fun _ h => List.mem_cons_of_mem _ (List.mem_append_right _ h)) (by decide +kernel))
set_option maxRecDepth 20000 in
theorem gL_count_X8_count : GoodIn wsL_count (wsV RL 65 RX8 yX8_count wsX8_count) := goodIn_app (goodIn_of _ (by decide +kernel)) ggL_count_X8_count
theorem dL_count_0 : decode cL_count 0 = .ok (.aload_n 2, 1) := by decide +kernel
theorem dL_count_1 : decode cL_count 1 = .ok (.iconst 0, 1) := by decide +kernel
theorem dL_count_2 : decode cL_count 2 = .ok (.aload_n 0, 1) := by decide +kernel
theorem dL_count_3 : decode cL_count 3 = .ok (.iload_n 1, 1) := by decide +kernel
theorem dL_count_4 : decode cL_count 4 = .ok (.invokevirtual 65, 3) := by decide +kernel
theorem dL_count_7 : decode cL_count 7 = .ok (.i2l, 1) := by decide +kernel
theorem dL_count_8 : decode cL_count 8 = .ok (.lastore, 1) := by decide +kernel
theorem dL_count_9 : decode cL_count 9 = .ok (.goto 6, 3) := by decide +kernel
theorem dL_count_12 : decode cL_count 12 = .ok (.astore_n 3, 1) := by decide +kernel
theorem dL_count_13 : decode cL_count 13 = .ok (.iconst 1, 1) := by decide +kernel
theorem dL_count_14 : decode cL_count 14 = .ok (.ireturn, 1) := by decide +kernel
theorem dL_count_15 : decode cL_count 15 = .ok (.iconst 0, 1) := by decide +kernel
theorem dL_count_16 : decode cL_count 16 = .ok (.ireturn, 1) := by decide +kernel
set_option maxRecDepth 20000 in
theorem ggL_presence_X8_presence : GoodIn wsL_presence wsX8_presence := goodIn_ca (goodIn_r _ [6, 7, 8, 9, 10, 11, 12, 13, 14, 15, 16, 17, 18, 19, 20, 21, 22, 23, 24, 25, 26, 27, 28, 29, 30, 31, 32, 33, 34, 35, 36, 37, 38, 39, 40, 41, 42, 43, 44, 45, 46, 47, 48, 49, 50, 51, 52, 53, 54, 55, 56, 57, 58, 59, 60, 61, 62, 63, 64, 65, 66, 67, 68, 69, 70, 5, 71, 72, 73, 74, 75, 76, 77, 78, 79, 80, 81, 82, 83, 84, 85, 86, 87, 88, 89, 90, 91, 92, 93, 94, 95, 96, 97, 98, 99, 100, 101, 102, 103, 104, 105, 106, 107, 108, 109, 110, 111, 112, 113, 114, 115, 116, 117, 118, 119, 120, 121, 122, 123] (by decide +kernel) (by decide +kernel)) (goodIn_sub (fun _ h => List.mem_cons_of_mem _ (List.mem_append_right _ h)) (by decide +kernel))
set_option maxRecDepth 20000 in
theorem gL_presence_X8_presence : GoodIn wsL_presence (wsV RL 69 RX8 yX8_presence wsX8_presence) := goodIn_app (goodIn_of _ (by decide +kernel)) ggL_presence_X8_presence
theorem dL_presence_0 : decode cL_presence 0 = .ok (.aload_n 3, 1) := by decide +kernel
theorem dL_presence_1 : decode cL_presence 1 = .ok (.iconst 0, 1) := by decide +kernel
theorem dL_presence_2 : decode cL_presence 2 = .ok (.aload_n 0, 1) := by decide +kernel
theorem dL_presence_3 : decode cL_presence 3 = .ok (.iload_n 1, 1) := by decide +kernel
theorem dL_presence_4 : decode cL_presence 4 = .ok (.iload_n 2, 1) := by decide +kernel
theorem dL_presence_5 : decode cL_presence 5 = .ok (.invokevirtual 69, 3) := by decide +kernel
theorem dL_presence_8 : decode cL_presence 8 = .ok (.i2l, 1) := by decide +kernel
theorem dL_presence_9 : decode cL_presence 9 = .ok (.lastore, 1) := by decide +kernel
theorem dL_presence_10 : decode cL_presence 10 = .ok (.goto 7, 3) := by decide +kernel
theorem dL_presence_13 : decode cL_presence 13 = .ok (.astore 4, 2) := by decide +kernel
theorem dL_presence_15 : decode cL_presence 15 = .ok (.iconst 1, 1) := by decide +kernel
theorem dL_presence_16 : decode cL_presence 16 = .ok (.ireturn, 1) := by decide +kernel
theorem dL_presence_17 : decode cL_presence 17 = .ok (.iconst 0, 1) := by decide +kernel
theorem dL_presence_18 : decode cL_presence 18 = .ok (.ireturn, 1) := by decide +kernel
set_option maxRecDepth 20000 in
theorem ggL_parent_X8_parent : GoodIn wsL_parent wsX8_parent := goodIn_ca (goodIn_ca (goodIn_r _ [7, 8, 9, 10, 11, 12, 13, 14, 15, 16, 17, 18, 19, 20, 21, 22, 23, 6, 24, 25, 26, 27, 28, 29, 30, 31, 32, 33, 34, 35, 36, 37, 38, 39, 40, 41, 42, 43, 44, 45, 46, 47, 48, 49, 50, 51, 52, 53, 54, 55, 56, 57, 58, 59, 60, 61, 62, 63, 64, 65, 66, 67, 68, 69, 70, 71, 72, 73, 74, 75, 76, 77, 78, 79, 80, 81, 82, 83, 84, 85, 86, 87, 88, 89, 90, 91, 92, 93, 94, 95, 96, 97, 98, 99, 100, 101, 102, 103, 104, 105, 106, 107, 108, 109, 110, 111, 112, 113, 114, 115, 116, 117, 118, 119, 120, 121, 122, 123, 124, 125, 126, 127, 128, 129, 130, 131, 132, 133, 134, 135, 136, 137, 138, 139, 140, 141, 142, 143, 144, 145, 146, 147, 148, 149, 150, 151, 152, 153, 154, 155, 156, 157, 158, 159, 160, 161, 162, 163, 164, 165, 166, 167, 168, 169, 170, 171, 172, 173, 174, 175, 176, 177, 178, 179, 180, 181, 182, 183, 184, 185, 186, 187, 188, 189, 190, 191, 192, 193, 194, 195, 196, 197, 198, 199, 200, 201, 202, 203, 204, 205, 206, 207, 208, 209, 210, 211, 212, 213, 214, 215] (by decide +kernel) (by decide +kernel)) (goodIn_sub (fun _ h => List.mem_cons_of_mem _ (List.mem_append_left _ (List.mem_append_right _ h))) (by decide +kernel))) (goodIn_sub (fun _ h => List.mem_cons_of_mem _ (List.mem_append_right _ h)) (by decide +kernel))
set_option maxRecDepth 20000 in
theorem gL_parent_X8_parent : GoodIn wsL_parent (wsV RL 72 RX8 yX8_parent wsX8_parent) := goodIn_app (goodIn_of _ (by decide +kernel)) ggL_parent_X8_parent
theorem dL_parent_0 : decode cL_parent 0 = .ok (.aload_n 3, 1) := by decide +kernel
theorem dL_parent_1 : decode cL_parent 1 = .ok (.iconst 0, 1) := by decide +kernel
theorem dL_parent_2 : decode cL_parent 2 = .ok (.aload_n 0, 1) := by decide +kernel
theorem dL_parent_3 : decode cL_parent 3 = .ok (.iload_n 1, 1) := by decide +kernel
theorem dL_parent_4 : decode cL_parent 4 = .ok (.iload_n 2, 1) := by decide +kernel
theorem dL_parent_5 : decode cL_parent 5 = .ok (.invokevirtual 72, 3) := by decide +kernel
theorem dL_parent_8 : decode cL_parent 8 = .ok (.i2l, 1) := by decide +kernel
theorem dL_parent_9 : decode cL_parent 9 = .ok (.lastore, 1) := by decide +kernel
theorem dL_parent_10 : decode cL_parent 10 = .ok (.goto 11, 3) := by decide +kernel
theorem dL_parent_13 : decode cL_parent 13 = .ok (.astore 4, 2) := by decide +kernel
theorem dL_parent_15 : decode cL_parent 15 = .ok (.iconst 1, 1) := by decide +kernel
theorem dL_parent_16 : decode cL_parent 16 = .ok (.ireturn, 1) := by decide +kernel
theorem dL_parent_17 : decode cL_parent 17 = .ok (.astore 4, 2) := by decide +kernel
theorem dL_parent_19 : decode cL_parent 19 = .ok (.iconst 2, 1) := by decide +kernel
theorem dL_parent_20 : decode cL_parent 20 = .ok (.ireturn, 1) := by decide +kernel
theorem dL_parent_21 : decode cL_parent 21 = .ok (.iconst 0, 1) := by decide +kernel
theorem dL_parent_22 : decode cL_parent 22 = .ok (.ireturn, 1) := by decide +kernel
set_option maxRecDepth 20000 in
theorem ggL_isBelow_X8_isBelow : GoodIn wsL_isBelow wsX8_isBelow := goodIn_ca (goodIn_ca (goodIn_r _ [7, 8, 9, 10, 11, 12, 13, 14, 15, 16, 17, 18, 19, 20, 21, 22, 23, 6, 24, 25, 26, 27, 28, 29, 30, 31, 32, 33, 34, 35, 36, 37, 38, 39, 40, 41, 42, 43, 44, 45, 46, 47, 48, 49, 50, 51, 52, 53, 54, 55, 56, 57, 58, 59, 60, 61, 62, 63, 64, 65, 66, 67, 68, 69, 70, 71, 72, 73, 74, 75, 76, 77, 78, 79, 80, 81, 82, 83, 84, 85, 86, 87, 88, 89, 90, 91, 92, 93, 94, 95, 96, 97, 98, 99, 100, 101, 102, 103, 104, 105, 106, 107, 108, 109, 110, 111, 112, 113, 114, 115, 116, 117, 118, 119, 120, 121, 122, 123, 124, 125, 126, 127, 128, 129, 130, 131, 132, 133, 134, 135, 136, 137, 138, 139, 140, 141, 142, 143, 144, 145, 146, 147, 148, 149, 150, 151, 152, 153, 154, 155, 156, 157, 158, 159, 160, 161, 162, 163, 164, 165, 166, 167, 168, 169, 170, 171, 172, 173, 174, 175, 176, 177, 178, 179, 180, 181, 182, 183, 184, 185, 186, 187, 188, 189, 190, 191, 192, 193, 194, 195, 196, 197, 198, 199, 200, 201, 202, 203, 204, 205, 206, 207, 208, 209, 210, 211, 212, 213, 214, 215] (by decide +kernel) (by decide +kernel)) (goodIn_sub (fun _ h => List.mem_cons_of_mem _ (List.mem_append_left _ (List.mem_append_right _ h))) (by decide +kernel))) (goodIn_sub (fun _ h => List.mem_cons_of_mem _ (List.mem_append_right _ h)) (by decide +kernel))
set_option maxRecDepth 20000 in
theorem gL_isBelow_X8_isBelow : GoodIn wsL_isBelow (wsV RL 75 RX8 yX8_isBelow wsX8_isBelow) := goodIn_app (goodIn_of _ (by decide +kernel)) ggL_isBelow_X8_isBelow
theorem dL_isBelow_0 : decode cL_isBelow 0 = .ok (.aload 4, 2) := by decide +kernel
theorem dL_isBelow_2 : decode cL_isBelow 2 = .ok (.iconst 0, 1) := by decide +kernel
theorem dL_isBelow_3 : decode cL_isBelow 3 = .ok (.aload_n 0, 1) := by decide +kernel
theorem dL_isBelow_4 : decode cL_isBelow 4 = .ok (.iload_n 1, 1) := by decide +kernel
theorem dL_isBelow_5 : decode cL_isBelow 5 = .ok (.iload_n 2, 1) := by decide +kernel
theorem dL_isBelow_6 : decode cL_isBelow 6 = .ok (.iload_n 3, 1) := by decide +kernel
theorem dL_isBelow_7 : decode cL_isBelow 7 = .ok (.invokevirtual 75, 3) := by decide +kernel
theorem dL_isBelow_10 : decode cL_isBelow 10 = .ok (.ifCond .eq 7, 3) := by decide +kernel
theorem dL_isBelow_13 : decode cL_isBelow 13 = .ok (.lconst 1, 1) := by decide +kernel
theorem dL_isBelow_14 : decode cL_isBelow 14 = .ok (.goto 4, 3) := by decide +kernel
theorem dL_isBelow_17 : decode cL_isBelow 17 = .ok (.lconst 0, 1) := by decide +kernel
theorem dL_isBelow_18 : decode cL_isBelow 18 = .ok (.lastore, 1) := by decide +kernel
theorem dL_isBelow_19 : decode cL_isBelow 19 = .ok (.goto 11, 3) := by decide +kernel
theorem dL_isBelow_22 : decode cL_isBelow 22 = .ok (.astore 5, 2) := by decide +kernel
theorem dL_isBelow_24 : decode cL_isBelow 24 = .ok (.iconst 1, 1) := by decide +kernel
theorem dL_isBelow_25 : decode cL_isBelow 25 = .ok (.ireturn, 1) := by decide +kernel
theorem dL_isBelow_26 : decode cL_isBelow 26 = .ok (.astore 5, 2) := by decide +kernel
theorem dL_isBelow_28 : decode cL_isBelow 28 = .ok (.iconst 2, 1) := by decide +kernel
theorem dL_isBelow_29 : decode cL_isBelow 29 = .ok (.ireturn, 1) := by decide +kernel
theorem dL_isBelow_30 : decode cL_isBelow 30 = .ok (.iconst 0, 1) := by decide +kernel
theorem dL_isBelow_31 : decode cL_isBelow 31 = .ok (.ireturn, 1) := by decide +kernel
set_option maxRecDepth 20000 in
theorem ggL_find_X8_find : GoodIn wsL_find wsX8_find := goodIn_ca (goodIn_ca (goodIn_r _ [7, 8, 9, 10, 11, 12, 13, 14, 15, 16, 17, 18, 19, 20, 21, 22, 6, 23, 24, 25, 26, 27, 28, 29, 30, 31, 32, 33, 34, 35, 36, 37, 38, 39, 40, 41, 42, 43, 44, 45, 46, 47, 48, 49, 50, 51, 52, 53, 54, 55, 56, 57, 58, 59, 60, 61, 62, 63, 64, 65, 66, 67, 68, 69, 70, 71, 72, 73, 74, 75, 76, 77, 78, 79, 80, 81, 82, 83, 84, 85, 86, 87, 88, 89, 90, 91, 92, 93, 94, 95, 96, 97, 98, 99, 100, 101, 102, 103, 104, 105, 106, 107, 108, 109, 110, 111, 112, 113, 114, 115, 116, 117, 118, 119, 120, 121, 122, 123, 124, 125, 126, 127, 128, 129, 130, 131, 132, 133, 134, 135, 136, 137, 138, 139, 140, 141, 142, 143, 144, 145, 146, 147, 148, 149, 150, 151, 152, 153, 154, 155, 156, 157, 158, 159, 160, 161, 162, 163, 164, 165, 166, 167, 168, 169, 170, 171, 172, 173, 174, 175, 176, 177, 178, 179, 180, 181, 182, 183, 184, 185, 186, 187, 188, 189, 190, 191, 192, 193, 194, 195, 196, 197, 198, 199, 200, 201, 202, 203, 204, 205, 206, 207, 208, 209, 210, 211, 212, 213, 214, 215, 216, 217, 218] (by decide +kernel) (by decide +kernel)) (goodIn_sub (fun _ h => List.mem_cons_of_mem _ (List.mem_append_left _ (List.mem_append_right _ h))) (by decide +kernel))) (goodIn_sub (fun _ h => List.mem_cons_of_mem _ (List.mem_append_right _ h)) (by decide +kernel))
set_option maxRecDepth 20000 in
theorem gL_find_X8_find : GoodIn wsL_find (wsV RL 79 RX8 yX8_find wsX8_find) := goodIn_app (goodIn_of _ (by decide +kernel)) ggL_find_X8_find
theorem dL_find_0 : decode cL_find 0 = .ok (.aload 5, 2) := by decide +kernel
theorem dL_find_2 : decode cL_find 2 = .ok (.iconst 0, 1) := by decide +kernel
theorem dL_find_3 : decode cL_find 3 = .ok (.aload_n 0, 1) := by decide +kernel
theorem dL_find_4 : decode cL_find 4 = .ok (.iload_n 1, 1) := by decide +kernel
theorem dL_find_5 : decode cL_find 5 = .ok (.iload_n 2, 1) := by decide +kernel
theorem dL_find_6 : decode cL_find 6 = .ok (.iload_n 3, 1) := by decide +kernel
theorem dL_find_7 : decode cL_find 7 = .ok (.iload 4, 2) := by decide +kernel
theorem dL_find_9 : decode cL_find 9 = .ok (.invokevirtual 79, 3) := by decide +kernel
theorem dL_find_12 : decode cL_find 12 = .ok (.i2l, 1) := by decide +kernel
theorem dL_find_13 : decode cL_find 13 = .ok (.lastore, 1) := by decide +kernel
theorem dL_find_14 : decode cL_find 14 = .ok (.goto 11, 3) := by decide +kernel
theorem dL_find_17 : decode cL_find 17 = .ok (.astore 6, 2) := by decide +kernel
theorem dL_find_19 : decode cL_find 19 = .ok (.iconst 1, 1) := by decide +kernel
theorem dL_find_20 : decode cL_find 20 = .ok (.ireturn, 1) := by decide +kernel
theorem dL_find_21 : decode cL_find 21 = .ok (.astore 6, 2) := by decide +kernel
theorem dL_find_23 : decode cL_find 23 = .ok (.iconst 2, 1) := by decide +kernel
theorem dL_find_24 : decode cL_find 24 = .ok (.ireturn, 1) := by decide +kernel
theorem dL_find_25 : decode cL_find 25 = .ok (.iconst 0, 1) := by decide +kernel
theorem dL_find_26 : decode cL_find 26 = .ok (.ireturn, 1) := by decide +kernel
set_option maxRecDepth 20000 in
theorem ggL_typeOf_X8_typeOf : GoodIn wsL_typeOf wsX8_typeOf := goodIn_ca (goodIn_ca (goodIn_r _ [7, 8, 9, 10, 11, 12, 13, 14, 15, 16, 17, 18, 19, 20, 21, 22, 23, 6, 24, 25, 26, 27, 28, 29, 30, 31, 32, 33, 34, 35, 36, 37, 38, 39, 40, 41, 42, 43, 44, 45, 46, 47, 48, 49, 50, 51, 52, 53, 54, 55, 56, 57, 58, 59, 60, 61, 62, 63, 64, 65, 66, 67, 68, 69, 70, 71, 72, 73, 74, 75, 76, 77, 78, 79, 80, 81, 82, 83, 84, 85, 86, 87, 88, 89, 90, 91, 92, 93, 94, 95, 96, 97, 98, 99, 100, 101, 102, 103, 104, 105, 106, 107, 108, 109, 110, 111, 112, 113, 114, 115, 116, 117, 118, 119, 120, 121, 122, 123, 124, 125, 126, 127, 128, 129, 130, 131, 132, 133, 134, 135, 136, 137, 138, 139, 140, 141, 142, 143, 144, 145, 146, 147, 148, 149, 150, 151, 152, 153, 154, 155, 156, 157, 158, 159, 160, 161, 162, 163, 164, 165, 166, 167, 168, 169, 170, 171, 172, 173, 174, 175, 176, 177, 178, 179, 180, 181, 182, 183, 184, 185, 186, 187, 188, 189, 190, 191, 192, 193, 194, 195, 196, 197, 198, 199, 200, 201, 202, 203, 204, 205, 206, 207, 208, 209, 210, 211, 212, 213, 214, 215, 216, 217, 218, 219, 220, 221, 222, 223, 224, 225, 226, 227, 228, 229, 230, 231, 232, 233, 234, 235, 236, 237, 238, 239, 240, 241, 242, 243, 244, 245, 246, 247, 248, 249, 250, 251, 252, 253, 254, 255, 256, 257, 258, 259, 260, 261, 262, 263, 264, 265, 266, 267, 268, 269, 270, 271, 272, 273, 274, 275, 276, 277, 278, 279, 280, 281, 282, 283, 284, 285, 286, 287, 288, 289, 290, 291, 292, 293, 294, 295, 296, 297, 298, 299, 300, 301, 302, 303] (by decide +kernel) (by decide +kernel)) (goodIn_sub (fun _ h => List.mem_cons_of_mem _ (List.mem_append_left _ (List.mem_append_right _ h))) (by decide +kernel))) (goodIn_sub (fun _ h => List.mem_cons_of_mem _ (List.mem_append_right _ h)) (by decide +kernel))
set_option maxRecDepth 20000 in
theorem gL_typeOf_X8_typeOf : GoodIn wsL_typeOf (wsV RL 83 RX8 yX8_typeOf wsX8_typeOf) := goodIn_app (goodIn_of _ (by decide +kernel)) ggL_typeOf_X8_typeOf
theorem dL_typeOf_0 : decode cL_typeOf 0 = .ok (.aload_n 3, 1) := by decide +kernel
theorem dL_typeOf_1 : decode cL_typeOf 1 = .ok (.iconst 0, 1) := by decide +kernel
theorem dL_typeOf_2 : decode cL_typeOf 2 = .ok (.aload_n 0, 1) := by decide +kernel
theorem dL_typeOf_3 : decode cL_typeOf 3 = .ok (.iload_n 1, 1) := by decide +kernel
theorem dL_typeOf_4 : decode cL_typeOf 4 = .ok (.iload_n 2, 1) := by decide +kernel
theorem dL_typeOf_5 : decode cL_typeOf 5 = .ok (.invokevirtual 83, 3) := by decide +kernel
theorem dL_typeOf_8 : decode cL_typeOf 8 = .ok (.i2l, 1) := by decide +kernel
theorem dL_typeOf_9 : decode cL_typeOf 9 = .ok (.lastore, 1) := by decide +kernel
theorem dL_typeOf_10 : decode cL_typeOf 10 = .ok (.goto 11, 3) := by decide +kernel
theorem dL_typeOf_13 : decode cL_typeOf 13 = .ok (.astore 4, 2) := by decide +kernel
theorem dL_typeOf_15 : decode cL_typeOf 15 = .ok (.iconst 1, 1) := by decide +kernel
theorem dL_typeOf_16 : decode cL_typeOf 16 = .ok (.ireturn, 1) := by decide +kernel
theorem dL_typeOf_17 : decode cL_typeOf 17 = .ok (.astore 4, 2) := by decide +kernel
theorem dL_typeOf_19 : decode cL_typeOf 19 = .ok (.iconst 2, 1) := by decide +kernel
theorem dL_typeOf_20 : decode cL_typeOf 20 = .ok (.ireturn, 1) := by decide +kernel
theorem dL_typeOf_21 : decode cL_typeOf 21 = .ok (.iconst 0, 1) := by decide +kernel
theorem dL_typeOf_22 : decode cL_typeOf 22 = .ok (.ireturn, 1) := by decide +kernel
set_option maxRecDepth 20000 in
theorem ggL_error_X8_error : GoodIn wsL_error wsX8_error := goodIn_ca (goodIn_r _ [6, 7, 8, 9, 10, 11, 12, 5, 13, 14, 15, 16, 17, 18, 19, 20, 21, 22, 23, 24, 25, 26, 27, 28, 29, 30, 31, 32, 33, 34, 35, 36, 37, 38, 39, 40, 41, 42, 43, 44, 45, 46, 47, 48, 49, 50, 51, 52, 53, 54, 55, 56, 57, 58, 59, 60, 61, 62, 63, 64, 65, 66, 67, 68, 69, 70, 71, 72, 73, 74, 75, 76, 77, 78, 79, 80, 81, 82, 83, 84, 85, 86, 87, 88, 89, 90, 91, 92, 93, 94, 95, 96, 97, 98, 99, 100, 101, 102, 103, 104, 105, 106, 107, 108, 109, 110, 111, 112, 113, 114, 115, 116, 117, 118, 119, 120, 121, 122, 123, 124, 125, 126, 127, 128, 129, 130, 131, 132, 133, 134, 135, 136, 137, 138, 139, 140, 141, 142, 143, 144, 145, 146, 147, 148, 149, 150, 151, 152, 153, 154, 155, 156, 157, 158, 159, 160, 161, 162, 163, 164, 165, 166, 167, 168, 169, 170, 171, 172, 173, 174, 175, 176, 177, 178, 179, 180, 181, 182, 183, 184, 185, 186, 187, 188, 189, 190, 191, 192, 193, 194, 195, 196, 197, 198, 199, 200, 201, 202, 203, 204, 205, 206, 207, 208, 209, 210, 211, 212, 213, 214, 215, 216, 217, 218, 219, 220, 221, 222, 223, 224, 225, 226, 227, 228, 229, 230, 231, 232, 233, 234, 235, 236, 237, 238, 239, 240, 241, 242, 243, 244, 245, 246, 247, 248, 249, 250, 251, 252, 253, 254, 255, 256, 257, 258, 259, 260, 261, 262, 263, 264, 265, 266, 267, 268, 269, 270, 271, 272, 273, 274, 275, 276, 277, 278, 279, 280, 281, 282, 283, 284, 285, 286, 287, 288, 289, 290, 291, 292, 293, 294, 295, 296, 297, 298, 299, 300, 301, 302, 303, 304, 305, 306, 307, 308, 309, 310, 311, 312, 313, 314, 315, 316, 317, 318, 319, 320, 321, 322, 323, 324, 325, 326, 327, 328, 329, 330, 331, 332, 333, 334, 335, 336, 337, 338, 339, 340, 341, 342, 343, 344, 345, 346, 347, 348, 349, 350, 351, 352, 353, 354, 355, 356, 357, 358, 359, 360, 361, 362, 363, 364, 365, 366, 367, 368, 369, 370, 371, 372, 373, 374, 375, 376, 377, 378, 379, 380, 381, 382, 383, 384, 385, 386, 387, 388, 389, 390, 391, 392, 393, 394, 395, 396, 397, 398, 399, 400, 401, 402, 403, 404, 405, 406, 407, 408, 409, 410, 411, 412, 413] (by decide +kernel) (by decide +kernel)) (goodIn_sub (fun _ h => List.mem_cons_of_mem _ (List.mem_append_right _ h)) (by decide +kernel))
set_option maxRecDepth 20000 in
theorem gL_error_X8_error : GoodIn wsL_error (wsV RL 86 RX8 yX8_error wsX8_error) := goodIn_app (goodIn_of _ (by decide +kernel)) ggL_error_X8_error
theorem dL_error_0 : decode cL_error 0 = .ok (.aload_n 3, 1) := by decide +kernel
theorem dL_error_1 : decode cL_error 1 = .ok (.iconst 0, 1) := by decide +kernel
theorem dL_error_2 : decode cL_error 2 = .ok (.aload_n 0, 1) := by decide +kernel
theorem dL_error_3 : decode cL_error 3 = .ok (.iload_n 1, 1) := by decide +kernel
theorem dL_error_4 : decode cL_error 4 = .ok (.iload_n 2, 1) := by decide +kernel
theorem dL_error_5 : decode cL_error 5 = .ok (.invokevirtual 86, 3) := by decide +kernel
theorem dL_error_8 : decode cL_error 8 = .ok (.i2l, 1) := by decide +kernel
theorem dL_error_9 : decode cL_error 9 = .ok (.lastore, 1) := by decide +kernel
theorem dL_error_10 : decode cL_error 10 = .ok (.goto 7, 3) := by decide +kernel
theorem dL_error_13 : decode cL_error 13 = .ok (.astore 4, 2) := by decide +kernel
theorem dL_error_15 : decode cL_error 15 = .ok (.iconst 1, 1) := by decide +kernel
theorem dL_error_16 : decode cL_error 16 = .ok (.ireturn, 1) := by decide +kernel
theorem dL_error_17 : decode cL_error 17 = .ok (.iconst 0, 1) := by decide +kernel
theorem dL_error_18 : decode cL_error 18 = .ok (.ireturn, 1) := by decide +kernel
set_option maxRecDepth 20000 in
theorem ggL_errorsIn_X8_errorsIn : GoodIn wsL_errorsIn wsX8_errorsIn := goodIn_ca (goodIn_r _ [6, 7, 8, 9, 10, 11, 12, 5, 13, 14, 15, 16, 17, 18, 19, 20, 21, 22, 23, 24, 25, 26, 27, 28, 29, 30, 31, 32, 33, 34, 35, 36, 37, 38, 39, 40, 41, 42, 43, 44, 45, 46, 47, 48, 49, 50, 51, 52, 53, 54, 55, 56, 57, 58, 59, 60, 61, 62, 63, 64, 65, 66, 67, 68, 69, 70, 71, 72, 73, 74, 75, 76, 77, 78, 79, 80, 81, 82, 83, 84, 85, 86, 87, 88, 89, 90, 91, 92, 93, 94, 95, 96, 97, 98, 99, 100, 101, 102, 103, 104, 105, 106, 107, 108, 109, 110, 111, 112, 113, 114, 115, 116, 117, 118, 119, 120, 121, 122, 123, 124, 125, 126, 127, 128, 129, 130, 131, 132, 133, 134, 135, 136, 137, 138, 139, 140, 141, 142, 143, 144, 145, 146, 147, 148, 149, 150, 151, 152, 153, 154, 155, 156, 157, 158, 159, 160, 161, 162, 163, 164, 165, 166, 167, 168, 169, 170, 171, 172, 173, 174, 175, 176, 177, 178, 179, 180, 181, 182, 183, 184, 185, 186, 187, 188, 189, 190, 191, 192, 193, 194, 195, 196, 197, 198, 199, 200, 201, 202, 203, 204, 205, 206, 207, 208, 209, 210, 211, 212, 213, 214, 215, 216, 217, 218, 219, 220, 221, 222, 223, 224, 225, 226, 227, 228, 229, 230, 231, 232, 233, 234, 235, 236, 237, 238, 239, 240, 241, 242, 243, 244, 245, 246, 247, 248, 249, 250, 251, 252, 253, 254, 255, 256, 257, 258, 259, 260, 261, 262, 263, 264, 265, 266, 267, 268, 269, 270, 271, 272, 273, 274, 275, 276, 277, 278, 279, 280, 281, 282, 283, 284, 285, 286, 287, 288, 289, 290, 291, 292, 293, 294, 295, 296, 297, 298, 299, 300, 301, 302, 303, 304, 305, 306, 307, 308, 309, 310, 311, 312, 313, 314, 315, 316, 317, 318, 319, 320, 321, 322, 323, 324, 325, 326, 327, 328, 329, 330, 331, 332, 333, 334, 335, 336, 337, 338, 339, 340, 341, 342, 343, 344, 345, 346, 347, 348, 349, 350, 351, 352, 353, 354, 355, 356, 357, 358, 359, 360, 361, 362, 363, 364, 365, 366, 367, 368, 369, 370, 371, 372, 373, 374, 375, 376, 377, 378, 379, 380, 381, 382, 383, 384, 385, 386, 387, 388, 389, 390, 391, 392, 393, 394, 395, 396, 397, 398, 399, 400, 401, 402, 403, 404, 405, 406, 407, 408, 409, 410] (by decide +kernel) (by decide +kernel)) (goodIn_sub (fun _ h => List.mem_cons_of_mem _ (List.mem_append_right _ h)) (by decide +kernel))
set_option maxRecDepth 20000 in
theorem gL_errorsIn_X8_errorsIn : GoodIn wsL_errorsIn (wsV RL 89 RX8 yX8_errorsIn wsX8_errorsIn) := goodIn_app (goodIn_of _ (by decide +kernel)) ggL_errorsIn_X8_errorsIn
theorem dL_errorsIn_0 : decode cL_errorsIn 0 = .ok (.aload_n 2, 1) := by decide +kernel
theorem dL_errorsIn_1 : decode cL_errorsIn 1 = .ok (.iconst 0, 1) := by decide +kernel
theorem dL_errorsIn_2 : decode cL_errorsIn 2 = .ok (.aload_n 0, 1) := by decide +kernel
theorem dL_errorsIn_3 : decode cL_errorsIn 3 = .ok (.iload_n 1, 1) := by decide +kernel
theorem dL_errorsIn_4 : decode cL_errorsIn 4 = .ok (.invokevirtual 89, 3) := by decide +kernel
theorem dL_errorsIn_7 : decode cL_errorsIn 7 = .ok (.i2l, 1) := by decide +kernel
theorem dL_errorsIn_8 : decode cL_errorsIn 8 = .ok (.lastore, 1) := by decide +kernel
theorem dL_errorsIn_9 : decode cL_errorsIn 9 = .ok (.goto 6, 3) := by decide +kernel
theorem dL_errorsIn_12 : decode cL_errorsIn 12 = .ok (.astore_n 3, 1) := by decide +kernel
theorem dL_errorsIn_13 : decode cL_errorsIn 13 = .ok (.iconst 1, 1) := by decide +kernel
theorem dL_errorsIn_14 : decode cL_errorsIn 14 = .ok (.ireturn, 1) := by decide +kernel
theorem dL_errorsIn_15 : decode cL_errorsIn 15 = .ok (.iconst 0, 1) := by decide +kernel
theorem dL_errorsIn_16 : decode cL_errorsIn 16 = .ok (.ireturn, 1) := by decide +kernel
set_option maxRecDepth 20000 in
theorem ggL_law_X8_init : GoodIn wsL_law wsX8_init := goodIn_r _ [9, 10, 11, 12, 13, 14, 15, 16, 17, 18, 19, 20, 21, 22, 23, 24, 25, 26, 27, 28, 29, 30, 31, 32, 33, 34, 35, 36, 37, 38, 39, 40, 41, 42, 43, 44, 45, 46, 47, 48, 49, 50, 51, 52, 53, 54, 55, 56, 57, 58, 59, 60, 61, 62, 63, 64, 65, 66, 67, 68, 69, 70, 71, 72, 73, 74, 75, 76, 77, 78, 79, 80, 81, 82, 83, 84, 85, 86, 87, 88, 89, 90, 91, 92, 93, 94, 95, 96, 97, 98, 99, 100, 101, 102, 103, 104, 105, 106, 107, 108, 109, 110, 111, 112, 113, 114, 115, 116, 117, 118, 119, 120, 121, 122, 123, 124, 125, 126, 127, 1083, 1084, 1085, 1086, 1055, 1056, 1057, 1058, 1087, 1088, 1089, 1090, 1091, 1092, 1093, 1094, 1095, 1096, 1097, 1098, 1099, 1100, 1101, 1102, 1103, 1104, 1105, 1106, 1107, 1108, 1109, 1110, 1111, 1112, 1113, 1114, 1115, 1116, 1117, 1118, 1119, 1120, 1121, 1122, 1123, 1124, 1125, 1126] (by decide +kernel) (by decide +kernel)
set_option maxRecDepth 20000 in
theorem gL_law_X8_init : GoodIn wsL_law (wsX8_init) := ggL_law_X8_init
set_option maxRecDepth 20000 in
theorem ggL_law_X9_init : GoodIn wsL_law wsX9_init := goodIn_r _ [130, 131, 11, 12, 43, 132, 133, 134, 135, 136, 137, 138, 139, 140, 141, 142, 143, 144, 145, 146, 147, 148, 149, 150, 151, 152, 1059, 1060, 1061, 1062, 1063, 1064, 1065, 1066, 1067, 1068, 1069, 1070, 1071, 1072, 1073, 1074, 1075, 1076, 1077, 1078, 1079, 1080, 1081, 1082] (by decide +kernel) (by decide +kernel)
set_option maxRecDepth 20000 in
theorem gL_law_X9_init : GoodIn wsL_law (wsX9_init) := ggL_law_X9_init
set_option maxRecDepth 20000 in
theorem ggL_law_L_addRule : GoodIn wsL_law wsL_addRule := goodIn_ca (goodIn_ca (goodIn_r _ [156, 157, 158, 159, 160, 161, 2, 162, 163, 164, 165, 166, 16, 167, 168, 169, 170, 171, 172, 15, 173, 38, 174, 175, 176, 177, 35, 36, 37, 178, 179, 180, 34, 181, 44, 1055, 1056, 1057, 1058, 1083, 1084, 1085, 1086, 1108] (by decide +kernel) (by decide +kernel)) (goodIn_sub (fun _ h => List.mem_append_left _ (List.mem_append_left _ (List.mem_append_right _ h))) (by decide +kernel))) (goodIn_sub (fun _ h => List.mem_append_left _ (List.mem_append_right _ h)) (by decide +kernel))
set_option maxRecDepth 20000 in
theorem gL_law_L_addRule : GoodIn wsL_law (va_wsS RL 96 yL_addRule wsL_addRule) := goodIn_app (goodIn_of _ (by decide +kernel)) ggL_law_L_addRule
set_option maxRecDepth 20000 in
theorem ggL_law_X9_addRule : GoodIn wsL_law wsX9_addRule := goodIn_r _ [185, 186, 187, 132, 133, 134, 188, 189, 190, 5, 191, 192, 193, 194, 195, 1059, 1060, 1061, 1062, 1063, 1064, 1065, 1066, 1067, 1068, 1069, 1070, 1071, 1072, 1073, 1074, 1075, 1076, 1077, 1078, 1079, 1080, 1081, 1082] (by decide +kernel) (by decide +kernel)
set_option maxRecDepth 20000 in
theorem gL_law_X9_addRule : GoodIn wsL_law (wsV RL 101 RX9 yX9_addRule wsX9_addRule) := goodIn_app (goodIn_of _ (by decide +kernel)) ggL_law_X9_addRule
set_option maxRecDepth 20000 in
theorem ggL_law_X9_thrown : GoodIn wsL_law wsX9_thrown := goodIn_r _ [199, 186, 1059, 1060, 1061, 1062, 1063, 1064, 1065, 1066, 1067, 1068, 1069, 1070, 1071, 1072, 1073, 1074, 1075, 1076, 1077, 1078, 1079, 1080, 1081, 1082] (by decide +kernel) (by decide +kernel)
set_option maxRecDepth 20000 in
theorem gL_law_X9_thrown : GoodIn wsL_law (wsV RL 102 RX9 yX9_thrown wsX9_thrown) := goodIn_app (goodIn_of _ (by decide +kernel)) ggL_law_X9_thrown
set_option maxRecDepth 20000 in
theorem ggL_law_L_dropRule : GoodIn wsL_law wsL_dropRule := goodIn_ca (goodIn_r _ [202, 158, 203, 204, 205, 2, 206, 165, 166, 16, 170, 171, 172, 15, 173, 38, 207, 208, 209, 210, 1055, 1056, 1057, 1058, 1083, 1084, 1085, 1086] (by decide +kernel) (by decide +kernel)) (goodIn_sub (fun _ h => List.mem_append_left _ (List.mem_append_right _ h)) (by decide +kernel))
set_option maxRecDepth 20000 in
theorem gL_law_L_dropRule : GoodIn wsL_law (va_wsS RL 105 yL_dropRule wsL_dropRule) := goodIn_app (goodIn_of _ (by decide +kernel)) ggL_law_L_dropRule
set_option maxRecDepth 20000 in
theorem ggL_law_X9_dropRule : GoodIn wsL_law wsX9_dropRule := goodIn_r _ [214, 186, 187, 188, 192, 193, 194, 5, 195, 1059, 1060, 1061, 1062, 1063, 1064, 1065, 1066, 1067, 1068, 1069, 1070, 1071, 1072, 1073, 1074, 1075, 1076, 1077, 1078, 1079, 1080, 1081, 1082] (by decide +kernel) (by decide +kernel)
set_option maxRecDepth 20000 in
theorem gL_law_X9_dropRule : GoodIn wsL_law (wsV RL 108 RX9 yX9_dropRule wsX9_dropRule) := goodIn_app (goodIn_of _ (by decide +kernel)) ggL_law_X9_dropRule
set_option maxRecDepth 20000 in
theorem ggL_law_X8_products : GoodIn wsL_law wsX8_products := goodIn_r _ [218, 16, 219, 220, 221, 15, 222, 223, 224, 225, 226, 38, 36, 37, 35, 227, 228, 229, 34, 230, 44, 231, 2, 232, 1055, 1056, 1057, 1058, 1083, 1084, 1085, 1086, 1108] (by decide +kernel) (by decide +kernel)
set_option maxRecDepth 20000 in
theorem gL_law_X8_products : GoodIn wsL_law (wsV RL 109 RX8 yX8_products wsX8_products) := goodIn_app (goodIn_of _ (by decide +kernel)) ggL_law_X8_products
set_option maxRecDepth 20000 in
theorem ggL_law_X9_products : GoodIn wsL_law wsX9_products := goodIn_r _ [236, 186, 237, 238, 239, 5, 240, 241, 242, 243, 244, 187, 133, 134, 132, 189, 190, 191, 245, 246, 247, 1059, 1060, 1061, 1062, 1063, 1064, 1065, 1066, 1067, 1068, 1069, 1070, 1071, 1072, 1073, 1074, 1075, 1076, 1077, 1078, 1079, 1080, 1081, 1082] (by decide +kernel) (by decide +kernel)
set_option maxRecDepth 20000 in
theorem gL_law_X9_products : GoodIn wsL_law (wsV RL 112 RX9 yX9_products wsX9_products) := goodIn_app (goodIn_of _ (by decide +kernel)) ggL_law_X9_products
set_option maxRecDepth 20000 in
theorem ggL_law_L_addClass : GoodIn wsL_law wsL_addClass := goodIn_ca (goodIn_ca (goodIn_r _ [250, 157, 158, 251, 252, 253, 2, 254, 163, 164, 165, 166, 20, 255, 256, 257, 258, 259, 260, 261, 50, 262, 70, 263, 264, 265, 266, 267, 268, 269, 270, 72, 73, 74, 271, 179, 180, 34, 181, 44, 272, 273, 1055, 1056, 1057, 1058, 1087, 1088, 1089, 1090, 1091, 1092, 1093, 1094, 1109, 1110, 1111, 1112, 1108] (by decide +kernel) (by decide +kernel)) (goodIn_sub (fun _ h => List.mem_append_left _ (List.mem_append_left _ (List.mem_append_right _ h))) (by decide +kernel))) (goodIn_sub (fun _ h => List.mem_append_left _ (List.mem_append_right _ h)) (by decide +kernel))
set_option maxRecDepth 20000 in
theorem gL_law_L_addClass : GoodIn wsL_law (va_wsS RL 113 yL_addClass wsL_addClass) := goodIn_app (goodIn_of _ (by decide +kernel)) ggL_law_L_addClass
set_option maxRecDepth 20000 in
theorem ggL_law_X9_addClass : GoodIn wsL_law wsX9_addClass := goodIn_r _ [277, 186, 135, 278, 279, 5, 280, 189, 190, 191, 192, 193, 194, 195, 281, 282, 283, 284, 136, 137, 188, 1059, 1060, 1061, 1062, 1063, 1064, 1065, 1066, 1067, 1068, 1069, 1070, 1071, 1072, 1073, 1074, 1075, 1076, 1077, 1078, 1079, 1080, 1081, 1082] (by decide +kernel) (by decide +kernel)
set_option maxRecDepth 20000 in
theorem gL_law_X9_addClass : GoodIn wsL_law (wsV RL 116 RX9 yX9_addClass wsX9_addClass) := goodIn_app (goodIn_of _ (by decide +kernel)) ggL_law_X9_addClass
set_option maxRecDepth 20000 in
theorem ggL_law_L_addLink : GoodIn wsL_law wsL_addLink := goodIn_ca (goodIn_ca (goodIn_ca (goodIn_r _ [287, 288, 157, 158, 289, 290, 291, 2, 292, 293, 294, 163, 164, 165, 166, 20, 255, 295, 296, 297, 298, 50, 299, 70, 256, 257, 258, 259, 260, 261, 262, 300, 301, 302, 19, 303, 52, 54, 55, 304, 264, 265, 266, 267, 268, 269, 270, 72, 73, 74, 271, 179, 180, 34, 181, 44, 272, 273, 305, 1055, 1056, 1057, 1058, 1087, 1088, 1089, 1090, 1091, 1092, 1093, 1094, 1109, 1110, 1111, 1112, 1108] (by decide +kernel) (by decide +kernel)) (goodIn_sub (fun _ h => List.mem_append_right _ h) (by decide +kernel))) (goodIn_sub (fun _ h => List.mem_append_left _ (List.mem_append_left _ (List.mem_append_right _ h))) (by decide +kernel))) (goodIn_sub (fun _ h => List.mem_append_left _ (List.mem_append_right _ h)) (by decide +kernel))
set_option maxRecDepth 20000 in
theorem gL_law_L_addLink : GoodIn wsL_law (va_wsS RL 117 yL_addLink wsL_addLink) := goodIn_app (goodIn_of _ (by decide +kernel)) ggL_law_L_addLink
set_option maxRecDepth 20000 in
theorem ggL_law_X9_addLink : GoodIn wsL_law wsX9_addLink := goodIn_r _ [309, 186, 135, 138, 139, 310, 311, 312, 5, 313, 189, 190, 191, 192, 193, 194, 195, 278, 279, 280, 281, 282, 283, 284, 136, 137, 188, 1059, 1060, 1061, 1062, 1063, 1064, 1065, 1066, 1067, 1068, 1069, 1070, 1071, 1072, 1073, 1074, 1075, 1076, 1077, 1078, 1079, 1080, 1081, 1082] (by decide +kernel) (by decide +kernel)
set_option maxRecDepth 20000 in
theorem gL_law_X9_addLink : GoodIn wsL_law (wsV RL 120 RX9 yX9_addLink wsX9_addLink) := goodIn_app (goodIn_of _ (by decide +kernel)) ggL_law_X9_addLink
set_option maxRecDepth 20000 in
theorem ggL_law_L_addField : GoodIn wsL_law wsL_addField := goodIn_ca (goodIn_ca (goodIn_ca (goodIn_r _ [316, 288, 157, 158, 317, 318, 319, 2, 320, 293, 294, 163, 164, 165, 166, 20, 255, 321, 296, 297, 298, 50, 299, 70, 322, 323, 324, 325, 326, 327, 19, 328, 51, 329, 256, 257, 258, 330, 331, 332, 58, 333, 81, 334, 260, 261, 262, 335, 336, 337, 338, 83, 84, 85, 339, 264, 265, 266, 267, 268, 269, 270, 72, 73, 74, 271, 179, 180, 34, 181, 44, 272, 273, 340, 341, 342, 343, 344, 86, 87, 88, 1055, 1056, 1057, 1058, 1087, 1088, 1089, 1090, 1091, 1092, 1093, 1094, 1109, 1110, 1111, 1112, 1113, 1114, 1115, 1116, 1117, 1118, 1119, 1108] (by decide +kernel) (by decide +kernel)) (goodIn_sub (fun _ h => List.mem_append_right _ h) (by decide +kernel))) (goodIn_sub (fun _ h => List.mem_append_left _ (List.mem_append_left _ (List.mem_append_right _ h))) (by decide +kernel))) (goodIn_sub (fun _ h => List.mem_append_left _ (List.mem_append_right _ h)) (by decide +kernel))
set_option maxRecDepth 20000 in
theorem gL_law_L_addField : GoodIn wsL_law (va_wsS RL 121 yL_addField wsL_addField) := goodIn_app (goodIn_of _ (by decide +kernel)) ggL_law_L_addField
set_option maxRecDepth 20000 in
theorem ggL_law_X9_addField : GoodIn wsL_law wsX9_addField := goodIn_r _ [348, 186, 310, 311, 312, 5, 313, 135, 189, 190, 191, 192, 193, 194, 195, 349, 350, 351, 352, 353, 354, 355, 278, 279, 280, 356, 357, 358, 359, 141, 142, 143, 144, 145, 281, 282, 283, 284, 136, 137, 188, 1059, 1060, 1061, 1062, 1063, 1064, 1065, 1066, 1067, 1068, 1069, 1070, 1071, 1072, 1073, 1074, 1075, 1076, 1077, 1078, 1079, 1080, 1081, 1082] (by decide +kernel) (by decide +kernel)
set_option maxRecDepth 20000 in
theorem gL_law_X9_addField : GoodIn wsL_law (wsV RL 124 RX9 yX9_addField wsX9_addField) := goodIn_app (goodIn_of _ (by decide +kernel)) ggL_law_X9_addField
set_option maxRecDepth 20000 in
theorem ggL_law_L_addMethod : GoodIn wsL_law wsL_addMethod := goodIn_ca (goodIn_ca (goodIn_ca (goodIn_r _ [362, 288, 157, 158, 363, 364, 365, 2, 366, 293, 294, 163, 164, 165, 166, 20, 255, 321, 296, 297, 298, 50, 299, 70, 322, 323, 324, 325, 326, 327, 19, 328, 51, 329, 367, 368, 369, 370, 371, 256, 257, 258, 330, 331, 332, 58, 333, 81, 334, 260, 261, 262, 335, 336, 337, 338, 83, 84, 85, 339, 264, 265, 266, 267, 268, 269, 270, 72, 73, 74, 271, 179, 180, 34, 181, 44, 272, 273, 340, 341, 342, 343, 344, 86, 87, 88, 1055, 1056, 1057, 1058, 1087, 1088, 1089, 1090, 1091, 1092, 1093, 1094, 1109, 1110, 1111, 1112, 1113, 1114, 1115, 1116, 1117, 1118, 1119, 1108] (by decide +kernel) (by decide +kernel)) (goodIn_sub (fun _ h => List.mem_append_right _ h) (by decide +kernel))) (goodIn_sub (fun _ h => List.mem_append_left _ (List.mem_append_left _ (List.mem_append_right _ h))) (by decide +kernel))) (goodIn_sub (fun _ h => List.mem_append_left _ (List.mem_append_right _ h)) (by decide +kernel))
set_option maxRecDepth 20000 in
theorem gL_law_L_addMethod : GoodIn wsL_law (va_wsS RL 125 yL_addMethod wsL_addMethod) := goodIn_app (goodIn_of _ (by decide +kernel)) ggL_law_L_addMethod
set_option maxRecDepth 20000 in
theorem ggL_law_X9_addMethod : GoodIn wsL_law wsX9_addMethod := goodIn_r _ [375, 186, 310, 311, 312, 5, 313, 135, 189, 190, 191, 192, 193, 194, 195, 352, 353, 354, 355, 349, 350, 351, 278, 279, 280, 356, 357, 358, 359, 141, 142, 143, 144, 145, 281, 282, 283, 284, 136, 137, 188, 1059, 1060, 1061, 1062, 1063, 1064, 1065, 1066, 1067, 1068, 1069, 1070, 1071, 1072, 1073, 1074, 1075, 1076, 1077, 1078, 1079, 1080, 1081, 1082] (by decide +kernel) (by decide +kernel)
set_option maxRecDepth 20000 in
theorem gL_law_X9_addMethod : GoodIn wsL_law (wsV RL 128 RX9 yX9_addMethod wsX9_addMethod) := goodIn_app (goodIn_of _ (by decide +kernel)) ggL_law_X9_addMethod
set_option maxRecDepth 20000 in
theorem ggL_law_L_addNew : GoodIn wsL_law wsL_addNew := goodIn_ca (goodIn_ca (goodIn_r _ [378, 288, 158, 379, 380, 381, 2, 382, 293, 294, 165, 166, 20, 321, 255, 383, 384, 385, 386, 58, 387, 81, 83, 388, 297, 298, 50, 299, 70, 389, 228, 229, 34, 230, 44, 296, 390, 391, 392, 62, 393, 101, 394, 395, 396, 397, 95, 96, 97, 398, 179, 180, 181, 399, 400, 401, 402, 98, 99, 100, 1055, 1056, 1057, 1058, 1087, 1088, 1089, 1090, 1091, 1092, 1093, 1094, 1113, 1114, 1115, 1116, 1117, 1118, 1119, 1109, 1110, 1111, 1112, 1108, 1120, 1121, 1122, 1123, 1124, 1125, 1126] (by decide +kernel) (by decide +kernel)) (goodIn_sub (fun _ h => List.mem_append_right _ h) (by decide +kernel))) (goodIn_sub (fun _ h => List.mem_append_left _ (List.mem_append_right _ h)) (by decide +kernel))
set_option maxRecDepth 20000 in
theorem gL_law_L_addNew : GoodIn wsL_law (va_wsS RL 129 yL_addNew wsL_addNew) := goodIn_app (goodIn_of _ (by decide +kernel)) ggL_law_L_addNew
set_option maxRecDepth 20000 in
theorem ggL_law_X9_addNew : GoodIn wsL_law wsX9_addNew := goodIn_r _ [406, 186, 407, 408, 409, 5, 410, 141, 310, 311, 312, 313, 135, 189, 190, 191, 411, 412, 413, 414, 415, 147, 148, 149, 150, 188, 192, 193, 194, 195, 1059, 1060, 1061, 1062, 1063, 1064, 1065, 1066, 1067, 1068, 1069, 1070, 1071, 1072, 1073, 1074, 1075, 1076, 1077, 1078, 1079, 1080, 1081, 1082] (by decide +kernel) (by decide +kernel)
set_option maxRecDepth 20000 in
theorem gL_law_X9_addNew : GoodIn wsL_law (wsV RL 131 RX9 yX9_addNew wsX9_addNew) := goodIn_app (goodIn_of _ (by decide +kernel)) ggL_law_X9_addNew
set_option maxRecDepth 20000 in
theorem ggL_law_L_addPlain : GoodIn wsL_law wsL_addPlain := goodIn_ca (goodIn_ca (goodIn_r _ [418, 288, 158, 419, 420, 421, 2, 422, 293, 294, 165, 166, 20, 321, 383, 384, 385, 386, 58, 387, 81, 83, 388, 297, 298, 50, 299, 70, 389, 228, 229, 34, 230, 44, 390, 391, 392, 62, 393, 101, 394, 395, 396, 397, 95, 96, 97, 398, 179, 180, 181, 399, 400, 401, 402, 98, 99, 100, 1055, 1056, 1057, 1058, 1087, 1088, 1089, 1090, 1091, 1092, 1093, 1094, 1113, 1114, 1115, 1116, 1117, 1118, 1119, 1109, 1110, 1111, 1112, 1108, 1120, 1121, 1122, 1123, 1124, 1125, 1126] (by decide +kernel) (by decide +kernel)) (goodIn_sub (fun _ h => List.mem_append_right _ h) (by decide +kernel))) (goodIn_sub (fun _ h => List.mem_append_left _ (List.mem_append_right _ h)) (by decide +kernel))
set_option maxRecDepth 20000 in
theorem gL_law_L_addPlain : GoodIn wsL_law (va_wsS RL 132 yL_addPlain wsL_addPlain) := goodIn_app (goodIn_of _ (by decide +kernel)) ggL_law_L_addPlain
set_option maxRecDepth 20000 in
theorem ggL_law_X9_addPlain : GoodIn wsL_law wsX9_addPlain := goodIn_r _ [426, 186, 407, 408, 409, 5, 410, 141, 310, 311, 312, 313, 135, 189, 190, 191, 411, 412, 413, 414, 415, 147, 148, 149, 150, 188, 192, 193, 194, 195, 1059, 1060, 1061, 1062, 1063, 1064, 1065, 1066, 1067, 1068, 1069, 1070, 1071, 1072, 1073, 1074, 1075, 1076, 1077, 1078, 1079, 1080, 1081, 1082] (by decide +kernel) (by decide +kernel)
set_option maxRecDepth 20000 in
theorem gL_law_X9_addPlain : GoodIn wsL_law (wsV RL 135 RX9 yX9_addPlain wsX9_addPlain) := goodIn_app (goodIn_of _ (by decide +kernel)) ggL_law_X9_addPlain
set_option maxRecDepth 20000 in
theorem ggL_law_L_addArgument : GoodIn wsL_law wsL_addArgument := goodIn_ca (goodIn_ca (goodIn_r _ [429, 288, 158, 430, 431, 432, 2, 433, 293, 294, 165, 166, 20, 321, 383, 384, 385, 386, 58, 387, 81, 83, 388, 297, 298, 50, 299, 70, 389, 228, 229, 34, 230, 44, 434, 435, 436, 437, 87, 88, 390, 391, 392, 62, 393, 101, 394, 395, 396, 397, 95, 96, 97, 398, 179, 180, 181, 399, 400, 401, 402, 98, 99, 100, 1055, 1056, 1057, 1058, 1087, 1088, 1089, 1090, 1091, 1092, 1093, 1094, 1113, 1114, 1115, 1116, 1117, 1118, 1119, 1109, 1110, 1111, 1112, 1108, 1120, 1121, 1122, 1123, 1124, 1125, 1126] (by decide +kernel) (by decide +kernel)) (goodIn_sub (fun _ h => List.mem_append_right _ h) (by decide +kernel))) (goodIn_sub (fun _ h => List.mem_append_left _ (List.mem_append_right _ h)) (by decide +kernel))
set_option maxRecDepth 20000 in
theorem gL_law_L_addArgument : GoodIn wsL_law (va_wsS RL 136 yL_addArgument wsL_addArgument) := goodIn_app (goodIn_of _ (by decide +kernel)) ggL_law_L_addArgument
set_option maxRecDepth 20000 in
theorem ggL_law_X9_addArgument : GoodIn wsL_law wsX9_addArgument := goodIn_r _ [441, 186, 407, 408, 409, 5, 410, 141, 310, 311, 312, 313, 135, 189, 190, 191, 442, 443, 444, 445, 145, 192, 193, 194, 195, 411, 412, 413, 414, 415, 147, 148, 149, 150, 188, 1059, 1060, 1061, 1062, 1063, 1064, 1065, 1066, 1067, 1068, 1069, 1070, 1071, 1072, 1073, 1074, 1075, 1076, 1077, 1078, 1079, 1080, 1081, 1082] (by decide +kernel) (by decide +kernel)
set_option maxRecDepth 20000 in
theorem gL_law_X9_addArgument : GoodIn wsL_law (wsV RL 138 RX9 yX9_addArgument wsX9_addArgument) := goodIn_app (goodIn_of _ (by decide +kernel)) ggL_law_X9_addArgument
set_option maxRecDepth 20000 in
theorem ggL_law_L_addFieldOf : GoodIn wsL_law wsL_addFieldOf := goodIn_ca (goodIn_ca (goodIn_ca (goodIn_r _ [448, 288, 157, 158, 449, 450, 451, 2, 452, 293, 294, 163, 164, 165, 166, 20, 383, 453, 454, 455, 62, 456, 101, 322, 323, 324, 390, 391, 392, 393, 457, 458, 459, 460, 96, 461, 228, 229, 34, 230, 44, 394, 395, 396, 397, 95, 97, 398, 179, 180, 181, 399, 400, 401, 402, 98, 99, 100, 462, 1055, 1056, 1057, 1058, 1087, 1088, 1089, 1090, 1091, 1092, 1093, 1094, 1120, 1121, 1122, 1123, 1124, 1125, 1126, 1108] (by decide +kernel) (by decide +kernel)) (goodIn_sub (fun _ h => List.mem_append_right _ h) (by decide +kernel))) (goodIn_sub (fun _ h => List.mem_append_left _ (List.mem_append_left _ (List.mem_append_right _ h))) (by decide +kernel))) (goodIn_sub (fun _ h => List.mem_append_left _ (List.mem_append_right _ h)) (by decide +kernel))
set_option maxRecDepth 20000 in
theorem gL_law_L_addFieldOf : GoodIn wsL_law (va_wsS RL 139 yL_addFieldOf wsL_addFieldOf) := goodIn_app (goodIn_of _ (by decide +kernel)) ggL_law_L_addFieldOf
set_option maxRecDepth 20000 in
theorem ggL_law_X9_addFieldOf : GoodIn wsL_law wsX9_addFieldOf := goodIn_r _ [466, 186, 148, 467, 468, 469, 5, 470, 415, 189, 190, 191, 192, 193, 194, 195, 349, 350, 351, 411, 412, 413, 414, 147, 149, 150, 188, 1059, 1060, 1061, 1062, 1063, 1064, 1065, 1066, 1067, 1068, 1069, 1070, 1071, 1072, 1073, 1074, 1075, 1076, 1077, 1078, 1079, 1080, 1081, 1082] (by decide +kernel) (by decide +kernel)
set_option maxRecDepth 20000 in
theorem gL_law_X9_addFieldOf : GoodIn wsL_law (wsV RL 141 RX9 yX9_addFieldOf wsX9_addFieldOf) := goodIn_app (goodIn_of _ (by decide +kernel)) ggL_law_X9_addFieldOf
set_option maxRecDepth 20000 in
theorem ggL_law_L_addCall : GoodIn wsL_law wsL_addCall := goodIn_ca (goodIn_ca (goodIn_ca (goodIn_r _ [473, 288, 157, 158, 474, 475, 476, 2, 477, 293, 294, 163, 164, 165, 166, 20, 383, 453, 454, 455, 62, 456, 101, 478, 479, 480, 481, 482, 322, 323, 324, 483, 484, 485, 486, 96, 461, 228, 229, 34, 230, 44, 390, 391, 392, 393, 457, 458, 459, 460, 394, 395, 396, 397, 95, 97, 398, 179, 180, 181, 399, 400, 401, 402, 98, 99, 100, 462, 1055, 1056, 1057, 1058, 1087, 1088, 1089, 1090, 1091, 1092, 1093, 1094, 1120, 1121, 1122, 1123, 1124, 1125, 1126, 1108] (by decide +kernel) (by decide +kernel)) (goodIn_sub (fun _ h => List.mem_append_right _ h) (by decide +kernel))) (goodIn_sub (fun _ h => List.mem_append_left _ (List.mem_append_left _ (List.mem_append_right _ h))) (by decide +kernel))) (goodIn_sub (fun _ h => List.mem_append_left _ (List.mem_append_right _ h)) (by decide +kernel))
set_option maxRecDepth 20000 in
theorem gL_law_L_addCall : GoodIn wsL_law (va_wsS RL 142 yL_addCall wsL_addCall) := goodIn_app (goodIn_of _ (by decide +kernel)) ggL_law_L_addCall
set_option maxRecDepth 20000 in
theorem ggL_law_X9_addCall : GoodIn wsL_law wsX9_addCall := goodIn_r _ [490, 186, 148, 467, 468, 469, 5, 470, 415, 189, 190, 191, 192, 193, 194, 195, 349, 350, 351, 411, 412, 413, 414, 147, 149, 150, 188, 1059, 1060, 1061, 1062, 1063, 1064, 1065, 1066, 1067, 1068, 1069, 1070, 1071, 1072, 1073, 1074, 1075, 1076, 1077, 1078, 1079, 1080, 1081, 1082] (by decide +kernel) (by decide +kernel)
set_option maxRecDepth 20000 in
theorem gL_law_X9_addCall : GoodIn wsL_law (wsV RL 144 RX9 yX9_addCall wsX9_addCall) := goodIn_app (goodIn_of _ (by decide +kernel)) ggL_law_X9_addCall
set_option maxRecDepth 20000 in
theorem ggL_law_L_addResult : GoodIn wsL_law wsL_addResult := goodIn_ca (goodIn_ca (goodIn_ca (goodIn_r _ [493, 288, 157, 158, 494, 495, 496, 2, 497, 293, 294, 163, 164, 165, 166, 20, 383, 498, 453, 454, 455, 62, 456, 101, 256, 257, 258, 259, 260, 261, 50, 262, 70, 499, 500, 501, 19, 502, 64, 65, 304, 264, 265, 266, 267, 268, 269, 270, 72, 73, 74, 271, 179, 180, 34, 181, 44, 272, 273, 305, 1055, 1056, 1057, 1058, 1087, 1088, 1089, 1090, 1091, 1092, 1093, 1094, 1120, 1121, 1122, 1123, 1124, 1125, 1126, 1109, 1110, 1111, 1112, 1108] (by decide +kernel) (by decide +kernel)) (goodIn_sub (fun _ h => List.mem_append_right _ h) (by decide +kernel))) (goodIn_sub (fun _ h => List.mem_append_left _ (List.mem_append_left _ (List.mem_append_right _ h))) (by decide +kernel))) (goodIn_sub (fun _ h => List.mem_append_left _ (List.mem_append_right _ h)) (by decide +kernel))
set_option maxRecDepth 20000 in
theorem gL_law_L_addResult : GoodIn wsL_law (va_wsS RL 145 yL_addResult wsL_addResult) := goodIn_app (goodIn_of _ (by decide +kernel)) ggL_law_L_addResult
set_option maxRecDepth 20000 in
theorem ggL_law_X9_addResult : GoodIn wsL_law wsX9_addResult := goodIn_r _ [506, 186, 135, 146, 467, 468, 469, 5, 470, 415, 189, 190, 191, 192, 193, 194, 195, 278, 279, 280, 281, 282, 283, 284, 136, 137, 188, 1059, 1060, 1061, 1062, 1063, 1064, 1065, 1066, 1067, 1068, 1069, 1070, 1071, 1072, 1073, 1074, 1075, 1076, 1077, 1078, 1079, 1080, 1081, 1082] (by decide +kernel) (by decide +kernel)
set_option maxRecDepth 20000 in
theorem gL_law_X9_addResult : GoodIn wsL_law (wsV RL 147 RX9 yX9_addResult wsX9_addResult) := goodIn_app (goodIn_of _ (by decide +kernel)) ggL_law_X9_addResult
set_option maxRecDepth 20000 in
theorem ggL_law_L_setCondition : GoodIn wsL_law wsL_setCondition := goodIn_ca (goodIn_ca (goodIn_r _ [509, 288, 157, 510, 511, 512, 2, 513, 293, 294, 163, 164, 20, 514, 515, 516, 19, 517, 518, 519, 520, 521, 51, 52, 59, 522, 64, 329, 297, 298, 50, 299, 70, 256, 257, 258, 523, 524, 525, 526, 527, 72, 73, 528, 228, 229, 34, 230, 44, 267, 268, 269, 270, 74, 271, 179, 180, 181, 272, 273, 1055, 1056, 1057, 1058, 1087, 1088, 1089, 1090, 1091, 1092, 1093, 1094, 1113, 1114, 1115, 1116, 1117, 1118, 1119, 1109, 1110, 1111, 1112, 1108] (by decide +kernel) (by decide +kernel)) (goodIn_sub (fun _ h => List.mem_append_right _ h) (by decide +kernel))) (goodIn_sub (fun _ h => List.mem_append_left _ (List.mem_append_left _ (List.mem_append_right _ h))) (by decide +kernel))
set_option maxRecDepth 20000 in
theorem gL_law_L_setCondition : GoodIn wsL_law (va_wsS RL 148 yL_setCondition wsL_setCondition) := goodIn_app (goodIn_of _ (by decide +kernel)) ggL_law_L_setCondition
set_option maxRecDepth 20000 in
theorem ggL_law_X9_setCondition : GoodIn wsL_law wsX9_setCondition := goodIn_r _ [532, 186, 136, 137, 188, 310, 311, 312, 5, 313, 135, 189, 190, 191, 278, 279, 280, 1059, 1060, 1061, 1062, 1063, 1064, 1065, 1066, 1067, 1068, 1069, 1070, 1071, 1072, 1073, 1074, 1075, 1076, 1077, 1078, 1079, 1080, 1081, 1082] (by decide +kernel) (by decide +kernel)
set_option maxRecDepth 20000 in
theorem gL_law_X9_setCondition : GoodIn wsL_law (wsV RL 150 RX9 yX9_setCondition wsX9_setCondition) := goodIn_app (goodIn_of _ (by decide +kernel)) ggL_law_X9_setCondition
set_option maxRecDepth 20000 in
theorem ggL_law_L_dropResult : GoodIn wsL_law wsL_dropResult := goodIn_ca (goodIn_r _ [535, 158, 536, 537, 538, 2, 539, 165, 166, 20, 498, 259, 260, 261, 50, 262, 70, 540, 541, 542, 543, 1055, 1056, 1057, 1058, 1087, 1088, 1089, 1090, 1091, 1092, 1093, 1094, 1109, 1110, 1111, 1112] (by decide +kernel) (by decide +kernel)) (goodIn_sub (fun _ h => List.mem_append_left _ (List.mem_append_right _ h)) (by decide +kernel))
set_option maxRecDepth 20000 in
theorem gL_law_L_dropResult : GoodIn wsL_law (va_wsS RL 151 yL_dropResult wsL_dropResult) := goodIn_app (goodIn_of _ (by decide +kernel)) ggL_law_L_dropResult
set_option maxRecDepth 20000 in
theorem ggL_law_X9_dropResult : GoodIn wsL_law wsX9_dropResult := goodIn_r _ [547, 186, 135, 188, 192, 193, 194, 5, 195, 1059, 1060, 1061, 1062, 1063, 1064, 1065, 1066, 1067, 1068, 1069, 1070, 1071, 1072, 1073, 1074, 1075, 1076, 1077, 1078, 1079, 1080, 1081, 1082] (by decide +kernel) (by decide +kernel)
set_option maxRecDepth 20000 in
theorem gL_law_X9_dropResult : GoodIn wsL_law (wsV RL 153 RX9 yX9_dropResult wsX9_dropResult) := goodIn_app (goodIn_of _ (by decide +kernel)) ggL_law_X9_dropResult
set_option maxRecDepth 20000 in
theorem ggL_law_L_count : GoodIn wsL_law wsL_count := goodIn_ca (goodIn_r _ [550, 288, 551, 552, 553, 2, 554, 293, 294, 20, 555, 556, 557, 19, 558, 63, 559, 391, 392, 62, 393, 101, 518, 519, 520, 521, 51, 52, 59, 522, 64, 560, 260, 261, 50, 262, 70, 1055, 1056, 1057, 1058, 1087, 1088, 1089, 1090, 1091, 1092, 1093, 1094, 1120, 1121, 1122, 1123, 1124, 1125, 1126, 1113, 1114, 1115, 1116, 1117, 1118, 1119, 1109, 1110, 1111, 1112] (by decide +kernel) (by decide +kernel)) (goodIn_sub (fun _ h => List.mem_append_right _ h) (by decide +kernel))
set_option maxRecDepth 20000 in
theorem gL_law_L_count : GoodIn wsL_law (va_wsS RL 154 yL_count wsL_count) := goodIn_app (goodIn_of _ (by decide +kernel)) ggL_law_L_count
set_option maxRecDepth 20000 in
theorem ggL_law_X9_count : GoodIn wsL_law wsX9_count := goodIn_r _ [564, 186, 415, 135, 189, 190, 5, 191, 192, 193, 194, 195, 1059, 1060, 1061, 1062, 1063, 1064, 1065, 1066, 1067, 1068, 1069, 1070, 1071, 1072, 1073, 1074, 1075, 1076, 1077, 1078, 1079, 1080, 1081, 1082] (by decide +kernel) (by decide +kernel)
set_option maxRecDepth 20000 in
theorem gL_law_X9_count : GoodIn wsL_law (wsV RL 157 RX9 yX9_count wsX9_count) := goodIn_app (goodIn_of _ (by decide +kernel)) ggL_law_X9_count
set_option maxRecDepth 20000 in
theorem ggL_law_L_presence : GoodIn wsL_law wsL_presence := goodIn_ca (goodIn_r _ [567, 288, 568, 569, 570, 2, 571, 293, 294, 20, 514, 515, 516, 19, 517, 518, 519, 520, 521, 51, 52, 59, 522, 64, 329, 297, 298, 50, 299, 70, 572, 573, 574, 575, 54, 55, 576, 577, 578, 579, 74, 528, 228, 229, 34, 230, 44, 580, 581, 582, 583, 58, 584, 84, 389, 585, 586, 587, 588, 63, 65, 589, 458, 459, 62, 460, 96, 461, 590, 216, 217, 218, 16, 219, 220, 221, 15, 222, 223, 224, 225, 226, 38, 36, 37, 35, 227, 231, 232, 1055, 1056, 1057, 1058, 1087, 1088, 1089, 1090, 1091, 1092, 1093, 1094, 1113, 1114, 1115, 1116, 1117, 1118, 1119, 1109, 1110, 1111, 1112, 1108, 1120, 1121, 1122, 1123, 1124, 1125, 1126, 1083, 1084, 1085, 1086] (by decide +kernel) (by decide +kernel)) (goodIn_sub (fun _ h => List.mem_append_right _ h) (by decide +kernel))
set_option maxRecDepth 20000 in
theorem gL_law_L_presence : GoodIn wsL_law (va_wsS RL 158 yL_presence wsL_presence) := goodIn_app (goodIn_of _ (by decide +kernel)) ggL_law_L_presence
set_option maxRecDepth 20000 in
theorem ggL_law_X9_presence : GoodIn wsL_law wsX9_presence := goodIn_r _ [594, 186, 310, 311, 312, 5, 313, 135, 189, 190, 191, 595, 596, 597, 598, 241, 242, 243, 244, 187, 133, 134, 132, 245, 246, 247, 599, 600, 601, 602, 138, 139, 142, 148, 146, 603, 604, 605, 606, 136, 137, 192, 193, 194, 195, 1059, 1060, 1061, 1062, 1063, 1064, 1065, 1066, 1067, 1068, 1069, 1070, 1071, 1072, 1073, 1074, 1075, 1076, 1077, 1078, 1079, 1080, 1081, 1082] (by decide +kernel) (by decide +kernel)
set_option maxRecDepth 20000 in
theorem gL_law_X9_presence : GoodIn wsL_law (wsV RL 160 RX9 yX9_presence wsX9_presence) := goodIn_app (goodIn_of _ (by decide +kernel)) ggL_law_X9_presence
set_option maxRecDepth 20000 in
theorem ggL_law_L_parent : GoodIn wsL_law wsL_parent := goodIn_ca (goodIn_ca (goodIn_r _ [609, 288, 157, 610, 611, 612, 2, 613, 293, 294, 163, 164, 20, 255, 24, 296, 297, 298, 50, 299, 70, 614, 615, 616, 617, 16, 219, 220, 221, 15, 222, 223, 224, 225, 226, 38, 36, 37, 35, 227, 228, 229, 34, 230, 44, 231, 232, 618, 619, 620, 621, 23, 622, 114, 623, 624, 625, 626, 115, 108, 627, 556, 557, 19, 558, 63, 559, 391, 392, 62, 393, 101, 518, 519, 520, 521, 51, 52, 59, 522, 64, 560, 260, 261, 262, 628, 573, 574, 575, 54, 55, 576, 577, 578, 579, 74, 528, 580, 581, 582, 583, 58, 584, 84, 389, 585, 586, 587, 588, 65, 589, 458, 459, 460, 96, 461, 629, 179, 180, 181, 630, 631, 632, 633, 109, 634, 635, 636, 637, 638, 639, 640, 641, 642, 643, 644, 645, 646, 647, 648, 649, 650, 110, 651, 652, 653, 654, 111, 655, 656, 331, 332, 333, 81, 334, 657, 658, 659, 660, 661, 85, 662, 663, 664, 665, 83, 666, 667, 668, 669, 670, 671, 672, 1055, 1056, 1057, 1058, 1087, 1088, 1089, 1090, 1091, 1092, 1093, 1094, 1109, 1110, 1111, 1112, 1083, 1084, 1085, 1086, 1108, 1095, 1096, 1097, 1098, 1099, 1100, 1101, 1102, 1120, 1121, 1122, 1123, 1124, 1125, 1126, 1113, 1114, 1115, 1116, 1117, 1118, 1119] (by decide +kernel) (by decide +kernel)) (goodIn_sub (fun _ h => List.mem_append_right _ h) (by decide +kernel))) (goodIn_sub (fun _ h => List.mem_append_left _ (List.mem_append_left _ (List.mem_append_right _ h))) (by decide +kernel))
set_option maxRecDepth 20000 in
theorem gL_law_L_parent : GoodIn wsL_law (va_wsS RL 161 yL_parent wsL_parent) := goodIn_app (goodIn_of _ (by decide +kernel)) ggL_law_L_parent
set_option maxRecDepth 20000 in
theorem ggL_law_X9_parent : GoodIn wsL_law wsX9_parent := goodIn_r _ [676, 186, 310, 311, 312, 5, 313, 135, 189, 190, 191, 192, 193, 194, 195, 241, 242, 243, 244, 187, 133, 134, 132, 245, 246, 247, 677, 678, 679, 680, 138, 139, 599, 600, 601, 602, 142, 148, 146, 603, 604, 605, 606, 136, 137, 1059, 1060, 1061, 1062, 1063, 1064, 1065, 1066, 1067, 1068, 1069, 1070, 1071, 1072, 1073, 1074, 1075, 1076, 1077, 1078, 1079, 1080, 1081, 1082] (by decide +kernel) (by decide +kernel)
set_option maxRecDepth 20000 in
theorem gL_law_X9_parent : GoodIn wsL_law (wsV RL 163 RX9 yX9_parent wsX9_parent) := goodIn_app (goodIn_of _ (by decide +kernel)) ggL_law_X9_parent
set_option maxRecDepth 20000 in
theorem ggL_law_L_isBelow : GoodIn wsL_law wsL_isBelow := goodIn_ca (goodIn_ca (goodIn_r _ [683, 288, 157, 684, 685, 686, 2, 687, 293, 294, 163, 164, 20, 255, 24, 296, 297, 298, 50, 299, 70, 614, 615, 616, 617, 16, 219, 220, 221, 15, 222, 223, 224, 225, 226, 38, 36, 37, 35, 227, 228, 229, 34, 230, 44, 231, 232, 618, 619, 620, 621, 23, 622, 114, 623, 624, 625, 626, 115, 108, 627, 556, 557, 19, 558, 63, 559, 391, 392, 62, 393, 101, 518, 519, 520, 521, 51, 52, 59, 522, 64, 560, 260, 261, 262, 628, 573, 574, 575, 54, 55, 576, 577, 578, 579, 74, 528, 580, 581, 582, 583, 58, 584, 84, 389, 585, 586, 587, 588, 65, 589, 458, 459, 460, 96, 461, 629, 179, 180, 181, 630, 631, 632, 633, 109, 634, 635, 636, 637, 638, 639, 640, 641, 642, 643, 644, 645, 646, 647, 648, 649, 650, 110, 651, 652, 653, 654, 111, 655, 656, 331, 332, 333, 81, 334, 657, 658, 659, 660, 661, 85, 662, 663, 664, 665, 83, 666, 667, 668, 688, 689, 690, 691, 1055, 1056, 1057, 1058, 1087, 1088, 1089, 1090, 1091, 1092, 1093, 1094, 1109, 1110, 1111, 1112, 1083, 1084, 1085, 1086, 1108, 1095, 1096, 1097, 1098, 1099, 1100, 1101, 1102, 1120, 1121, 1122, 1123, 1124, 1125, 1126, 1113, 1114, 1115, 1116, 1117, 1118, 1119] (by decide +kernel) (by decide +kernel)) (goodIn_sub (fun _ h => List.mem_append_right _ h) (by decide +kernel))) (goodIn_sub (fun _ h => List.mem_append_left _ (List.mem_append_left _ (List.mem_append_right _ h))) (by decide +kernel))
set_option maxRecDepth 20000 in
theorem gL_law_L_isBelow : GoodIn wsL_law (va_wsS RL 164 yL_isBelow wsL_isBelow) := goodIn_app (goodIn_of _ (by decide +kernel)) ggL_law_L_isBelow
set_option maxRecDepth 20000 in
theorem ggL_law_X9_isBelow : GoodIn wsL_law wsX9_isBelow := goodIn_r _ [695, 186, 310, 311, 312, 5, 313, 135, 189, 190, 191, 241, 242, 243, 244, 187, 133, 134, 132, 245, 246, 247, 696, 697, 698, 699, 677, 678, 679, 680, 138, 139, 599, 600, 601, 602, 142, 148, 146, 603, 604, 605, 606, 136, 137, 1059, 1060, 1061, 1062, 1063, 1064, 1065, 1066, 1067, 1068, 1069, 1070, 1071, 1072, 1073, 1074, 1075, 1076, 1077, 1078, 1079, 1080, 1081, 1082] (by decide +kernel) (by decide +kernel)
set_option maxRecDepth 20000 in
theorem gL_law_X9_isBelow : GoodIn wsL_law (wsV RL 166 RX9 yX9_isBelow wsX9_isBelow) := goodIn_app (goodIn_of _ (by decide +kernel)) ggL_law_X9_isBelow
set_option maxRecDepth 20000 in
theorem ggL_law_L_find : GoodIn wsL_law wsL_find := goodIn_ca (goodIn_ca (goodIn_r _ [702, 288, 157, 703, 704, 705, 2, 706, 293, 294, 163, 164, 20, 255, 24, 296, 297, 298, 50, 299, 70, 322, 323, 324, 614, 615, 616, 617, 16, 219, 220, 221, 15, 222, 223, 224, 225, 226, 38, 36, 37, 35, 227, 228, 229, 34, 230, 44, 231, 232, 618, 619, 620, 621, 23, 622, 114, 623, 624, 625, 626, 115, 108, 627, 556, 557, 19, 558, 63, 559, 391, 392, 62, 393, 101, 518, 519, 520, 521, 51, 52, 59, 522, 64, 560, 260, 261, 262, 628, 573, 574, 575, 54, 55, 576, 577, 578, 579, 74, 528, 580, 581, 582, 583, 58, 584, 84, 389, 585, 586, 587, 588, 65, 589, 458, 459, 460, 96, 461, 629, 179, 180, 181, 630, 631, 632, 633, 109, 634, 635, 636, 637, 638, 639, 640, 641, 642, 643, 644, 645, 646, 647, 648, 649, 650, 110, 651, 652, 653, 654, 111, 655, 656, 331, 332, 333, 81, 334, 657, 658, 659, 660, 661, 85, 662, 663, 664, 665, 83, 666, 667, 668, 707, 708, 709, 710, 1055, 1056, 1057, 1058, 1087, 1088, 1089, 1090, 1091, 1092, 1093, 1094, 1109, 1110, 1111, 1112, 1083, 1084, 1085, 1086, 1108, 1095, 1096, 1097, 1098, 1099, 1100, 1101, 1102, 1120, 1121, 1122, 1123, 1124, 1125, 1126, 1113, 1114, 1115, 1116, 1117, 1118, 1119] (by decide +kernel) (by decide +kernel)) (goodIn_sub (fun _ h => List.mem_append_right _ h) (by decide +kernel))) (goodIn_sub (fun _ h => List.mem_append_left _ (List.mem_append_left _ (List.mem_append_right _ h))) (by decide +kernel))
set_option maxRecDepth 20000 in
theorem gL_law_L_find : GoodIn wsL_law (va_wsS RL 167 yL_find wsL_find) := goodIn_app (goodIn_of _ (by decide +kernel)) ggL_law_L_find
set_option maxRecDepth 20000 in
theorem ggL_law_X9_find : GoodIn wsL_law wsX9_find := goodIn_r _ [714, 186, 310, 311, 312, 5, 313, 135, 189, 190, 191, 192, 193, 194, 195, 349, 350, 351, 241, 242, 243, 244, 187, 133, 134, 132, 245, 246, 247, 715, 716, 717, 718, 142, 143, 141, 599, 600, 601, 602, 138, 139, 148, 146, 603, 604, 605, 606, 136, 137, 677, 678, 679, 680, 1059, 1060, 1061, 1062, 1063, 1064, 1065, 1066, 1067, 1068, 1069, 1070, 1071, 1072, 1073, 1074, 1075, 1076, 1077, 1078, 1079, 1080, 1081, 1082] (by decide +kernel) (by decide +kernel)
set_option maxRecDepth 20000 in
theorem gL_law_X9_find : GoodIn wsL_law (wsV RL 170 RX9 yX9_find wsX9_find) := goodIn_app (goodIn_of _ (by decide +kernel)) ggL_law_X9_find
set_option maxRecDepth 20000 in
theorem ggL_law_L_typeOf : GoodIn wsL_law wsL_typeOf := goodIn_ca (goodIn_ca (goodIn_r _ [721, 288, 157, 722, 723, 724, 2, 725, 293, 294, 163, 164, 20, 383, 24, 453, 454, 455, 62, 456, 101, 614, 615, 616, 617, 16, 219, 220, 221, 15, 222, 223, 224, 225, 226, 38, 36, 37, 35, 227, 228, 229, 34, 230, 44, 231, 232, 618, 619, 620, 621, 23, 622, 114, 623, 624, 625, 626, 115, 108, 627, 556, 557, 19, 558, 63, 559, 391, 392, 393, 518, 519, 520, 521, 51, 52, 59, 522, 64, 560, 260, 261, 50, 262, 70, 628, 573, 574, 575, 54, 55, 576, 577, 578, 579, 74, 528, 580, 581, 582, 583, 58, 584, 84, 389, 585, 586, 587, 588, 65, 589, 458, 459, 460, 96, 461, 629, 179, 180, 181, 630, 631, 632, 633, 109, 634, 635, 636, 637, 638, 639, 640, 641, 642, 643, 644, 645, 646, 647, 648, 649, 650, 110, 651, 652, 653, 654, 111, 655, 656, 331, 332, 333, 81, 334, 657, 658, 659, 660, 661, 85, 662, 663, 664, 665, 83, 666, 667, 668, 726, 727, 728, 729, 730, 112, 113, 731, 732, 733, 734, 735, 736, 737, 738, 739, 740, 98, 741, 742, 743, 744, 745, 746, 747, 748, 749, 750, 751, 752, 753, 754, 755, 99, 756, 757, 758, 759, 100, 760, 761, 762, 763, 764, 765, 766, 767, 95, 768, 769, 770, 771, 97, 772, 773, 774, 775, 776, 708, 709, 710, 777, 778, 779, 780, 781, 435, 436, 437, 87, 88, 782, 783, 784, 785, 786, 787, 788, 789, 790, 791, 792, 793, 794, 795, 796, 797, 86, 798, 799, 800, 801, 1055, 1056, 1057, 1058, 1087, 1088, 1089, 1090, 1091, 1092, 1093, 1094, 1120, 1121, 1122, 1123, 1124, 1125, 1126, 1083, 1084, 1085, 1086, 1108, 1095, 1096, 1097, 1098, 1099, 1100, 1101, 1102, 1113, 1114, 1115, 1116, 1117, 1118, 1119, 1109, 1110, 1111, 1112] (by decide +kernel) (by decide +kernel)) (goodIn_sub (fun _ h => List.mem_append_right _ h) (by decide +kernel))) (goodIn_sub (fun _ h => List.mem_append_left _ (List.mem_append_left _ (List.mem_append_right _ h))) (by decide +kernel))
set_option maxRecDepth 20000 in
theorem gL_law_L_typeOf : GoodIn wsL_law (va_wsS RL 171 yL_typeOf wsL_typeOf) := goodIn_app (goodIn_of _ (by decide +kernel)) ggL_law_L_typeOf
set_option maxRecDepth 20000 in
theorem ggL_law_X9_typeOf : GoodIn wsL_law wsX9_typeOf := goodIn_r _ [805, 186, 467, 468, 469, 5, 470, 415, 189, 190, 191, 192, 193, 194, 195, 241, 242, 243, 244, 187, 133, 134, 132, 245, 246, 247, 806, 807, 808, 809, 188, 152, 151, 148, 135, 146, 144, 810, 811, 812, 813, 138, 139, 142, 603, 604, 605, 606, 136, 137, 599, 600, 601, 602, 814, 815, 816, 817, 696, 697, 698, 699, 677, 678, 679, 680, 818, 819, 820, 821, 145, 141, 143, 822, 823, 824, 825, 715, 716, 717, 718, 826, 827, 828, 829, 830, 831, 832, 833, 149, 147, 150, 834, 835, 836, 837, 838, 839, 840, 841, 1059, 1060, 1061, 1062, 1063, 1064, 1065, 1066, 1067, 1068, 1069, 1070, 1071, 1072, 1073, 1074, 1075, 1076, 1077, 1078, 1079, 1080, 1081, 1082] (by decide +kernel) (by decide +kernel)
set_option maxRecDepth 20000 in
theorem gL_law_X9_typeOf : GoodIn wsL_law (wsV RL 173 RX9 yX9_typeOf wsX9_typeOf) := goodIn_app (goodIn_of _ (by decide +kernel)) ggL_law_X9_typeOf
set_option maxRecDepth 20000 in
theorem ggL_law_X8_errorCount : GoodIn wsL_law wsX8_errorCount := goodIn_r _ [845, 28, 590, 216, 217, 2, 218, 16, 219, 220, 221, 15, 222, 223, 224, 225, 226, 38, 36, 37, 35, 227, 228, 229, 34, 230, 44, 231, 232, 846, 847, 848, 27, 849, 122, 126, 850, 638, 639, 640, 851, 620, 621, 23, 622, 114, 623, 624, 625, 626, 115, 108, 627, 556, 557, 19, 558, 63, 559, 391, 392, 62, 393, 101, 518, 519, 520, 521, 51, 52, 59, 522, 64, 560, 260, 261, 50, 262, 70, 628, 573, 574, 575, 54, 55, 576, 577, 578, 579, 74, 528, 580, 581, 582, 583, 58, 584, 84, 389, 585, 586, 587, 588, 65, 589, 458, 459, 460, 96, 461, 629, 179, 180, 181, 630, 631, 632, 633, 109, 634, 635, 636, 637, 641, 642, 643, 644, 645, 646, 647, 648, 649, 650, 110, 651, 652, 653, 654, 111, 655, 656, 331, 332, 333, 81, 334, 657, 658, 659, 660, 661, 85, 662, 663, 664, 665, 83, 666, 667, 668, 852, 727, 728, 729, 730, 112, 113, 731, 732, 733, 734, 735, 736, 737, 738, 739, 740, 98, 741, 742, 743, 744, 745, 746, 747, 748, 749, 750, 751, 752, 753, 754, 755, 99, 756, 757, 758, 759, 100, 760, 761, 762, 763, 764, 765, 766, 767, 95, 768, 769, 770, 771, 97, 772, 773, 774, 775, 776, 708, 709, 710, 777, 778, 779, 780, 781, 435, 436, 437, 87, 88, 782, 783, 784, 785, 786, 787, 788, 789, 790, 791, 792, 793, 794, 795, 796, 797, 86, 853, 854, 855, 856, 125, 857, 858, 859, 860, 861, 862, 863, 864, 865, 866, 867, 868, 869, 870, 871, 872, 873, 874, 875, 876, 877, 878, 879, 880, 881, 882, 883, 689, 690, 691, 884, 885, 886, 887, 888, 889, 890, 891, 892, 893, 894, 895, 896, 897, 898, 899, 900, 901, 902, 903, 904, 905, 906, 907, 908, 909, 910, 670, 671, 672, 911, 912, 913, 914, 915, 916, 917, 918, 919, 920, 921, 922, 923, 924, 925, 926, 927, 928, 929, 930, 799, 800, 801, 931, 932, 933, 934, 935, 124, 123, 936, 937, 938, 939, 1055, 1056, 1057, 1058, 1083, 1084, 1085, 1086, 1108, 1103, 1104, 1105, 1106, 1107, 1095, 1096, 1097, 1098, 1099, 1100, 1101, 1102, 1087, 1088, 1089, 1090, 1091, 1092, 1093, 1094, 1120, 1121, 1122, 1123, 1124, 1125, 1126, 1113, 1114, 1115, 1116, 1117, 1118, 1119, 1109, 1110, 1111, 1112] (by decide +kernel) (by decide +kernel)
set_option maxRecDepth 20000 in
theorem gL_law_X8_errorCount : GoodIn wsL_law (wsV RL 174 RX8 yX8_errorCount wsX8_errorCount) := goodIn_app (goodIn_of _ (by decide +kernel)) ggL_law_X8_errorCount
set_option maxRecDepth 20000 in
theorem ggL_law_X9_errorCount : GoodIn wsL_law wsX9_errorCount := goodIn_r _ [943, 186, 944, 945, 946, 5, 947, 152, 806, 807, 808, 809, 188, 415, 151, 148, 135, 146, 144, 241, 242, 243, 244, 187, 133, 134, 132, 189, 190, 191, 245, 246, 247, 810, 811, 812, 813, 138, 139, 142, 603, 604, 605, 606, 136, 137, 599, 600, 601, 602, 814, 815, 816, 817, 696, 697, 698, 699, 677, 678, 679, 680, 818, 819, 820, 821, 145, 141, 143, 822, 823, 824, 825, 715, 716, 717, 718, 826, 827, 828, 829, 830, 831, 832, 833, 149, 147, 150, 834, 835, 836, 837, 838, 839, 840, 841, 1059, 1060, 1061, 1062, 1063, 1064, 1065, 1066, 1067, 1068, 1069, 1070, 1071, 1072, 1073, 1074, 1075, 1076, 1077, 1078, 1079, 1080, 1081, 1082] (by decide +kernel) (by decide +kernel)
set_option maxRecDepth 20000 in
theorem gL_law_X9_errorCount : GoodIn wsL_law (wsV RL 177 RX9 yX9_errorCount wsX9_errorCount) := goodIn_app (goodIn_of _ (by decide +kernel)) ggL_law_X9_errorCount
set_option maxRecDepth 20000 in
theorem ggL_law_L_error : GoodIn wsL_law wsL_error := goodIn_ca (goodIn_r _ [950, 288, 951, 952, 953, 2, 954, 293, 294, 28, 590, 216, 217, 218, 16, 219, 220, 221, 15, 222, 223, 224, 225, 226, 38, 36, 37, 35, 227, 228, 229, 34, 230, 44, 231, 232, 846, 847, 848, 27, 849, 122, 126, 850, 638, 639, 640, 851, 620, 621, 23, 622, 114, 623, 624, 625, 626, 115, 108, 627, 556, 557, 19, 558, 63, 559, 391, 392, 62, 393, 101, 518, 519, 520, 521, 51, 52, 59, 522, 64, 560, 260, 261, 50, 262, 70, 628, 573, 574, 575, 54, 55, 576, 577, 578, 579, 74, 528, 580, 581, 582, 583, 58, 584, 84, 389, 585, 586, 587, 588, 65, 589, 458, 459, 460, 96, 461, 629, 179, 180, 181, 630, 631, 632, 633, 109, 634, 635, 636, 637, 641, 642, 643, 644, 645, 646, 647, 648, 649, 650, 110, 651, 652, 653, 654, 111, 655, 656, 331, 332, 333, 81, 334, 657, 658, 659, 660, 661, 85, 662, 663, 664, 665, 83, 666, 667, 668, 852, 727, 728, 729, 730, 112, 113, 731, 732, 733, 734, 735, 736, 737, 738, 739, 740, 98, 741, 742, 743, 744, 745, 746, 747, 748, 749, 750, 751, 752, 753, 754, 755, 99, 756, 757, 758, 759, 100, 760, 761, 762, 763, 764, 765, 766, 767, 95, 768, 769, 770, 771, 97, 772, 773, 774, 775, 776, 708, 709, 710, 777, 778, 779, 780, 781, 435, 436, 437, 87, 88, 782, 783, 784, 785, 786, 787, 788, 789, 790, 791, 792, 793, 794, 795, 796, 797, 86, 853, 854, 855, 856, 125, 857, 858, 859, 860, 861, 862, 863, 864, 865, 866, 867, 868, 869, 870, 871, 872, 873, 874, 875, 876, 877, 878, 879, 880, 881, 882, 883, 689, 690, 691, 884, 885, 886, 887, 888, 889, 890, 891, 892, 893, 894, 895, 896, 897, 898, 899, 900, 901, 902, 903, 904, 905, 906, 907, 908, 909, 910, 670, 671, 672, 911, 912, 913, 914, 915, 916, 917, 918, 919, 920, 921, 922, 923, 924, 925, 926, 927, 928, 929, 930, 799, 800, 801, 931, 932, 933, 934, 935, 124, 123, 936, 937, 938, 939, 955, 956, 957, 958, 959, 960, 961, 962, 963, 964, 965, 966, 1055, 1056, 1057, 1058, 1083, 1084, 1085, 1086, 1108, 1103, 1104, 1105, 1106, 1107, 1095, 1096, 1097, 1098, 1099, 1100, 1101, 1102, 1087, 1088, 1089, 1090, 1091, 1092, 1093, 1094, 1120, 1121, 1122, 1123, 1124, 1125, 1126, 1113, 1114, 1115, 1116, 1117, 1118, 1119, 1109, 1110, 1111, 1112] (by decide +kernel) (by decide +kernel)) (goodIn_sub (fun _ h => List.mem_append_right _ h) (by decide +kernel))
set_option maxRecDepth 20000 in
theorem gL_law_L_error : GoodIn wsL_law (va_wsS RL 178 yL_error wsL_error) := goodIn_app (goodIn_of _ (by decide +kernel)) ggL_law_L_error
set_option maxRecDepth 20000 in
theorem ggL_law_X9_error : GoodIn wsL_law wsX9_error := goodIn_r _ [970, 186, 152, 944, 945, 946, 5, 947, 806, 807, 808, 809, 188, 415, 151, 148, 135, 146, 144, 241, 242, 243, 244, 187, 133, 134, 132, 189, 190, 191, 245, 246, 247, 810, 811, 812, 813, 138, 139, 142, 603, 604, 605, 606, 136, 137, 599, 600, 601, 602, 814, 815, 816, 817, 696, 697, 698, 699, 677, 678, 679, 680, 818, 819, 820, 821, 145, 141, 143, 822, 823, 824, 825, 715, 716, 717, 718, 826, 827, 828, 829, 830, 831, 832, 833, 149, 147, 150, 834, 835, 836, 837, 838, 839, 840, 841, 192, 193, 194, 195, 1059, 1060, 1061, 1062, 1063, 1064, 1065, 1066, 1067, 1068, 1069, 1070, 1071, 1072, 1073, 1074, 1075, 1076, 1077, 1078, 1079, 1080, 1081, 1082] (by decide +kernel) (by decide +kernel)
set_option maxRecDepth 20000 in
theorem gL_law_X9_error : GoodIn wsL_law (wsV RL 180 RX9 yX9_error wsX9_error) := goodIn_app (goodIn_of _ (by decide +kernel)) ggL_law_X9_error
set_option maxRecDepth 20000 in
theorem ggL_law_X8_right : GoodIn wsL_law wsX8_right := goodIn_r _ [974, 28, 590, 216, 217, 2, 218, 16, 219, 220, 221, 15, 222, 223, 224, 225, 226, 38, 36, 37, 35, 227, 228, 229, 34, 230, 44, 231, 232, 846, 847, 848, 27, 849, 122, 126, 850, 638, 639, 640, 851, 620, 621, 23, 622, 114, 623, 624, 625, 626, 115, 108, 627, 556, 557, 19, 558, 63, 559, 391, 392, 62, 393, 101, 518, 519, 520, 521, 51, 52, 59, 522, 64, 560, 260, 261, 50, 262, 70, 628, 573, 574, 575, 54, 55, 576, 577, 578, 579, 74, 528, 580, 581, 582, 583, 58, 584, 84, 389, 585, 586, 587, 588, 65, 589, 458, 459, 460, 96, 461, 629, 179, 180, 181, 630, 631, 632, 633, 109, 634, 635, 636, 637, 641, 642, 643, 644, 645, 646, 647, 648, 649, 650, 110, 651, 652, 653, 654, 111, 655, 656, 331, 332, 333, 81, 334, 657, 658, 659, 660, 661, 85, 662, 663, 664, 665, 83, 666, 667, 668, 852, 727, 728, 729, 730, 112, 113, 731, 732, 733, 734, 735, 736, 737, 738, 739, 740, 98, 741, 742, 743, 744, 745, 746, 747, 748, 749, 750, 751, 752, 753, 754, 755, 99, 756, 757, 758, 759, 100, 760, 761, 762, 763, 764, 765, 766, 767, 95, 768, 769, 770, 771, 97, 772, 773, 774, 775, 776, 708, 709, 710, 777, 778, 779, 780, 781, 435, 436, 437, 87, 88, 782, 783, 784, 785, 786, 787, 788, 789, 790, 791, 792, 793, 794, 795, 796, 797, 86, 853, 854, 855, 856, 125, 857, 858, 859, 860, 861, 862, 863, 864, 865, 866, 867, 868, 869, 870, 871, 872, 873, 874, 875, 876, 877, 878, 879, 880, 881, 882, 883, 689, 690, 691, 884, 885, 886, 887, 888, 889, 890, 891, 892, 893, 894, 895, 896, 897, 898, 899, 900, 901, 902, 903, 904, 905, 906, 907, 908, 909, 910, 670, 671, 672, 911, 912, 913, 914, 915, 916, 917, 918, 919, 920, 921, 922, 923, 924, 925, 926, 927, 928, 929, 930, 799, 800, 801, 931, 932, 933, 934, 935, 124, 123, 975, 976, 977, 978, 979, 964, 965, 966, 1055, 1056, 1057, 1058, 1083, 1084, 1085, 1086, 1108, 1103, 1104, 1105, 1106, 1107, 1095, 1096, 1097, 1098, 1099, 1100, 1101, 1102, 1087, 1088, 1089, 1090, 1091, 1092, 1093, 1094, 1120, 1121, 1122, 1123, 1124, 1125, 1126, 1113, 1114, 1115, 1116, 1117, 1118, 1119, 1109, 1110, 1111, 1112] (by decide +kernel) (by decide +kernel)
set_option maxRecDepth 20000 in
theorem gL_law_X8_right : GoodIn wsL_law (wsV RL 181 RX8 yX8_right wsX8_right) := goodIn_app (goodIn_of _ (by decide +kernel)) ggL_law_X8_right
set_option maxRecDepth 20000 in
theorem ggL_law_X9_right : GoodIn wsL_law wsX9_right := goodIn_r _ [983, 186, 984, 985, 986, 5, 987, 152, 806, 807, 808, 809, 188, 415, 151, 148, 135, 146, 144, 241, 242, 243, 244, 187, 133, 134, 132, 189, 190, 191, 245, 246, 247, 810, 811, 812, 813, 138, 139, 142, 603, 604, 605, 606, 136, 137, 599, 600, 601, 602, 814, 815, 816, 817, 696, 697, 698, 699, 677, 678, 679, 680, 818, 819, 820, 821, 145, 141, 143, 822, 823, 824, 825, 715, 716, 717, 718, 826, 827, 828, 829, 830, 831, 832, 833, 149, 147, 150, 834, 835, 836, 837, 838, 839, 840, 841, 237, 238, 239, 240, 1059, 1060, 1061, 1062, 1063, 1064, 1065, 1066, 1067, 1068, 1069, 1070, 1071, 1072, 1073, 1074, 1075, 1076, 1077, 1078, 1079, 1080, 1081, 1082] (by decide +kernel) (by decide +kernel)
set_option maxRecDepth 20000 in
theorem gL_law_X9_right : GoodIn wsL_law (wsV RL 184 RX9 yX9_right wsX9_right) := goodIn_app (goodIn_of _ (by decide +kernel)) ggL_law_X9_right
set_option maxRecDepth 20000 in
theorem ggL_law_L_errorsIn : GoodIn wsL_law wsL_errorsIn := goodIn_ca (goodIn_r _ [990, 157, 991, 992, 993, 2, 994, 163, 164, 28, 614, 615, 616, 617, 16, 219, 220, 221, 15, 222, 223, 224, 225, 226, 38, 36, 37, 35, 227, 228, 229, 34, 230, 44, 231, 232, 618, 590, 216, 217, 218, 846, 847, 848, 27, 849, 122, 126, 850, 638, 639, 640, 851, 620, 621, 23, 622, 114, 623, 624, 625, 626, 115, 108, 627, 556, 557, 19, 558, 63, 559, 391, 392, 62, 393, 101, 518, 519, 520, 521, 51, 52, 59, 522, 64, 560, 260, 261, 50, 262, 70, 628, 573, 574, 575, 54, 55, 576, 577, 578, 579, 74, 528, 580, 581, 582, 583, 58, 584, 84, 389, 585, 586, 587, 588, 65, 589, 458, 459, 460, 96, 461, 629, 179, 180, 181, 630, 631, 632, 633, 109, 634, 635, 636, 637, 641, 642, 643, 644, 645, 646, 647, 648, 649, 650, 110, 651, 652, 653, 654, 111, 655, 656, 331, 332, 333, 81, 334, 657, 658, 659, 660, 661, 85, 662, 663, 664, 665, 83, 666, 667, 668, 852, 727, 728, 729, 730, 112, 113, 731, 732, 733, 734, 735, 736, 737, 738, 739, 740, 98, 741, 742, 743, 744, 745, 746, 747, 748, 749, 750, 751, 752, 753, 754, 755, 99, 756, 757, 758, 759, 100, 760, 761, 762, 763, 764, 765, 766, 767, 95, 768, 769, 770, 771, 97, 772, 773, 774, 775, 776, 708, 709, 710, 777, 778, 779, 780, 781, 435, 436, 437, 87, 88, 782, 783, 784, 785, 786, 787, 788, 789, 790, 791, 792, 793, 794, 795, 796, 797, 86, 853, 854, 855, 856, 125, 857, 858, 859, 860, 861, 862, 863, 864, 865, 866, 867, 868, 869, 870, 871, 872, 873, 874, 875, 876, 877, 878, 879, 880, 881, 882, 883, 689, 690, 691, 884, 885, 886, 887, 888, 889, 890, 891, 892, 893, 894, 895, 896, 897, 898, 899, 900, 901, 902, 903, 904, 905, 906, 907, 908, 909, 910, 670, 671, 672, 911, 912, 913, 914, 915, 916, 917, 918, 919, 920, 921, 922, 923, 924, 925, 926, 927, 928, 929, 930, 799, 800, 801, 931, 932, 933, 934, 935, 124, 123, 995, 996, 997, 998, 979, 964, 965, 966, 1055, 1056, 1057, 1058, 1083, 1084, 1085, 1086, 1108, 1103, 1104, 1105, 1106, 1107, 1095, 1096, 1097, 1098, 1099, 1100, 1101, 1102, 1087, 1088, 1089, 1090, 1091, 1092, 1093, 1094, 1120, 1121, 1122, 1123, 1124, 1125, 1126, 1113, 1114, 1115, 1116, 1117, 1118, 1119, 1109, 1110, 1111, 1112] (by decide +kernel) (by decide +kernel)) (goodIn_sub (fun _ h => List.mem_append_left _ (List.mem_append_left _ (List.mem_append_right _ h))) (by decide +kernel))
set_option maxRecDepth 20000 in
theorem gL_law_L_errorsIn : GoodIn wsL_law (va_wsS RL 185 yL_errorsIn wsL_errorsIn) := goodIn_app (goodIn_of _ (by decide +kernel)) ggL_law_L_errorsIn
set_option maxRecDepth 20000 in
theorem ggL_law_X9_errorsIn : GoodIn wsL_law wsX9_errorsIn := goodIn_r _ [1002, 186, 152, 241, 242, 243, 5, 244, 187, 133, 134, 132, 189, 190, 191, 245, 246, 247, 192, 193, 194, 195, 806, 807, 808, 809, 188, 415, 151, 148, 135, 146, 144, 810, 811, 812, 813, 138, 139, 142, 603, 604, 605, 606, 136, 137, 599, 600, 601, 602, 814, 815, 816, 817, 696, 697, 698, 699, 677, 678, 679, 680, 818, 819, 820, 821, 145, 141, 143, 822, 823, 824, 825, 715, 716, 717, 718, 826, 827, 828, 829, 830, 831, 832, 833, 149, 147, 150, 834, 835, 836, 837, 838, 839, 840, 841, 1059, 1060, 1061, 1062, 1063, 1064, 1065, 1066, 1067, 1068, 1069, 1070, 1071, 1072, 1073, 1074, 1075, 1076, 1077, 1078, 1079, 1080, 1081, 1082] (by decide +kernel) (by decide +kernel)
set_option maxRecDepth 20000 in
theorem gL_law_X9_errorsIn : GoodIn wsL_law (wsV RL 187 RX9 yX9_errorsIn wsX9_errorsIn) := goodIn_app (goodIn_of _ (by decide +kernel)) ggL_law_X9_errorsIn
set_option maxRecDepth 20000 in
theorem ggL_law_X8_culprit : GoodIn wsL_law wsX8_culprit := goodIn_r _ [1006, 28, 590, 216, 217, 2, 218, 16, 219, 220, 221, 15, 222, 223, 224, 225, 226, 38, 36, 37, 35, 227, 228, 229, 34, 230, 44, 231, 232, 846, 847, 848, 27, 849, 122, 126, 850, 638, 639, 640, 851, 620, 621, 23, 622, 114, 623, 624, 625, 626, 115, 108, 627, 556, 557, 19, 558, 63, 559, 391, 392, 62, 393, 101, 518, 519, 520, 521, 51, 52, 59, 522, 64, 560, 260, 261, 50, 262, 70, 628, 573, 574, 575, 54, 55, 576, 577, 578, 579, 74, 528, 580, 581, 582, 583, 58, 584, 84, 389, 585, 586, 587, 588, 65, 589, 458, 459, 460, 96, 461, 629, 179, 180, 181, 630, 631, 632, 633, 109, 634, 635, 636, 637, 641, 642, 643, 644, 645, 646, 647, 648, 649, 650, 110, 651, 652, 653, 654, 111, 655, 656, 331, 332, 333, 81, 334, 657, 658, 659, 660, 661, 85, 662, 663, 664, 665, 83, 666, 667, 668, 852, 727, 728, 729, 730, 112, 113, 731, 732, 733, 734, 735, 736, 737, 738, 739, 740, 98, 741, 742, 743, 744, 745, 746, 747, 748, 749, 750, 751, 752, 753, 754, 755, 99, 756, 757, 758, 759, 100, 760, 761, 762, 763, 764, 765, 766, 767, 95, 768, 769, 770, 771, 97, 772, 773, 774, 775, 776, 708, 709, 710, 777, 778, 779, 780, 781, 435, 436, 437, 87, 88, 782, 783, 784, 785, 786, 787, 788, 789, 790, 791, 792, 793, 794, 795, 796, 797, 86, 853, 854, 855, 856, 125, 857, 858, 859, 860, 861, 862, 863, 864, 865, 866, 867, 868, 869, 870, 871, 872, 873, 874, 875, 876, 877, 878, 879, 880, 881, 882, 883, 689, 690, 691, 884, 885, 886, 887, 888, 889, 890, 891, 892, 893, 894, 895, 896, 897, 898, 899, 900, 901, 902, 903, 904, 905, 906, 907, 908, 909, 910, 670, 671, 672, 911, 912, 913, 914, 915, 916, 917, 918, 919, 920, 921, 922, 923, 924, 925, 926, 927, 928, 929, 930, 799, 800, 801, 931, 932, 933, 934, 935, 124, 123, 975, 976, 977, 978, 979, 964, 965, 966, 1007, 272, 273, 1008, 1009, 1010, 1011, 1012, 1013, 1014, 1055, 1056, 1057, 1058, 1083, 1084, 1085, 1086, 1108, 1103, 1104, 1105, 1106, 1107, 1095, 1096, 1097, 1098, 1099, 1100, 1101, 1102, 1087, 1088, 1089, 1090, 1091, 1092, 1093, 1094, 1120, 1121, 1122, 1123, 1124, 1125, 1126, 1113, 1114, 1115, 1116, 1117, 1118, 1119, 1109, 1110, 1111, 1112] (by decide +kernel) (by decide +kernel)
set_option maxRecDepth 20000 in
theorem gL_law_X8_culprit : GoodIn wsL_law (wsV RL 188 RX8 yX8_culprit wsX8_culprit) := goodIn_app (goodIn_of _ (by decide +kernel)) ggL_law_X8_culprit
set_option maxRecDepth 20000 in
theorem ggL_law_X9_culprit : GoodIn wsL_law wsX9_culprit := goodIn_r _ [1018, 186, 984, 985, 986, 5, 987, 152, 806, 807, 808, 809, 188, 415, 151, 148, 135, 146, 144, 241, 242, 243, 244, 187, 133, 134, 132, 189, 190, 191, 245, 246, 247, 810, 811, 812, 813, 138, 139, 142, 603, 604, 605, 606, 136, 137, 599, 600, 601, 602, 814, 815, 816, 817, 696, 697, 698, 699, 677, 678, 679, 680, 818, 819, 820, 821, 145, 141, 143, 822, 823, 824, 825, 715, 716, 717, 718, 826, 827, 828, 829, 830, 831, 832, 833, 149, 147, 150, 834, 835, 836, 837, 838, 839, 840, 841, 237, 238, 239, 240, 1019, 1020, 1021, 1022, 1023, 1009, 1010, 1011, 1012, 1013, 1014, 1059, 1060, 1061, 1062, 1063, 1064, 1065, 1066, 1067, 1068, 1069, 1070, 1071, 1072, 1073, 1074, 1075, 1076, 1077, 1078, 1079, 1080, 1081, 1082] (by decide +kernel) (by decide +kernel)
set_option maxRecDepth 20000 in
theorem gL_law_X9_culprit : GoodIn wsL_law (wsV RL 191 RX9 yX9_culprit wsX9_culprit) := goodIn_app (goodIn_of _ (by decide +kernel)) ggL_law_X9_culprit
set_option maxRecDepth 20000 in
theorem ggL_law_X8_share : GoodIn wsL_law wsX8_share := goodIn_r _ [1027, 28, 590, 216, 217, 2, 218, 16, 219, 220, 221, 15, 222, 223, 224, 225, 226, 38, 36, 37, 35, 227, 228, 229, 34, 230, 44, 231, 232, 846, 847, 848, 27, 849, 122, 126, 850, 638, 639, 640, 851, 620, 621, 23, 622, 114, 623, 624, 625, 626, 115, 108, 627, 556, 557, 19, 558, 63, 559, 391, 392, 62, 393, 101, 518, 519, 520, 521, 51, 52, 59, 522, 64, 560, 260, 261, 50, 262, 70, 628, 573, 574, 575, 54, 55, 576, 577, 578, 579, 74, 528, 580, 581, 582, 583, 58, 584, 84, 389, 585, 586, 587, 588, 65, 589, 458, 459, 460, 96, 461, 629, 179, 180, 181, 630, 631, 632, 633, 109, 634, 635, 636, 637, 641, 642, 643, 644, 645, 646, 647, 648, 649, 650, 110, 651, 652, 653, 654, 111, 655, 656, 331, 332, 333, 81, 334, 657, 658, 659, 660, 661, 85, 662, 663, 664, 665, 83, 666, 667, 668, 852, 727, 728, 729, 730, 112, 113, 731, 732, 733, 734, 735, 736, 737, 738, 739, 740, 98, 741, 742, 743, 744, 745, 746, 747, 748, 749, 750, 751, 752, 753, 754, 755, 99, 756, 757, 758, 759, 100, 760, 761, 762, 763, 764, 765, 766, 767, 95, 768, 769, 770, 771, 97, 772, 773, 774, 775, 776, 708, 709, 710, 777, 778, 779, 780, 781, 435, 436, 437, 87, 88, 782, 783, 784, 785, 786, 787, 788, 789, 790, 791, 792, 793, 794, 795, 796, 797, 86, 853, 854, 855, 856, 125, 857, 858, 859, 860, 861, 862, 863, 864, 865, 866, 867, 868, 869, 870, 871, 872, 873, 874, 875, 876, 877, 878, 879, 880, 881, 882, 883, 689, 690, 691, 884, 885, 886, 887, 888, 889, 890, 891, 892, 893, 894, 895, 896, 897, 898, 899, 900, 901, 902, 903, 904, 905, 906, 907, 908, 909, 910, 670, 671, 672, 911, 912, 913, 914, 915, 916, 917, 918, 919, 920, 921, 922, 923, 924, 925, 926, 927, 928, 929, 930, 799, 800, 801, 931, 932, 933, 934, 935, 124, 123, 975, 976, 977, 978, 979, 964, 965, 966, 1008, 1009, 1010, 1011, 1012, 1013, 1014, 1055, 1056, 1057, 1058, 1083, 1084, 1085, 1086, 1108, 1103, 1104, 1105, 1106, 1107, 1095, 1096, 1097, 1098, 1099, 1100, 1101, 1102, 1087, 1088, 1089, 1090, 1091, 1092, 1093, 1094, 1120, 1121, 1122, 1123, 1124, 1125, 1126, 1113, 1114, 1115, 1116, 1117, 1118, 1119, 1109, 1110, 1111, 1112] (by decide +kernel) (by decide +kernel)
set_option maxRecDepth 20000 in
theorem gL_law_X8_share : GoodIn wsL_law (wsV RL 192 RX8 yX8_share wsX8_share) := goodIn_app (goodIn_of _ (by decide +kernel)) ggL_law_X8_share
set_option maxRecDepth 20000 in
theorem ggL_law_X9_share : GoodIn wsL_law wsX9_share := goodIn_r _ [1031, 186, 237, 238, 239, 5, 240, 241, 242, 243, 244, 187, 133, 134, 132, 189, 190, 191, 245, 246, 247, 1023, 1009, 1010, 1011, 1012, 1013, 1014, 984, 985, 986, 987, 152, 806, 807, 808, 809, 188, 415, 151, 148, 135, 146, 144, 810, 811, 812, 813, 138, 139, 142, 603, 604, 605, 606, 136, 137, 599, 600, 601, 602, 814, 815, 816, 817, 696, 697, 698, 699, 677, 678, 679, 680, 818, 819, 820, 821, 145, 141, 143, 822, 823, 824, 825, 715, 716, 717, 718, 826, 827, 828, 829, 830, 831, 832, 833, 149, 147, 150, 834, 835, 836, 837, 838, 839, 840, 841, 1059, 1060, 1061, 1062, 1063, 1064, 1065, 1066, 1067, 1068, 1069, 1070, 1071, 1072, 1073, 1074, 1075, 1076, 1077, 1078, 1079, 1080, 1081, 1082] (by decide +kernel) (by decide +kernel)
set_option maxRecDepth 20000 in
theorem gL_law_X9_share : GoodIn wsL_law (wsV RL 196 RX9 yX9_share wsX9_share) := goodIn_app (goodIn_of _ (by decide +kernel)) ggL_law_X9_share
set_option maxRecDepth 20000 in
theorem ggL_law_X8_digest : GoodIn wsL_law wsX8_digest := goodIn_r _ [1035, 28, 1036, 20, 590, 216, 217, 2, 218, 16, 219, 220, 221, 15, 222, 223, 224, 225, 226, 38, 36, 37, 35, 227, 228, 229, 34, 230, 44, 231, 232, 846, 847, 848, 27, 849, 122, 126, 850, 638, 639, 640, 851, 620, 621, 23, 622, 114, 623, 624, 625, 626, 115, 108, 627, 556, 557, 19, 558, 63, 559, 391, 392, 62, 393, 101, 518, 519, 520, 521, 51, 52, 59, 522, 64, 560, 260, 261, 50, 262, 70, 628, 573, 574, 575, 54, 55, 576, 577, 578, 579, 74, 528, 580, 581, 582, 583, 58, 584, 84, 389, 585, 586, 587, 588, 65, 589, 458, 459, 460, 96, 461, 629, 179, 180, 181, 630, 631, 632, 633, 109, 634, 635, 636, 637, 641, 642, 643, 644, 645, 646, 647, 648, 649, 650, 110, 651, 652, 653, 654, 111, 655, 656, 331, 332, 333, 81, 334, 657, 658, 659, 660, 661, 85, 662, 663, 664, 665, 83, 666, 667, 668, 852, 727, 728, 729, 730, 112, 113, 731, 732, 733, 734, 735, 736, 737, 738, 739, 740, 98, 741, 742, 743, 744, 745, 746, 747, 748, 749, 750, 751, 752, 753, 754, 755, 99, 756, 757, 758, 759, 100, 760, 761, 762, 763, 764, 765, 766, 767, 95, 768, 769, 770, 771, 97, 772, 773, 774, 775, 776, 708, 709, 710, 777, 778, 779, 780, 781, 435, 436, 437, 87, 88, 782, 783, 784, 785, 786, 787, 788, 789, 790, 791, 792, 793, 794, 795, 796, 797, 86, 853, 854, 855, 856, 125, 857, 858, 859, 860, 861, 862, 863, 864, 865, 866, 867, 868, 869, 870, 871, 872, 873, 874, 875, 876, 877, 878, 879, 880, 881, 882, 883, 689, 690, 691, 884, 885, 886, 887, 888, 889, 890, 891, 892, 893, 894, 895, 896, 897, 898, 899, 900, 901, 902, 903, 904, 905, 906, 907, 908, 909, 910, 670, 671, 672, 911, 912, 913, 914, 915, 916, 917, 918, 919, 920, 921, 922, 923, 924, 925, 926, 927, 928, 929, 930, 799, 800, 801, 931, 932, 933, 934, 935, 124, 123, 1037, 1038, 1039, 1040, 555, 1041, 1042, 1043, 1044, 572, 936, 937, 938, 939, 955, 956, 957, 958, 959, 960, 961, 962, 963, 964, 965, 966, 1045, 1046, 1047, 1048, 383, 24, 390, 618, 798, 1055, 1056, 1057, 1058, 1083, 1084, 1085, 1086, 1108, 1103, 1104, 1105, 1106, 1107, 1095, 1096, 1097, 1098, 1099, 1100, 1101, 1102, 1087, 1088, 1089, 1090, 1091, 1092, 1093, 1094, 1120, 1121, 1122, 1123, 1124, 1125, 1126, 1113, 1114, 1115, 1116, 1117, 1118, 1119, 1109, 1110, 1111, 1112] (by decide +kernel) (by decide +kernel)
set_option maxRecDepth 20000 in
theorem gL_law_X8_digest : GoodIn wsL_law (wsV RL 197 RX8 yX8_digest wsX8_digest) := goodIn_app (goodIn_of _ (by decide +kernel)) ggL_law_X8_digest
set_option maxRecDepth 20000 in
theorem ggL_law_X9_digest : GoodIn wsL_law wsX9_digest := goodIn_r _ [1052, 186, 1053, 1054, 135, 415, 152, 237, 238, 239, 5, 240, 241, 242, 243, 244, 187, 133, 134, 132, 189, 190, 191, 245, 246, 247, 595, 596, 597, 598, 599, 600, 601, 602, 138, 139, 142, 148, 146, 603, 604, 605, 606, 136, 137, 944, 945, 946, 947, 806, 807, 808, 809, 188, 151, 144, 810, 811, 812, 813, 814, 815, 816, 817, 696, 697, 698, 699, 677, 678, 679, 680, 818, 819, 820, 821, 145, 141, 143, 822, 823, 824, 825, 715, 716, 717, 718, 826, 827, 828, 829, 830, 831, 832, 833, 149, 147, 150, 834, 835, 836, 837, 838, 839, 840, 841, 1059, 1060, 1061, 1062, 1063, 1064, 1065, 1066, 1067, 1068, 1069, 1070, 1071, 1072, 1073, 1074, 1075, 1076, 1077, 1078, 1079, 1080, 1081, 1082] (by decide +kernel) (by decide +kernel)
set_option maxRecDepth 20000 in
theorem gL_law_X9_digest : GoodIn wsL_law (wsV RL 201 RX9 yX9_digest wsX9_digest) := goodIn_app (goodIn_of _ (by decide +kernel)) ggL_law_X9_digest
theorem dL_law_0 : decode cL_law 0 = .ok (.new 8, 3) := by decide +kernel
theorem dL_law_3 : decode cL_law 3 = .ok (.dup, 1) := by decide +kernel
theorem dL_law_4 : decode cL_law 4 = .ok (.invokespecial 92, 3) := by decide +kernel
theorem dL_law_7 : decode cL_law 7 = .ok (.astore_n 1, 1) := by decide +kernel
theorem dL_law_8 : decode cL_law 8 = .ok (.new 93, 3) := by decide +kernel
theorem dL_law_11 : decode cL_law 11 = .ok (.dup, 1) := by decide +kernel
theorem dL_law_12 : decode cL_law 12 = .ok (.invokespecial 95, 3) := by decide +kernel
theorem dL_law_15 : decode cL_law 15 = .ok (.astore_n 2, 1) := by decide +kernel
theorem dL_law_16 : decode cL_law 16 = .ok (.iconst 1, 1) := by decide +kernel
theorem dL_law_17 : decode cL_law 17 = .ok (.newarray .long, 2) := by decide +kernel
theorem dL_law_19 : decode cL_law 19 = .ok (.astore_n 3, 1) := by decide +kernel
theorem dL_law_20 : decode cL_law 20 = .ok (.iconst 0, 1) := by decide +kernel
theorem dL_law_21 : decode cL_law 21 = .ok (.istore 4, 2) := by decide +kernel
theorem dL_law_23 : decode cL_law 23 = .ok (.iload 4, 2) := by decide +kernel
theorem dL_law_25 : decode cL_law 25 = .ok (.aload_n 0, 1) := by decide +kernel
theorem dL_law_26 : decode cL_law 26 = .ok (.arraylength, 1) := by decide +kernel
theorem dL_law_27 : decode cL_law 27 = .ok (.bipush 8, 2) := by decide +kernel
theorem dL_law_29 : decode cL_law 29 = .ok (.isub, 1) := by decide +kernel
theorem dL_law_30 : decode cL_law 30 = .ok (.if_icmp .gt 1953, 3) := by decide +kernel
theorem dL_law_33 : decode cL_law 33 = .ok (.aload_n 0, 1) := by decide +kernel
theorem dL_law_34 : decode cL_law 34 = .ok (.iload 4, 2) := by decide +kernel
theorem dL_law_36 : decode cL_law 36 = .ok (.iaload, 1) := by decide +kernel
theorem dL_law_37 : decode cL_law 37 = .ok (.bipush 31, 2) := by decide +kernel
theorem dL_law_39 : decode cL_law 39 = .ok (.iand, 1) := by decide +kernel
theorem dL_law_40 : decode cL_law 40 = .ok (.tableswitch 1937 0 27 #[128, 208, 252, 265, 333, 425, 529, 661, 729, 813, 881, 949, 1041, 1121, 1220, 1264, 1320, 1388, 1456, 1543, 1651, 1719, 1732, 1800, 1813, 1869, 1882, 1923], 128) := by decide +kernel
theorem dL_law_168 : decode cL_law 168 = .ok (.aload_n 1, 1) := by decide +kernel
theorem dL_law_169 : decode cL_law 169 = .ok (.aload_n 0, 1) := by decide +kernel
theorem dL_law_170 : decode cL_law 170 = .ok (.iload 4, 2) := by decide +kernel
theorem dL_law_172 : decode cL_law 172 = .ok (.iconst 1, 1) := by decide +kernel
theorem dL_law_173 : decode cL_law 173 = .ok (.iadd, 1) := by decide +kernel
theorem dL_law_174 : decode cL_law 174 = .ok (.iaload, 1) := by decide +kernel
theorem dL_law_175 : decode cL_law 175 = .ok (.aload_n 0, 1) := by decide +kernel
theorem dL_law_176 : decode cL_law 176 = .ok (.iload 4, 2) := by decide +kernel
theorem dL_law_178 : decode cL_law 178 = .ok (.iconst 2, 1) := by decide +kernel
theorem dL_law_179 : decode cL_law 179 = .ok (.iadd, 1) := by decide +kernel
theorem dL_law_180 : decode cL_law 180 = .ok (.iaload, 1) := by decide +kernel
theorem dL_law_181 : decode cL_law 181 = .ok (.aload_n 0, 1) := by decide +kernel
theorem dL_law_182 : decode cL_law 182 = .ok (.iload 4, 2) := by decide +kernel
theorem dL_law_184 : decode cL_law 184 = .ok (.iconst 3, 1) := by decide +kernel
theorem dL_law_185 : decode cL_law 185 = .ok (.iadd, 1) := by decide +kernel
theorem dL_law_186 : decode cL_law 186 = .ok (.iaload, 1) := by decide +kernel
theorem dL_law_187 : decode cL_law 187 = .ok (.aload_n 3, 1) := by decide +kernel
theorem dL_law_188 : decode cL_law 188 = .ok (.invokestatic 96, 3) := by decide +kernel
theorem dL_law_191 : decode cL_law 191 = .ok (.istore 5, 2) := by decide +kernel
theorem dL_law_193 : decode cL_law 193 = .ok (.aload_n 2, 1) := by decide +kernel
theorem dL_law_194 : decode cL_law 194 = .ok (.aload_n 0, 1) := by decide +kernel
theorem dL_law_195 : decode cL_law 195 = .ok (.iload 4, 2) := by decide +kernel
theorem dL_law_197 : decode cL_law 197 = .ok (.iconst 1, 1) := by decide +kernel
theorem dL_law_198 : decode cL_law 198 = .ok (.iadd, 1) := by decide +kernel
theorem dL_law_199 : decode cL_law 199 = .ok (.iaload, 1) := by decide +kernel
theorem dL_law_200 : decode cL_law 200 = .ok (.aload_n 0, 1) := by decide +kernel
theorem dL_law_201 : decode cL_law 201 = .ok (.iload 4, 2) := by decide +kernel
theorem dL_law_203 : decode cL_law 203 = .ok (.iconst 2, 1) := by decide +kernel
theorem dL_law_204 : decode cL_law 204 = .ok (.iadd, 1) := by decide +kernel
theorem dL_law_205 : decode cL_law 205 = .ok (.iaload, 1) := by decide +kernel
theorem dL_law_206 : decode cL_law 206 = .ok (.aload_n 0, 1) := by decide +kernel
theorem dL_law_207 : decode cL_law 207 = .ok (.iload 4, 2) := by decide +kernel
theorem dL_law_209 : decode cL_law 209 = .ok (.iconst 3, 1) := by decide +kernel
theorem dL_law_210 : decode cL_law 210 = .ok (.iadd, 1) := by decide +kernel
theorem dL_law_211 : decode cL_law 211 = .ok (.iaload, 1) := by decide +kernel
theorem dL_law_212 : decode cL_law 212 = .ok (.invokevirtual 101, 3) := by decide +kernel
theorem dL_law_215 : decode cL_law 215 = .ok (.istore 6, 2) := by decide +kernel
theorem dL_law_217 : decode cL_law 217 = .ok (.aload_n 2, 1) := by decide +kernel
theorem dL_law_218 : decode cL_law 218 = .ok (.invokevirtual 102, 3) := by decide +kernel
theorem dL_law_221 : decode cL_law 221 = .ok (.iload 5, 2) := by decide +kernel
theorem dL_law_223 : decode cL_law 223 = .ok (.if_icmp .eq 5, 3) := by decide +kernel
theorem dL_law_226 : decode cL_law 226 = .ok (.iconst 0, 1) := by decide +kernel
theorem dL_law_227 : decode cL_law 227 = .ok (.ireturn, 1) := by decide +kernel
theorem dL_law_228 : decode cL_law 228 = .ok (.iload 5, 2) := by decide +kernel
theorem dL_law_230 : decode cL_law 230 = .ok (.ifCond .ne 15, 3) := by decide +kernel
theorem dL_law_233 : decode cL_law 233 = .ok (.aload_n 3, 1) := by decide +kernel
theorem dL_law_234 : decode cL_law 234 = .ok (.iconst 0, 1) := by decide +kernel
theorem dL_law_235 : decode cL_law 235 = .ok (.laload, 1) := by decide +kernel
theorem dL_law_236 : decode cL_law 236 = .ok (.iload 6, 2) := by decide +kernel
theorem dL_law_238 : decode cL_law 238 = .ok (.i2l, 1) := by decide +kernel
theorem dL_law_239 : decode cL_law 239 = .ok (.lcmp, 1) := by decide +kernel
theorem dL_law_240 : decode cL_law 240 = .ok (.ifCond .eq 5, 3) := by decide +kernel
theorem dL_law_243 : decode cL_law 243 = .ok (.iconst 0, 1) := by decide +kernel
theorem dL_law_244 : decode cL_law 244 = .ok (.ireturn, 1) := by decide +kernel
theorem dL_law_245 : decode cL_law 245 = .ok (.goto 1732, 3) := by decide +kernel
theorem dL_law_248 : decode cL_law 248 = .ok (.aload_n 1, 1) := by decide +kernel
theorem dL_law_249 : decode cL_law 249 = .ok (.aload_n 3, 1) := by decide +kernel
theorem dL_law_250 : decode cL_law 250 = .ok (.invokestatic 105, 3) := by decide +kernel
theorem dL_law_253 : decode cL_law 253 = .ok (.istore 5, 2) := by decide +kernel
theorem dL_law_255 : decode cL_law 255 = .ok (.aload_n 2, 1) := by decide +kernel
theorem dL_law_256 : decode cL_law 256 = .ok (.invokevirtual 108, 3) := by decide +kernel
theorem dL_law_259 : decode cL_law 259 = .ok (.istore 6, 2) := by decide +kernel
theorem dL_law_261 : decode cL_law 261 = .ok (.aload_n 2, 1) := by decide +kernel
theorem dL_law_262 : decode cL_law 262 = .ok (.invokevirtual 102, 3) := by decide +kernel
theorem dL_law_265 : decode cL_law 265 = .ok (.iload 5, 2) := by decide +kernel
theorem dL_law_267 : decode cL_law 267 = .ok (.if_icmp .eq 5, 3) := by decide +kernel
theorem dL_law_270 : decode cL_law 270 = .ok (.iconst 0, 1) := by decide +kernel
theorem dL_law_271 : decode cL_law 271 = .ok (.ireturn, 1) := by decide +kernel
theorem dL_law_272 : decode cL_law 272 = .ok (.iload 5, 2) := by decide +kernel
theorem dL_law_274 : decode cL_law 274 = .ok (.ifCond .ne 15, 3) := by decide +kernel
theorem dL_law_277 : decode cL_law 277 = .ok (.aload_n 3, 1) := by decide +kernel
theorem dL_law_278 : decode cL_law 278 = .ok (.iconst 0, 1) := by decide +kernel
theorem dL_law_279 : decode cL_law 279 = .ok (.laload, 1) := by decide +kernel
theorem dL_law_280 : decode cL_law 280 = .ok (.iload 6, 2) := by decide +kernel
theorem dL_law_282 : decode cL_law 282 = .ok (.i2l, 1) := by decide +kernel
theorem dL_law_283 : decode cL_law 283 = .ok (.lcmp, 1) := by decide +kernel
theorem dL_law_284 : decode cL_law 284 = .ok (.ifCond .eq 5, 3) := by decide +kernel
theorem dL_law_287 : decode cL_law 287 = .ok (.iconst 0, 1) := by decide +kernel
theorem dL_law_288 : decode cL_law 288 = .ok (.ireturn, 1) := by decide +kernel
theorem dL_law_289 : decode cL_law 289 = .ok (.goto 1688, 3) := by decide +kernel
theorem dL_law_292 : decode cL_law 292 = .ok (.aload_n 1, 1) := by decide +kernel
theorem dL_law_293 : decode cL_law 293 = .ok (.invokevirtual 109, 3) := by decide +kernel
theorem dL_law_296 : decode cL_law 296 = .ok (.aload_n 2, 1) := by decide +kernel
theorem dL_law_297 : decode cL_law 297 = .ok (.invokevirtual 112, 3) := by decide +kernel
theorem dL_law_300 : decode cL_law 300 = .ok (.if_icmp .eq 1677, 3) := by decide +kernel
theorem dL_law_303 : decode cL_law 303 = .ok (.iconst 0, 1) := by decide +kernel
theorem dL_law_304 : decode cL_law 304 = .ok (.ireturn, 1) := by decide +kernel
theorem dL_law_305 : decode cL_law 305 = .ok (.aload_n 1, 1) := by decide +kernel
theorem dL_law_306 : decode cL_law 306 = .ok (.aload_n 0, 1) := by decide +kernel
theorem dL_law_307 : decode cL_law 307 = .ok (.iload 4, 2) := by decide +kernel
theorem dL_law_309 : decode cL_law 309 = .ok (.iconst 1, 1) := by decide +kernel
theorem dL_law_310 : decode cL_law 310 = .ok (.iadd, 1) := by decide +kernel
theorem dL_law_311 : decode cL_law 311 = .ok (.iaload, 1) := by decide +kernel
theorem dL_law_312 : decode cL_law 312 = .ok (.aload_n 0, 1) := by decide +kernel
theorem dL_law_313 : decode cL_law 313 = .ok (.iload 4, 2) := by decide +kernel
theorem dL_law_315 : decode cL_law 315 = .ok (.iconst 2, 1) := by decide +kernel
theorem dL_law_316 : decode cL_law 316 = .ok (.iadd, 1) := by decide +kernel
theorem dL_law_317 : decode cL_law 317 = .ok (.iaload, 1) := by decide +kernel
theorem dL_law_318 : decode cL_law 318 = .ok (.aload_n 3, 1) := by decide +kernel
theorem dL_law_319 : decode cL_law 319 = .ok (.invokestatic 113, 3) := by decide +kernel
theorem dL_law_322 : decode cL_law 322 = .ok (.istore 5, 2) := by decide +kernel
theorem dL_law_324 : decode cL_law 324 = .ok (.aload_n 2, 1) := by decide +kernel
theorem dL_law_325 : decode cL_law 325 = .ok (.aload_n 0, 1) := by decide +kernel
theorem dL_law_326 : decode cL_law 326 = .ok (.iload 4, 2) := by decide +kernel
theorem dL_law_328 : decode cL_law 328 = .ok (.iconst 1, 1) := by decide +kernel
theorem dL_law_329 : decode cL_law 329 = .ok (.iadd, 1) := by decide +kernel
theorem dL_law_330 : decode cL_law 330 = .ok (.iaload, 1) := by decide +kernel
theorem dL_law_331 : decode cL_law 331 = .ok (.aload_n 0, 1) := by decide +kernel
theorem dL_law_332 : decode cL_law 332 = .ok (.iload 4, 2) := by decide +kernel
theorem dL_law_334 : decode cL_law 334 = .ok (.iconst 2, 1) := by decide +kernel
theorem dL_law_335 : decode cL_law 335 = .ok (.iadd, 1) := by decide +kernel
theorem dL_law_336 : decode cL_law 336 = .ok (.iaload, 1) := by decide +kernel
theorem dL_law_337 : decode cL_law 337 = .ok (.invokevirtual 116, 3) := by decide +kernel
theorem dL_law_340 : decode cL_law 340 = .ok (.istore 6, 2) := by decide +kernel
theorem dL_law_342 : decode cL_law 342 = .ok (.aload_n 2, 1) := by decide +kernel
theorem dL_law_343 : decode cL_law 343 = .ok (.invokevirtual 102, 3) := by decide +kernel
theorem dL_law_346 : decode cL_law 346 = .ok (.iload 5, 2) := by decide +kernel
theorem dL_law_348 : decode cL_law 348 = .ok (.if_icmp .eq 5, 3) := by decide +kernel
theorem dL_law_351 : decode cL_law 351 = .ok (.iconst 0, 1) := by decide +kernel
theorem dL_law_352 : decode cL_law 352 = .ok (.ireturn, 1) := by decide +kernel
theorem dL_law_353 : decode cL_law 353 = .ok (.iload 5, 2) := by decide +kernel
theorem dL_law_355 : decode cL_law 355 = .ok (.ifCond .ne 15, 3) := by decide +kernel
theorem dL_law_358 : decode cL_law 358 = .ok (.aload_n 3, 1) := by decide +kernel
theorem dL_law_359 : decode cL_law 359 = .ok (.iconst 0, 1) := by decide +kernel
theorem dL_law_360 : decode cL_law 360 = .ok (.laload, 1) := by decide +kernel
theorem dL_law_361 : decode cL_law 361 = .ok (.iload 6, 2) := by decide +kernel
theorem dL_law_363 : decode cL_law 363 = .ok (.i2l, 1) := by decide +kernel
theorem dL_law_364 : decode cL_law 364 = .ok (.lcmp, 1) := by decide +kernel
theorem dL_law_365 : decode cL_law 365 = .ok (.ifCond .eq 5, 3) := by decide +kernel
theorem dL_law_368 : decode cL_law 368 = .ok (.iconst 0, 1) := by decide +kernel
theorem dL_law_369 : decode cL_law 369 = .ok (.ireturn, 1) := by decide +kernel
theorem dL_law_370 : decode cL_law 370 = .ok (.goto 1607, 3) := by decide +kernel
theorem dL_law_373 : decode cL_law 373 = .ok (.aload_n 1, 1) := by decide +kernel
theorem dL_law_374 : decode cL_law 374 = .ok (.aload_n 0, 1) := by decide +kernel
theorem dL_law_375 : decode cL_law 375 = .ok (.iload 4, 2) := by decide +kernel
theorem dL_law_377 : decode cL_law 377 = .ok (.iconst 1, 1) := by decide +kernel
theorem dL_law_378 : decode cL_law 378 = .ok (.iadd, 1) := by decide +kernel
theorem dL_law_379 : decode cL_law 379 = .ok (.iaload, 1) := by decide +kernel
theorem dL_law_380 : decode cL_law 380 = .ok (.aload_n 0, 1) := by decide +kernel
theorem dL_law_381 : decode cL_law 381 = .ok (.iload 4, 2) := by decide +kernel
theorem dL_law_383 : decode cL_law 383 = .ok (.iconst 2, 1) := by decide +kernel
theorem dL_law_384 : decode cL_law 384 = .ok (.iadd, 1) := by decide +kernel
theorem dL_law_385 : decode cL_law 385 = .ok (.iaload, 1) := by decide +kernel
theorem dL_law_386 : decode cL_law 386 = .ok (.aload_n 0, 1) := by decide +kernel
theorem dL_law_387 : decode cL_law 387 = .ok (.iload 4, 2) := by decide +kernel
theorem dL_law_389 : decode cL_law 389 = .ok (.iconst 3, 1) := by decide +kernel
theorem dL_law_390 : decode cL_law 390 = .ok (.iadd, 1) := by decide +kernel
theorem dL_law_391 : decode cL_law 391 = .ok (.iaload, 1) := by decide +kernel
theorem dL_law_392 : decode cL_law 392 = .ok (.aload_n 0, 1) := by decide +kernel
theorem dL_law_393 : decode cL_law 393 = .ok (.iload 4, 2) := by decide +kernel
theorem dL_law_395 : decode cL_law 395 = .ok (.iconst 4, 1) := by decide +kernel
theorem dL_law_396 : decode cL_law 396 = .ok (.iadd, 1) := by decide +kernel
theorem dL_law_397 : decode cL_law 397 = .ok (.iaload, 1) := by decide +kernel
theorem dL_law_398 : decode cL_law 398 = .ok (.aload_n 3, 1) := by decide +kernel
theorem dL_law_399 : decode cL_law 399 = .ok (.invokestatic 117, 3) := by decide +kernel
theorem dL_law_402 : decode cL_law 402 = .ok (.istore 5, 2) := by decide +kernel
theorem dL_law_404 : decode cL_law 404 = .ok (.aload_n 2, 1) := by decide +kernel
theorem dL_law_405 : decode cL_law 405 = .ok (.aload_n 0, 1) := by decide +kernel
theorem dL_law_406 : decode cL_law 406 = .ok (.iload 4, 2) := by decide +kernel
theorem dL_law_408 : decode cL_law 408 = .ok (.iconst 1, 1) := by decide +kernel
theorem dL_law_409 : decode cL_law 409 = .ok (.iadd, 1) := by decide +kernel
theorem dL_law_410 : decode cL_law 410 = .ok (.iaload, 1) := by decide +kernel
theorem dL_law_411 : decode cL_law 411 = .ok (.aload_n 0, 1) := by decide +kernel
theorem dL_law_412 : decode cL_law 412 = .ok (.iload 4, 2) := by decide +kernel
theorem dL_law_414 : decode cL_law 414 = .ok (.iconst 2, 1) := by decide +kernel
theorem dL_law_415 : decode cL_law 415 = .ok (.iadd, 1) := by decide +kernel
theorem dL_law_416 : decode cL_law 416 = .ok (.iaload, 1) := by decide +kernel
theorem dL_law_417 : decode cL_law 417 = .ok (.aload_n 0, 1) := by decide +kernel
theorem dL_law_418 : decode cL_law 418 = .ok (.iload 4, 2) := by decide +kernel
theorem dL_law_420 : decode cL_law 420 = .ok (.iconst 3, 1) := by decide +kernel
theorem dL_law_421 : decode cL_law 421 = .ok (.iadd, 1) := by decide +kernel
theorem dL_law_422 : decode cL_law 422 = .ok (.iaload, 1) := by decide +kernel
theorem dL_law_423 : decode cL_law 423 = .ok (.aload_n 0, 1) := by decide +kernel
theorem dL_law_424 : decode cL_law 424 = .ok (.iload 4, 2) := by decide +kernel
theorem dL_law_426 : decode cL_law 426 = .ok (.iconst 4, 1) := by decide +kernel
theorem dL_law_427 : decode cL_law 427 = .ok (.iadd, 1) := by decide +kernel
theorem dL_law_428 : decode cL_law 428 = .ok (.iaload, 1) := by decide +kernel
theorem dL_law_429 : decode cL_law 429 = .ok (.invokevirtual 120, 3) := by decide +kernel
theorem dL_law_432 : decode cL_law 432 = .ok (.istore 6, 2) := by decide +kernel
theorem dL_law_434 : decode cL_law 434 = .ok (.aload_n 2, 1) := by decide +kernel
theorem dL_law_435 : decode cL_law 435 = .ok (.invokevirtual 102, 3) := by decide +kernel
theorem dL_law_438 : decode cL_law 438 = .ok (.iload 5, 2) := by decide +kernel
theorem dL_law_440 : decode cL_law 440 = .ok (.if_icmp .eq 5, 3) := by decide +kernel
theorem dL_law_443 : decode cL_law 443 = .ok (.iconst 0, 1) := by decide +kernel
theorem dL_law_444 : decode cL_law 444 = .ok (.ireturn, 1) := by decide +kernel
theorem dL_law_445 : decode cL_law 445 = .ok (.iload 5, 2) := by decide +kernel
theorem dL_law_447 : decode cL_law 447 = .ok (.ifCond .ne 15, 3) := by decide +kernel
theorem dL_law_450 : decode cL_law 450 = .ok (.aload_n 3, 1) := by decide +kernel
theorem dL_law_451 : decode cL_law 451 = .ok (.iconst 0, 1) := by decide +kernel
theorem dL_law_452 : decode cL_law 452 = .ok (.laload, 1) := by decide +kernel
theorem dL_law_453 : decode cL_law 453 = .ok (.iload 6, 2) := by decide +kernel
theorem dL_law_455 : decode cL_law 455 = .ok (.i2l, 1) := by decide +kernel
theorem dL_law_456 : decode cL_law 456 = .ok (.lcmp, 1) := by decide +kernel
theorem dL_law_457 : decode cL_law 457 = .ok (.ifCond .eq 5, 3) := by decide +kernel
theorem dL_law_460 : decode cL_law 460 = .ok (.iconst 0, 1) := by decide +kernel
theorem dL_law_461 : decode cL_law 461 = .ok (.ireturn, 1) := by decide +kernel
theorem dL_law_462 : decode cL_law 462 = .ok (.goto 1515, 3) := by decide +kernel
theorem dL_law_465 : decode cL_law 465 = .ok (.aload_n 1, 1) := by decide +kernel
theorem dL_law_466 : decode cL_law 466 = .ok (.aload_n 0, 1) := by decide +kernel
theorem dL_law_467 : decode cL_law 467 = .ok (.iload 4, 2) := by decide +kernel
theorem dL_law_469 : decode cL_law 469 = .ok (.iconst 1, 1) := by decide +kernel
theorem dL_law_470 : decode cL_law 470 = .ok (.iadd, 1) := by decide +kernel
theorem dL_law_471 : decode cL_law 471 = .ok (.iaload, 1) := by decide +kernel
theorem dL_law_472 : decode cL_law 472 = .ok (.aload_n 0, 1) := by decide +kernel
theorem dL_law_473 : decode cL_law 473 = .ok (.iload 4, 2) := by decide +kernel
theorem dL_law_475 : decode cL_law 475 = .ok (.iconst 2, 1) := by decide +kernel
theorem dL_law_476 : decode cL_law 476 = .ok (.iadd, 1) := by decide +kernel
theorem dL_law_477 : decode cL_law 477 = .ok (.iaload, 1) := by decide +kernel
theorem dL_law_478 : decode cL_law 478 = .ok (.aload_n 0, 1) := by decide +kernel
theorem dL_law_479 : decode cL_law 479 = .ok (.iload 4, 2) := by decide +kernel
theorem dL_law_481 : decode cL_law 481 = .ok (.iconst 3, 1) := by decide +kernel
theorem dL_law_482 : decode cL_law 482 = .ok (.iadd, 1) := by decide +kernel
theorem dL_law_483 : decode cL_law 483 = .ok (.iaload, 1) := by decide +kernel
theorem dL_law_484 : decode cL_law 484 = .ok (.aload_n 0, 1) := by decide +kernel
theorem dL_law_485 : decode cL_law 485 = .ok (.iload 4, 2) := by decide +kernel
theorem dL_law_487 : decode cL_law 487 = .ok (.iconst 4, 1) := by decide +kernel
theorem dL_law_488 : decode cL_law 488 = .ok (.iadd, 1) := by decide +kernel
theorem dL_law_489 : decode cL_law 489 = .ok (.iaload, 1) := by decide +kernel
theorem dL_law_490 : decode cL_law 490 = .ok (.aload_n 0, 1) := by decide +kernel
theorem dL_law_491 : decode cL_law 491 = .ok (.iload 4, 2) := by decide +kernel
theorem dL_law_493 : decode cL_law 493 = .ok (.iconst 5, 1) := by decide +kernel
theorem dL_law_494 : decode cL_law 494 = .ok (.iadd, 1) := by decide +kernel
theorem dL_law_495 : decode cL_law 495 = .ok (.iaload, 1) := by decide +kernel
theorem dL_law_496 : decode cL_law 496 = .ok (.aload_n 3, 1) := by decide +kernel
theorem dL_law_497 : decode cL_law 497 = .ok (.invokestatic 121, 3) := by decide +kernel
theorem dL_law_500 : decode cL_law 500 = .ok (.istore 5, 2) := by decide +kernel
theorem dL_law_502 : decode cL_law 502 = .ok (.aload_n 2, 1) := by decide +kernel
theorem dL_law_503 : decode cL_law 503 = .ok (.aload_n 0, 1) := by decide +kernel
theorem dL_law_504 : decode cL_law 504 = .ok (.iload 4, 2) := by decide +kernel
theorem dL_law_506 : decode cL_law 506 = .ok (.iconst 1, 1) := by decide +kernel
theorem dL_law_507 : decode cL_law 507 = .ok (.iadd, 1) := by decide +kernel
theorem dL_law_508 : decode cL_law 508 = .ok (.iaload, 1) := by decide +kernel
theorem dL_law_509 : decode cL_law 509 = .ok (.aload_n 0, 1) := by decide +kernel
theorem dL_law_510 : decode cL_law 510 = .ok (.iload 4, 2) := by decide +kernel
theorem dL_law_512 : decode cL_law 512 = .ok (.iconst 2, 1) := by decide +kernel
theorem dL_law_513 : decode cL_law 513 = .ok (.iadd, 1) := by decide +kernel
theorem dL_law_514 : decode cL_law 514 = .ok (.iaload, 1) := by decide +kernel
theorem dL_law_515 : decode cL_law 515 = .ok (.aload_n 0, 1) := by decide +kernel
theorem dL_law_516 : decode cL_law 516 = .ok (.iload 4, 2) := by decide +kernel
theorem dL_law_518 : decode cL_law 518 = .ok (.iconst 3, 1) := by decide +kernel
theorem dL_law_519 : decode cL_law 519 = .ok (.iadd, 1) := by decide +kernel
theorem dL_law_520 : decode cL_law 520 = .ok (.iaload, 1) := by decide +kernel
theorem dL_law_521 : decode cL_law 521 = .ok (.aload_n 0, 1) := by decide +kernel
theorem dL_law_522 : decode cL_law 522 = .ok (.iload 4, 2) := by decide +kernel
theorem dL_law_524 : decode cL_law 524 = .ok (.iconst 4, 1) := by decide +kernel
theorem dL_law_525 : decode cL_law 525 = .ok (.iadd, 1) := by decide +kernel
theorem dL_law_526 : decode cL_law 526 = .ok (.iaload, 1) := by decide +kernel
theorem dL_law_527 : decode cL_law 527 = .ok (.aload_n 0, 1) := by decide +kernel
theorem dL_law_528 : decode cL_law 528 = .ok (.iload 4, 2) := by decide +kernel
theorem dL_law_530 : decode cL_law 530 = .ok (.iconst 5, 1) := by decide +kernel
theorem dL_law_531 : decode cL_law 531 = .ok (.iadd, 1) := by decide +kernel
theorem dL_law_532 : decode cL_law 532 = .ok (.iaload, 1) := by decide +kernel
theorem dL_law_533 : decode cL_law 533 = .ok (.invokevirtual 124, 3) := by decide +kernel
theorem dL_law_536 : decode cL_law 536 = .ok (.istore 6, 2) := by decide +kernel
theorem dL_law_538 : decode cL_law 538 = .ok (.aload_n 2, 1) := by decide +kernel
theorem dL_law_539 : decode cL_law 539 = .ok (.invokevirtual 102, 3) := by decide +kernel
theorem dL_law_542 : decode cL_law 542 = .ok (.iload 5, 2) := by decide +kernel
theorem dL_law_544 : decode cL_law 544 = .ok (.if_icmp .eq 5, 3) := by decide +kernel
theorem dL_law_547 : decode cL_law 547 = .ok (.iconst 0, 1) := by decide +kernel
theorem dL_law_548 : decode cL_law 548 = .ok (.ireturn, 1) := by decide +kernel
theorem dL_law_549 : decode cL_law 549 = .ok (.iload 5, 2) := by decide +kernel
theorem dL_law_551 : decode cL_law 551 = .ok (.ifCond .ne 15, 3) := by decide +kernel
theorem dL_law_554 : decode cL_law 554 = .ok (.aload_n 3, 1) := by decide +kernel
theorem dL_law_555 : decode cL_law 555 = .ok (.iconst 0, 1) := by decide +kernel
theorem dL_law_556 : decode cL_law 556 = .ok (.laload, 1) := by decide +kernel
theorem dL_law_557 : decode cL_law 557 = .ok (.iload 6, 2) := by decide +kernel
theorem dL_law_559 : decode cL_law 559 = .ok (.i2l, 1) := by decide +kernel
theorem dL_law_560 : decode cL_law 560 = .ok (.lcmp, 1) := by decide +kernel
theorem dL_law_561 : decode cL_law 561 = .ok (.ifCond .eq 5, 3) := by decide +kernel
theorem dL_law_564 : decode cL_law 564 = .ok (.iconst 0, 1) := by decide +kernel
theorem dL_law_565 : decode cL_law 565 = .ok (.ireturn, 1) := by decide +kernel
theorem dL_law_566 : decode cL_law 566 = .ok (.goto 1411, 3) := by decide +kernel
theorem dL_law_569 : decode cL_law 569 = .ok (.aload_n 1, 1) := by decide +kernel
theorem dL_law_570 : decode cL_law 570 = .ok (.aload_n 0, 1) := by decide +kernel
theorem dL_law_571 : decode cL_law 571 = .ok (.iload 4, 2) := by decide +kernel
theorem dL_law_573 : decode cL_law 573 = .ok (.iconst 1, 1) := by decide +kernel
theorem dL_law_574 : decode cL_law 574 = .ok (.iadd, 1) := by decide +kernel
theorem dL_law_575 : decode cL_law 575 = .ok (.iaload, 1) := by decide +kernel
theorem dL_law_576 : decode cL_law 576 = .ok (.aload_n 0, 1) := by decide +kernel
theorem dL_law_577 : decode cL_law 577 = .ok (.iload 4, 2) := by decide +kernel
theorem dL_law_579 : decode cL_law 579 = .ok (.iconst 2, 1) := by decide +kernel
theorem dL_law_580 : decode cL_law 580 = .ok (.iadd, 1) := by decide +kernel
theorem dL_law_581 : decode cL_law 581 = .ok (.iaload, 1) := by decide +kernel
theorem dL_law_582 : decode cL_law 582 = .ok (.aload_n 0, 1) := by decide +kernel
theorem dL_law_583 : decode cL_law 583 = .ok (.iload 4, 2) := by decide +kernel
theorem dL_law_585 : decode cL_law 585 = .ok (.iconst 3, 1) := by decide +kernel
theorem dL_law_586 : decode cL_law 586 = .ok (.iadd, 1) := by decide +kernel
theorem dL_law_587 : decode cL_law 587 = .ok (.iaload, 1) := by decide +kernel
theorem dL_law_588 : decode cL_law 588 = .ok (.aload_n 0, 1) := by decide +kernel
theorem dL_law_589 : decode cL_law 589 = .ok (.iload 4, 2) := by decide +kernel
theorem dL_law_591 : decode cL_law 591 = .ok (.iconst 4, 1) := by decide +kernel
theorem dL_law_592 : decode cL_law 592 = .ok (.iadd, 1) := by decide +kernel
theorem dL_law_593 : decode cL_law 593 = .ok (.iaload, 1) := by decide +kernel
theorem dL_law_594 : decode cL_law 594 = .ok (.aload_n 0, 1) := by decide +kernel
theorem dL_law_595 : decode cL_law 595 = .ok (.iload 4, 2) := by decide +kernel
theorem dL_law_597 : decode cL_law 597 = .ok (.iconst 5, 1) := by decide +kernel
theorem dL_law_598 : decode cL_law 598 = .ok (.iadd, 1) := by decide +kernel
theorem dL_law_599 : decode cL_law 599 = .ok (.iaload, 1) := by decide +kernel
theorem dL_law_600 : decode cL_law 600 = .ok (.aload_n 0, 1) := by decide +kernel
theorem dL_law_601 : decode cL_law 601 = .ok (.iload 4, 2) := by decide +kernel
theorem dL_law_603 : decode cL_law 603 = .ok (.bipush 6, 2) := by decide +kernel
theorem dL_law_605 : decode cL_law 605 = .ok (.iadd, 1) := by decide +kernel
theorem dL_law_606 : decode cL_law 606 = .ok (.iaload, 1) := by decide +kernel
theorem dL_law_607 : decode cL_law 607 = .ok (.aload_n 0, 1) := by decide +kernel
theorem dL_law_608 : decode cL_law 608 = .ok (.iload 4, 2) := by decide +kernel
theorem dL_law_610 : decode cL_law 610 = .ok (.bipush 7, 2) := by decide +kernel
theorem dL_law_612 : decode cL_law 612 = .ok (.iadd, 1) := by decide +kernel
theorem dL_law_613 : decode cL_law 613 = .ok (.iaload, 1) := by decide +kernel
theorem dL_law_614 : decode cL_law 614 = .ok (.aload_n 3, 1) := by decide +kernel
theorem dL_law_615 : decode cL_law 615 = .ok (.invokestatic 125, 3) := by decide +kernel
theorem dL_law_618 : decode cL_law 618 = .ok (.istore 5, 2) := by decide +kernel
theorem dL_law_620 : decode cL_law 620 = .ok (.aload_n 2, 1) := by decide +kernel
theorem dL_law_621 : decode cL_law 621 = .ok (.aload_n 0, 1) := by decide +kernel
theorem dL_law_622 : decode cL_law 622 = .ok (.iload 4, 2) := by decide +kernel
theorem dL_law_624 : decode cL_law 624 = .ok (.iconst 1, 1) := by decide +kernel
theorem dL_law_625 : decode cL_law 625 = .ok (.iadd, 1) := by decide +kernel
theorem dL_law_626 : decode cL_law 626 = .ok (.iaload, 1) := by decide +kernel
theorem dL_law_627 : decode cL_law 627 = .ok (.aload_n 0, 1) := by decide +kernel
theorem dL_law_628 : decode cL_law 628 = .ok (.iload 4, 2) := by decide +kernel
theorem dL_law_630 : decode cL_law 630 = .ok (.iconst 2, 1) := by decide +kernel
theorem dL_law_631 : decode cL_law 631 = .ok (.iadd, 1) := by decide +kernel
theorem dL_law_632 : decode cL_law 632 = .ok (.iaload, 1) := by decide +kernel
theorem dL_law_633 : decode cL_law 633 = .ok (.aload_n 0, 1) := by decide +kernel
theorem dL_law_634 : decode cL_law 634 = .ok (.iload 4, 2) := by decide +kernel
theorem dL_law_636 : decode cL_law 636 = .ok (.iconst 3, 1) := by decide +kernel
theorem dL_law_637 : decode cL_law 637 = .ok (.iadd, 1) := by decide +kernel
theorem dL_law_638 : decode cL_law 638 = .ok (.iaload, 1) := by decide +kernel
theorem dL_law_639 : decode cL_law 639 = .ok (.aload_n 0, 1) := by decide +kernel
theorem dL_law_640 : decode cL_law 640 = .ok (.iload 4, 2) := by decide +kernel
theorem dL_law_642 : decode cL_law 642 = .ok (.iconst 4, 1) := by decide +kernel
theorem dL_law_643 : decode cL_law 643 = .ok (.iadd, 1) := by decide +kernel
theorem dL_law_644 : decode cL_law 644 = .ok (.iaload, 1) := by decide +kernel
theorem dL_law_645 : decode cL_law 645 = .ok (.aload_n 0, 1) := by decide +kernel
theorem dL_law_646 : decode cL_law 646 = .ok (.iload 4, 2) := by decide +kernel
theorem dL_law_648 : decode cL_law 648 = .ok (.iconst 5, 1) := by decide +kernel
theorem dL_law_649 : decode cL_law 649 = .ok (.iadd, 1) := by decide +kernel
theorem dL_law_650 : decode cL_law 650 = .ok (.iaload, 1) := by decide +kernel
theorem dL_law_651 : decode cL_law 651 = .ok (.aload_n 0, 1) := by decide +kernel
theorem dL_law_652 : decode cL_law 652 = .ok (.iload 4, 2) := by decide +kernel
theorem dL_law_654 : decode cL_law 654 = .ok (.bipush 6, 2) := by decide +kernel
theorem dL_law_656 : decode cL_law 656 = .ok (.iadd, 1) := by decide +kernel
theorem dL_law_657 : decode cL_law 657 = .ok (.iaload, 1) := by decide +kernel
theorem dL_law_658 : decode cL_law 658 = .ok (.aload_n 0, 1) := by decide +kernel
theorem dL_law_659 : decode cL_law 659 = .ok (.iload 4, 2) := by decide +kernel
theorem dL_law_661 : decode cL_law 661 = .ok (.bipush 7, 2) := by decide +kernel
theorem dL_law_663 : decode cL_law 663 = .ok (.iadd, 1) := by decide +kernel
theorem dL_law_664 : decode cL_law 664 = .ok (.iaload, 1) := by decide +kernel
theorem dL_law_665 : decode cL_law 665 = .ok (.invokevirtual 128, 3) := by decide +kernel
theorem dL_law_668 : decode cL_law 668 = .ok (.istore 6, 2) := by decide +kernel
theorem dL_law_670 : decode cL_law 670 = .ok (.aload_n 2, 1) := by decide +kernel
theorem dL_law_671 : decode cL_law 671 = .ok (.invokevirtual 102, 3) := by decide +kernel
theorem dL_law_674 : decode cL_law 674 = .ok (.iload 5, 2) := by decide +kernel
theorem dL_law_676 : decode cL_law 676 = .ok (.if_icmp .eq 5, 3) := by decide +kernel
theorem dL_law_679 : decode cL_law 679 = .ok (.iconst 0, 1) := by decide +kernel
theorem dL_law_680 : decode cL_law 680 = .ok (.ireturn, 1) := by decide +kernel
theorem dL_law_681 : decode cL_law 681 = .ok (.iload 5, 2) := by decide +kernel
theorem dL_law_683 : decode cL_law 683 = .ok (.ifCond .ne 15, 3) := by decide +kernel
theorem dL_law_686 : decode cL_law 686 = .ok (.aload_n 3, 1) := by decide +kernel
theorem dL_law_687 : decode cL_law 687 = .ok (.iconst 0, 1) := by decide +kernel
theorem dL_law_688 : decode cL_law 688 = .ok (.laload, 1) := by decide +kernel
theorem dL_law_689 : decode cL_law 689 = .ok (.iload 6, 2) := by decide +kernel
theorem dL_law_691 : decode cL_law 691 = .ok (.i2l, 1) := by decide +kernel
theorem dL_law_692 : decode cL_law 692 = .ok (.lcmp, 1) := by decide +kernel
theorem dL_law_693 : decode cL_law 693 = .ok (.ifCond .eq 5, 3) := by decide +kernel
theorem dL_law_696 : decode cL_law 696 = .ok (.iconst 0, 1) := by decide +kernel
theorem dL_law_697 : decode cL_law 697 = .ok (.ireturn, 1) := by decide +kernel
theorem dL_law_698 : decode cL_law 698 = .ok (.goto 1279, 3) := by decide +kernel
theorem dL_law_701 : decode cL_law 701 = .ok (.aload_n 1, 1) := by decide +kernel
theorem dL_law_702 : decode cL_law 702 = .ok (.aload_n 0, 1) := by decide +kernel
theorem dL_law_703 : decode cL_law 703 = .ok (.iload 4, 2) := by decide +kernel
theorem dL_law_705 : decode cL_law 705 = .ok (.iconst 1, 1) := by decide +kernel
theorem dL_law_706 : decode cL_law 706 = .ok (.iadd, 1) := by decide +kernel
theorem dL_law_707 : decode cL_law 707 = .ok (.iaload, 1) := by decide +kernel
theorem dL_law_708 : decode cL_law 708 = .ok (.aload_n 0, 1) := by decide +kernel
theorem dL_law_709 : decode cL_law 709 = .ok (.iload 4, 2) := by decide +kernel
theorem dL_law_711 : decode cL_law 711 = .ok (.iconst 2, 1) := by decide +kernel
theorem dL_law_712 : decode cL_law 712 = .ok (.iadd, 1) := by decide +kernel
theorem dL_law_713 : decode cL_law 713 = .ok (.iaload, 1) := by decide +kernel
theorem dL_law_714 : decode cL_law 714 = .ok (.aload_n 3, 1) := by decide +kernel
theorem dL_law_715 : decode cL_law 715 = .ok (.invokestatic 129, 3) := by decide +kernel
theorem dL_law_718 : decode cL_law 718 = .ok (.istore 5, 2) := by decide +kernel
theorem dL_law_720 : decode cL_law 720 = .ok (.aload_n 2, 1) := by decide +kernel
theorem dL_law_721 : decode cL_law 721 = .ok (.aload_n 0, 1) := by decide +kernel
theorem dL_law_722 : decode cL_law 722 = .ok (.iload 4, 2) := by decide +kernel
theorem dL_law_724 : decode cL_law 724 = .ok (.iconst 1, 1) := by decide +kernel
theorem dL_law_725 : decode cL_law 725 = .ok (.iadd, 1) := by decide +kernel
theorem dL_law_726 : decode cL_law 726 = .ok (.iaload, 1) := by decide +kernel
theorem dL_law_727 : decode cL_law 727 = .ok (.aload_n 0, 1) := by decide +kernel
theorem dL_law_728 : decode cL_law 728 = .ok (.iload 4, 2) := by decide +kernel
theorem dL_law_730 : decode cL_law 730 = .ok (.iconst 2, 1) := by decide +kernel
theorem dL_law_731 : decode cL_law 731 = .ok (.iadd, 1) := by decide +kernel
theorem dL_law_732 : decode cL_law 732 = .ok (.iaload, 1) := by decide +kernel
theorem dL_law_733 : decode cL_law 733 = .ok (.invokevirtual 131, 3) := by decide +kernel
theorem dL_law_736 : decode cL_law 736 = .ok (.istore 6, 2) := by decide +kernel
theorem dL_law_738 : decode cL_law 738 = .ok (.aload_n 2, 1) := by decide +kernel
theorem dL_law_739 : decode cL_law 739 = .ok (.invokevirtual 102, 3) := by decide +kernel
theorem dL_law_742 : decode cL_law 742 = .ok (.iload 5, 2) := by decide +kernel
theorem dL_law_744 : decode cL_law 744 = .ok (.if_icmp .eq 5, 3) := by decide +kernel
theorem dL_law_747 : decode cL_law 747 = .ok (.iconst 0, 1) := by decide +kernel
theorem dL_law_748 : decode cL_law 748 = .ok (.ireturn, 1) := by decide +kernel
theorem dL_law_749 : decode cL_law 749 = .ok (.iload 5, 2) := by decide +kernel
theorem dL_law_751 : decode cL_law 751 = .ok (.ifCond .ne 15, 3) := by decide +kernel
theorem dL_law_754 : decode cL_law 754 = .ok (.aload_n 3, 1) := by decide +kernel
theorem dL_law_755 : decode cL_law 755 = .ok (.iconst 0, 1) := by decide +kernel
theorem dL_law_756 : decode cL_law 756 = .ok (.laload, 1) := by decide +kernel
theorem dL_law_757 : decode cL_law 757 = .ok (.iload 6, 2) := by decide +kernel
theorem dL_law_759 : decode cL_law 759 = .ok (.i2l, 1) := by decide +kernel
theorem dL_law_760 : decode cL_law 760 = .ok (.lcmp, 1) := by decide +kernel
theorem dL_law_761 : decode cL_law 761 = .ok (.ifCond .eq 5, 3) := by decide +kernel
theorem dL_law_764 : decode cL_law 764 = .ok (.iconst 0, 1) := by decide +kernel
theorem dL_law_765 : decode cL_law 765 = .ok (.ireturn, 1) := by decide +kernel
theorem dL_law_766 : decode cL_law 766 = .ok (.goto 1211, 3) := by decide +kernel
theorem dL_law_769 : decode cL_law 769 = .ok (.aload_n 1, 1) := by decide +kernel
theorem dL_law_770 : decode cL_law 770 = .ok (.aload_n 0, 1) := by decide +kernel
theorem dL_law_771 : decode cL_law 771 = .ok (.iload 4, 2) := by decide +kernel
theorem dL_law_773 : decode cL_law 773 = .ok (.iconst 1, 1) := by decide +kernel
theorem dL_law_774 : decode cL_law 774 = .ok (.iadd, 1) := by decide +kernel
theorem dL_law_775 : decode cL_law 775 = .ok (.iaload, 1) := by decide +kernel
theorem dL_law_776 : decode cL_law 776 = .ok (.aload_n 0, 1) := by decide +kernel
theorem dL_law_777 : decode cL_law 777 = .ok (.iload 4, 2) := by decide +kernel
theorem dL_law_779 : decode cL_law 779 = .ok (.iconst 2, 1) := by decide +kernel
theorem dL_law_780 : decode cL_law 780 = .ok (.iadd, 1) := by decide +kernel
theorem dL_law_781 : decode cL_law 781 = .ok (.iaload, 1) := by decide +kernel
theorem dL_law_782 : decode cL_law 782 = .ok (.ifCond .eq 7, 3) := by decide +kernel
theorem dL_law_785 : decode cL_law 785 = .ok (.iconst 1, 1) := by decide +kernel
theorem dL_law_786 : decode cL_law 786 = .ok (.goto 4, 3) := by decide +kernel
theorem dL_law_789 : decode cL_law 789 = .ok (.iconst 0, 1) := by decide +kernel
theorem dL_law_790 : decode cL_law 790 = .ok (.aload_n 3, 1) := by decide +kernel
theorem dL_law_791 : decode cL_law 791 = .ok (.invokestatic 132, 3) := by decide +kernel
theorem dL_law_794 : decode cL_law 794 = .ok (.istore 5, 2) := by decide +kernel
theorem dL_law_796 : decode cL_law 796 = .ok (.aload_n 2, 1) := by decide +kernel
theorem dL_law_797 : decode cL_law 797 = .ok (.aload_n 0, 1) := by decide +kernel
theorem dL_law_798 : decode cL_law 798 = .ok (.iload 4, 2) := by decide +kernel
theorem dL_law_800 : decode cL_law 800 = .ok (.iconst 1, 1) := by decide +kernel
theorem dL_law_801 : decode cL_law 801 = .ok (.iadd, 1) := by decide +kernel
theorem dL_law_802 : decode cL_law 802 = .ok (.iaload, 1) := by decide +kernel
theorem dL_law_803 : decode cL_law 803 = .ok (.aload_n 0, 1) := by decide +kernel
theorem dL_law_804 : decode cL_law 804 = .ok (.iload 4, 2) := by decide +kernel
theorem dL_law_806 : decode cL_law 806 = .ok (.iconst 2, 1) := by decide +kernel
theorem dL_law_807 : decode cL_law 807 = .ok (.iadd, 1) := by decide +kernel
theorem dL_law_808 : decode cL_law 808 = .ok (.iaload, 1) := by decide +kernel
theorem dL_law_809 : decode cL_law 809 = .ok (.ifCond .eq 7, 3) := by decide +kernel
theorem dL_law_812 : decode cL_law 812 = .ok (.iconst 1, 1) := by decide +kernel
theorem dL_law_813 : decode cL_law 813 = .ok (.goto 4, 3) := by decide +kernel
theorem dL_law_816 : decode cL_law 816 = .ok (.iconst 0, 1) := by decide +kernel
theorem dL_law_817 : decode cL_law 817 = .ok (.invokevirtual 135, 3) := by decide +kernel
theorem dL_law_820 : decode cL_law 820 = .ok (.istore 6, 2) := by decide +kernel
theorem dL_law_822 : decode cL_law 822 = .ok (.aload_n 2, 1) := by decide +kernel
theorem dL_law_823 : decode cL_law 823 = .ok (.invokevirtual 102, 3) := by decide +kernel
theorem dL_law_826 : decode cL_law 826 = .ok (.iload 5, 2) := by decide +kernel
theorem dL_law_828 : decode cL_law 828 = .ok (.if_icmp .eq 5, 3) := by decide +kernel
theorem dL_law_831 : decode cL_law 831 = .ok (.iconst 0, 1) := by decide +kernel
theorem dL_law_832 : decode cL_law 832 = .ok (.ireturn, 1) := by decide +kernel
theorem dL_law_833 : decode cL_law 833 = .ok (.iload 5, 2) := by decide +kernel
theorem dL_law_835 : decode cL_law 835 = .ok (.ifCond .ne 15, 3) := by decide +kernel
theorem dL_law_838 : decode cL_law 838 = .ok (.aload_n 3, 1) := by decide +kernel
theorem dL_law_839 : decode cL_law 839 = .ok (.iconst 0, 1) := by decide +kernel
theorem dL_law_840 : decode cL_law 840 = .ok (.laload, 1) := by decide +kernel
theorem dL_law_841 : decode cL_law 841 = .ok (.iload 6, 2) := by decide +kernel
theorem dL_law_843 : decode cL_law 843 = .ok (.i2l, 1) := by decide +kernel
theorem dL_law_844 : decode cL_law 844 = .ok (.lcmp, 1) := by decide +kernel
theorem dL_law_845 : decode cL_law 845 = .ok (.ifCond .eq 5, 3) := by decide +kernel
theorem dL_law_848 : decode cL_law 848 = .ok (.iconst 0, 1) := by decide +kernel
theorem dL_law_849 : decode cL_law 849 = .ok (.ireturn, 1) := by decide +kernel
theorem dL_law_850 : decode cL_law 850 = .ok (.goto 1127, 3) := by decide +kernel
theorem dL_law_853 : decode cL_law 853 = .ok (.aload_n 1, 1) := by decide +kernel
theorem dL_law_854 : decode cL_law 854 = .ok (.aload_n 0, 1) := by decide +kernel
theorem dL_law_855 : decode cL_law 855 = .ok (.iload 4, 2) := by decide +kernel
theorem dL_law_857 : decode cL_law 857 = .ok (.iconst 1, 1) := by decide +kernel
theorem dL_law_858 : decode cL_law 858 = .ok (.iadd, 1) := by decide +kernel
theorem dL_law_859 : decode cL_law 859 = .ok (.iaload, 1) := by decide +kernel
theorem dL_law_860 : decode cL_law 860 = .ok (.aload_n 0, 1) := by decide +kernel
theorem dL_law_861 : decode cL_law 861 = .ok (.iload 4, 2) := by decide +kernel
theorem dL_law_863 : decode cL_law 863 = .ok (.iconst 2, 1) := by decide +kernel
theorem dL_law_864 : decode cL_law 864 = .ok (.iadd, 1) := by decide +kernel
theorem dL_law_865 : decode cL_law 865 = .ok (.iaload, 1) := by decide +kernel
theorem dL_law_866 : decode cL_law 866 = .ok (.aload_n 3, 1) := by decide +kernel
theorem dL_law_867 : decode cL_law 867 = .ok (.invokestatic 136, 3) := by decide +kernel
theorem dL_law_870 : decode cL_law 870 = .ok (.istore 5, 2) := by decide +kernel
theorem dL_law_872 : decode cL_law 872 = .ok (.aload_n 2, 1) := by decide +kernel
theorem dL_law_873 : decode cL_law 873 = .ok (.aload_n 0, 1) := by decide +kernel
theorem dL_law_874 : decode cL_law 874 = .ok (.iload 4, 2) := by decide +kernel
theorem dL_law_876 : decode cL_law 876 = .ok (.iconst 1, 1) := by decide +kernel
theorem dL_law_877 : decode cL_law 877 = .ok (.iadd, 1) := by decide +kernel
theorem dL_law_878 : decode cL_law 878 = .ok (.iaload, 1) := by decide +kernel
theorem dL_law_879 : decode cL_law 879 = .ok (.aload_n 0, 1) := by decide +kernel
theorem dL_law_880 : decode cL_law 880 = .ok (.iload 4, 2) := by decide +kernel
theorem dL_law_882 : decode cL_law 882 = .ok (.iconst 2, 1) := by decide +kernel
theorem dL_law_883 : decode cL_law 883 = .ok (.iadd, 1) := by decide +kernel
theorem dL_law_884 : decode cL_law 884 = .ok (.iaload, 1) := by decide +kernel
theorem dL_law_885 : decode cL_law 885 = .ok (.invokevirtual 138, 3) := by decide +kernel
theorem dL_law_888 : decode cL_law 888 = .ok (.istore 6, 2) := by decide +kernel
theorem dL_law_890 : decode cL_law 890 = .ok (.aload_n 2, 1) := by decide +kernel
theorem dL_law_891 : decode cL_law 891 = .ok (.invokevirtual 102, 3) := by decide +kernel
theorem dL_law_894 : decode cL_law 894 = .ok (.iload 5, 2) := by decide +kernel
theorem dL_law_896 : decode cL_law 896 = .ok (.if_icmp .eq 5, 3) := by decide +kernel
theorem dL_law_899 : decode cL_law 899 = .ok (.iconst 0, 1) := by decide +kernel
theorem dL_law_900 : decode cL_law 900 = .ok (.ireturn, 1) := by decide +kernel
theorem dL_law_901 : decode cL_law 901 = .ok (.iload 5, 2) := by decide +kernel
theorem dL_law_903 : decode cL_law 903 = .ok (.ifCond .ne 15, 3) := by decide +kernel
theorem dL_law_906 : decode cL_law 906 = .ok (.aload_n 3, 1) := by decide +kernel
theorem dL_law_907 : decode cL_law 907 = .ok (.iconst 0, 1) := by decide +kernel
theorem dL_law_908 : decode cL_law 908 = .ok (.laload, 1) := by decide +kernel
theorem dL_law_909 : decode cL_law 909 = .ok (.iload 6, 2) := by decide +kernel
theorem dL_law_911 : decode cL_law 911 = .ok (.i2l, 1) := by decide +kernel
theorem dL_law_912 : decode cL_law 912 = .ok (.lcmp, 1) := by decide +kernel
theorem dL_law_913 : decode cL_law 913 = .ok (.ifCond .eq 5, 3) := by decide +kernel
theorem dL_law_916 : decode cL_law 916 = .ok (.iconst 0, 1) := by decide +kernel
theorem dL_law_917 : decode cL_law 917 = .ok (.ireturn, 1) := by decide +kernel
theorem dL_law_918 : decode cL_law 918 = .ok (.goto 1059, 3) := by decide +kernel
theorem dL_law_921 : decode cL_law 921 = .ok (.aload_n 1, 1) := by decide +kernel
theorem dL_law_922 : decode cL_law 922 = .ok (.aload_n 0, 1) := by decide +kernel
theorem dL_law_923 : decode cL_law 923 = .ok (.iload 4, 2) := by decide +kernel
theorem dL_law_925 : decode cL_law 925 = .ok (.iconst 1, 1) := by decide +kernel
theorem dL_law_926 : decode cL_law 926 = .ok (.iadd, 1) := by decide +kernel
theorem dL_law_927 : decode cL_law 927 = .ok (.iaload, 1) := by decide +kernel
theorem dL_law_928 : decode cL_law 928 = .ok (.aload_n 0, 1) := by decide +kernel
theorem dL_law_929 : decode cL_law 929 = .ok (.iload 4, 2) := by decide +kernel
theorem dL_law_931 : decode cL_law 931 = .ok (.iconst 2, 1) := by decide +kernel
theorem dL_law_932 : decode cL_law 932 = .ok (.iadd, 1) := by decide +kernel
theorem dL_law_933 : decode cL_law 933 = .ok (.iaload, 1) := by decide +kernel
theorem dL_law_934 : decode cL_law 934 = .ok (.aload_n 3, 1) := by decide +kernel
theorem dL_law_935 : decode cL_law 935 = .ok (.invokestatic 139, 3) := by decide +kernel
theorem dL_law_938 : decode cL_law 938 = .ok (.istore 5, 2) := by decide +kernel
theorem dL_law_940 : decode cL_law 940 = .ok (.aload_n 2, 1) := by decide +kernel
theorem dL_law_941 : decode cL_law 941 = .ok (.aload_n 0, 1) := by decide +kernel
theorem dL_law_942 : decode cL_law 942 = .ok (.iload 4, 2) := by decide +kernel
theorem dL_law_944 : decode cL_law 944 = .ok (.iconst 1, 1) := by decide +kernel
theorem dL_law_945 : decode cL_law 945 = .ok (.iadd, 1) := by decide +kernel
theorem dL_law_946 : decode cL_law 946 = .ok (.iaload, 1) := by decide +kernel
theorem dL_law_947 : decode cL_law 947 = .ok (.aload_n 0, 1) := by decide +kernel
theorem dL_law_948 : decode cL_law 948 = .ok (.iload 4, 2) := by decide +kernel
theorem dL_law_950 : decode cL_law 950 = .ok (.iconst 2, 1) := by decide +kernel
theorem dL_law_951 : decode cL_law 951 = .ok (.iadd, 1) := by decide +kernel
theorem dL_law_952 : decode cL_law 952 = .ok (.iaload, 1) := by decide +kernel
theorem dL_law_953 : decode cL_law 953 = .ok (.invokevirtual 141, 3) := by decide +kernel
theorem dL_law_956 : decode cL_law 956 = .ok (.istore 6, 2) := by decide +kernel
theorem dL_law_958 : decode cL_law 958 = .ok (.aload_n 2, 1) := by decide +kernel
theorem dL_law_959 : decode cL_law 959 = .ok (.invokevirtual 102, 3) := by decide +kernel
theorem dL_law_962 : decode cL_law 962 = .ok (.iload 5, 2) := by decide +kernel
theorem dL_law_964 : decode cL_law 964 = .ok (.if_icmp .eq 5, 3) := by decide +kernel
theorem dL_law_967 : decode cL_law 967 = .ok (.iconst 0, 1) := by decide +kernel
theorem dL_law_968 : decode cL_law 968 = .ok (.ireturn, 1) := by decide +kernel
theorem dL_law_969 : decode cL_law 969 = .ok (.iload 5, 2) := by decide +kernel
theorem dL_law_971 : decode cL_law 971 = .ok (.ifCond .ne 15, 3) := by decide +kernel
theorem dL_law_974 : decode cL_law 974 = .ok (.aload_n 3, 1) := by decide +kernel
theorem dL_law_975 : decode cL_law 975 = .ok (.iconst 0, 1) := by decide +kernel
theorem dL_law_976 : decode cL_law 976 = .ok (.laload, 1) := by decide +kernel
theorem dL_law_977 : decode cL_law 977 = .ok (.iload 6, 2) := by decide +kernel
theorem dL_law_979 : decode cL_law 979 = .ok (.i2l, 1) := by decide +kernel
theorem dL_law_980 : decode cL_law 980 = .ok (.lcmp, 1) := by decide +kernel
theorem dL_law_981 : decode cL_law 981 = .ok (.ifCond .eq 5, 3) := by decide +kernel
theorem dL_law_984 : decode cL_law 984 = .ok (.iconst 0, 1) := by decide +kernel
theorem dL_law_985 : decode cL_law 985 = .ok (.ireturn, 1) := by decide +kernel
theorem dL_law_986 : decode cL_law 986 = .ok (.goto 991, 3) := by decide +kernel
theorem dL_law_989 : decode cL_law 989 = .ok (.aload_n 1, 1) := by decide +kernel
theorem dL_law_990 : decode cL_law 990 = .ok (.aload_n 0, 1) := by decide +kernel
theorem dL_law_991 : decode cL_law 991 = .ok (.iload 4, 2) := by decide +kernel
theorem dL_law_993 : decode cL_law 993 = .ok (.iconst 1, 1) := by decide +kernel
theorem dL_law_994 : decode cL_law 994 = .ok (.iadd, 1) := by decide +kernel
theorem dL_law_995 : decode cL_law 995 = .ok (.iaload, 1) := by decide +kernel
theorem dL_law_996 : decode cL_law 996 = .ok (.aload_n 0, 1) := by decide +kernel
theorem dL_law_997 : decode cL_law 997 = .ok (.iload 4, 2) := by decide +kernel
theorem dL_law_999 : decode cL_law 999 = .ok (.iconst 2, 1) := by decide +kernel
theorem dL_law_1000 : decode cL_law 1000 = .ok (.iadd, 1) := by decide +kernel
theorem dL_law_1001 : decode cL_law 1001 = .ok (.iaload, 1) := by decide +kernel
theorem dL_law_1002 : decode cL_law 1002 = .ok (.aload_n 0, 1) := by decide +kernel
theorem dL_law_1003 : decode cL_law 1003 = .ok (.iload 4, 2) := by decide +kernel
theorem dL_law_1005 : decode cL_law 1005 = .ok (.iconst 3, 1) := by decide +kernel
theorem dL_law_1006 : decode cL_law 1006 = .ok (.iadd, 1) := by decide +kernel
theorem dL_law_1007 : decode cL_law 1007 = .ok (.iaload, 1) := by decide +kernel
theorem dL_law_1008 : decode cL_law 1008 = .ok (.aload_n 0, 1) := by decide +kernel
theorem dL_law_1009 : decode cL_law 1009 = .ok (.iload 4, 2) := by decide +kernel
theorem dL_law_1011 : decode cL_law 1011 = .ok (.iconst 4, 1) := by decide +kernel
theorem dL_law_1012 : decode cL_law 1012 = .ok (.iadd, 1) := by decide +kernel
theorem dL_law_1013 : decode cL_law 1013 = .ok (.iaload, 1) := by decide +kernel
theorem dL_law_1014 : decode cL_law 1014 = .ok (.aload_n 3, 1) := by decide +kernel
theorem dL_law_1015 : decode cL_law 1015 = .ok (.invokestatic 142, 3) := by decide +kernel
theorem dL_law_1018 : decode cL_law 1018 = .ok (.istore 5, 2) := by decide +kernel
theorem dL_law_1020 : decode cL_law 1020 = .ok (.aload_n 2, 1) := by decide +kernel
theorem dL_law_1021 : decode cL_law 1021 = .ok (.aload_n 0, 1) := by decide +kernel
theorem dL_law_1022 : decode cL_law 1022 = .ok (.iload 4, 2) := by decide +kernel
theorem dL_law_1024 : decode cL_law 1024 = .ok (.iconst 1, 1) := by decide +kernel
theorem dL_law_1025 : decode cL_law 1025 = .ok (.iadd, 1) := by decide +kernel
theorem dL_law_1026 : decode cL_law 1026 = .ok (.iaload, 1) := by decide +kernel
theorem dL_law_1027 : decode cL_law 1027 = .ok (.aload_n 0, 1) := by decide +kernel
theorem dL_law_1028 : decode cL_law 1028 = .ok (.iload 4, 2) := by decide +kernel
theorem dL_law_1030 : decode cL_law 1030 = .ok (.iconst 2, 1) := by decide +kernel
theorem dL_law_1031 : decode cL_law 1031 = .ok (.iadd, 1) := by decide +kernel
theorem dL_law_1032 : decode cL_law 1032 = .ok (.iaload, 1) := by decide +kernel
theorem dL_law_1033 : decode cL_law 1033 = .ok (.aload_n 0, 1) := by decide +kernel
theorem dL_law_1034 : decode cL_law 1034 = .ok (.iload 4, 2) := by decide +kernel
theorem dL_law_1036 : decode cL_law 1036 = .ok (.iconst 3, 1) := by decide +kernel
theorem dL_law_1037 : decode cL_law 1037 = .ok (.iadd, 1) := by decide +kernel
theorem dL_law_1038 : decode cL_law 1038 = .ok (.iaload, 1) := by decide +kernel
theorem dL_law_1039 : decode cL_law 1039 = .ok (.aload_n 0, 1) := by decide +kernel
theorem dL_law_1040 : decode cL_law 1040 = .ok (.iload 4, 2) := by decide +kernel
theorem dL_law_1042 : decode cL_law 1042 = .ok (.iconst 4, 1) := by decide +kernel
theorem dL_law_1043 : decode cL_law 1043 = .ok (.iadd, 1) := by decide +kernel
theorem dL_law_1044 : decode cL_law 1044 = .ok (.iaload, 1) := by decide +kernel
theorem dL_law_1045 : decode cL_law 1045 = .ok (.invokevirtual 144, 3) := by decide +kernel
theorem dL_law_1048 : decode cL_law 1048 = .ok (.istore 6, 2) := by decide +kernel
theorem dL_law_1050 : decode cL_law 1050 = .ok (.aload_n 2, 1) := by decide +kernel
theorem dL_law_1051 : decode cL_law 1051 = .ok (.invokevirtual 102, 3) := by decide +kernel
theorem dL_law_1054 : decode cL_law 1054 = .ok (.iload 5, 2) := by decide +kernel
theorem dL_law_1056 : decode cL_law 1056 = .ok (.if_icmp .eq 5, 3) := by decide +kernel
theorem dL_law_1059 : decode cL_law 1059 = .ok (.iconst 0, 1) := by decide +kernel
theorem dL_law_1060 : decode cL_law 1060 = .ok (.ireturn, 1) := by decide +kernel
theorem dL_law_1061 : decode cL_law 1061 = .ok (.iload 5, 2) := by decide +kernel
theorem dL_law_1063 : decode cL_law 1063 = .ok (.ifCond .ne 15, 3) := by decide +kernel
theorem dL_law_1066 : decode cL_law 1066 = .ok (.aload_n 3, 1) := by decide +kernel
theorem dL_law_1067 : decode cL_law 1067 = .ok (.iconst 0, 1) := by decide +kernel
theorem dL_law_1068 : decode cL_law 1068 = .ok (.laload, 1) := by decide +kernel
theorem dL_law_1069 : decode cL_law 1069 = .ok (.iload 6, 2) := by decide +kernel
theorem dL_law_1071 : decode cL_law 1071 = .ok (.i2l, 1) := by decide +kernel
theorem dL_law_1072 : decode cL_law 1072 = .ok (.lcmp, 1) := by decide +kernel
theorem dL_law_1073 : decode cL_law 1073 = .ok (.ifCond .eq 5, 3) := by decide +kernel
theorem dL_law_1076 : decode cL_law 1076 = .ok (.iconst 0, 1) := by decide +kernel
theorem dL_law_1077 : decode cL_law 1077 = .ok (.ireturn, 1) := by decide +kernel
theorem dL_law_1078 : decode cL_law 1078 = .ok (.goto 899, 3) := by decide +kernel
theorem dL_law_1081 : decode cL_law 1081 = .ok (.aload_n 1, 1) := by decide +kernel
theorem dL_law_1082 : decode cL_law 1082 = .ok (.aload_n 0, 1) := by decide +kernel
theorem dL_law_1083 : decode cL_law 1083 = .ok (.iload 4, 2) := by decide +kernel
theorem dL_law_1085 : decode cL_law 1085 = .ok (.iconst 1, 1) := by decide +kernel
theorem dL_law_1086 : decode cL_law 1086 = .ok (.iadd, 1) := by decide +kernel
theorem dL_law_1087 : decode cL_law 1087 = .ok (.iaload, 1) := by decide +kernel
theorem dL_law_1088 : decode cL_law 1088 = .ok (.aload_n 0, 1) := by decide +kernel
theorem dL_law_1089 : decode cL_law 1089 = .ok (.iload 4, 2) := by decide +kernel
theorem dL_law_1091 : decode cL_law 1091 = .ok (.iconst 2, 1) := by decide +kernel
theorem dL_law_1092 : decode cL_law 1092 = .ok (.iadd, 1) := by decide +kernel
theorem dL_law_1093 : decode cL_law 1093 = .ok (.iaload, 1) := by decide +kernel
theorem dL_law_1094 : decode cL_law 1094 = .ok (.aload_n 0, 1) := by decide +kernel
theorem dL_law_1095 : decode cL_law 1095 = .ok (.iload 4, 2) := by decide +kernel
theorem dL_law_1097 : decode cL_law 1097 = .ok (.iconst 3, 1) := by decide +kernel
theorem dL_law_1098 : decode cL_law 1098 = .ok (.iadd, 1) := by decide +kernel
theorem dL_law_1099 : decode cL_law 1099 = .ok (.iaload, 1) := by decide +kernel
theorem dL_law_1100 : decode cL_law 1100 = .ok (.aload_n 3, 1) := by decide +kernel
theorem dL_law_1101 : decode cL_law 1101 = .ok (.invokestatic 145, 3) := by decide +kernel
theorem dL_law_1104 : decode cL_law 1104 = .ok (.istore 5, 2) := by decide +kernel
theorem dL_law_1106 : decode cL_law 1106 = .ok (.aload_n 2, 1) := by decide +kernel
theorem dL_law_1107 : decode cL_law 1107 = .ok (.aload_n 0, 1) := by decide +kernel
theorem dL_law_1108 : decode cL_law 1108 = .ok (.iload 4, 2) := by decide +kernel
theorem dL_law_1110 : decode cL_law 1110 = .ok (.iconst 1, 1) := by decide +kernel
theorem dL_law_1111 : decode cL_law 1111 = .ok (.iadd, 1) := by decide +kernel
theorem dL_law_1112 : decode cL_law 1112 = .ok (.iaload, 1) := by decide +kernel
theorem dL_law_1113 : decode cL_law 1113 = .ok (.aload_n 0, 1) := by decide +kernel
theorem dL_law_1114 : decode cL_law 1114 = .ok (.iload 4, 2) := by decide +kernel
theorem dL_law_1116 : decode cL_law 1116 = .ok (.iconst 2, 1) := by decide +kernel
theorem dL_law_1117 : decode cL_law 1117 = .ok (.iadd, 1) := by decide +kernel
theorem dL_law_1118 : decode cL_law 1118 = .ok (.iaload, 1) := by decide +kernel
theorem dL_law_1119 : decode cL_law 1119 = .ok (.aload_n 0, 1) := by decide +kernel
theorem dL_law_1120 : decode cL_law 1120 = .ok (.iload 4, 2) := by decide +kernel
theorem dL_law_1122 : decode cL_law 1122 = .ok (.iconst 3, 1) := by decide +kernel
theorem dL_law_1123 : decode cL_law 1123 = .ok (.iadd, 1) := by decide +kernel
theorem dL_law_1124 : decode cL_law 1124 = .ok (.iaload, 1) := by decide +kernel
theorem dL_law_1125 : decode cL_law 1125 = .ok (.invokevirtual 147, 3) := by decide +kernel
theorem dL_law_1128 : decode cL_law 1128 = .ok (.istore 6, 2) := by decide +kernel
theorem dL_law_1130 : decode cL_law 1130 = .ok (.aload_n 2, 1) := by decide +kernel
theorem dL_law_1131 : decode cL_law 1131 = .ok (.invokevirtual 102, 3) := by decide +kernel
theorem dL_law_1134 : decode cL_law 1134 = .ok (.iload 5, 2) := by decide +kernel
theorem dL_law_1136 : decode cL_law 1136 = .ok (.if_icmp .eq 5, 3) := by decide +kernel
theorem dL_law_1139 : decode cL_law 1139 = .ok (.iconst 0, 1) := by decide +kernel
theorem dL_law_1140 : decode cL_law 1140 = .ok (.ireturn, 1) := by decide +kernel
theorem dL_law_1141 : decode cL_law 1141 = .ok (.iload 5, 2) := by decide +kernel
theorem dL_law_1143 : decode cL_law 1143 = .ok (.ifCond .ne 15, 3) := by decide +kernel
theorem dL_law_1146 : decode cL_law 1146 = .ok (.aload_n 3, 1) := by decide +kernel
theorem dL_law_1147 : decode cL_law 1147 = .ok (.iconst 0, 1) := by decide +kernel
theorem dL_law_1148 : decode cL_law 1148 = .ok (.laload, 1) := by decide +kernel
theorem dL_law_1149 : decode cL_law 1149 = .ok (.iload 6, 2) := by decide +kernel
theorem dL_law_1151 : decode cL_law 1151 = .ok (.i2l, 1) := by decide +kernel
theorem dL_law_1152 : decode cL_law 1152 = .ok (.lcmp, 1) := by decide +kernel
theorem dL_law_1153 : decode cL_law 1153 = .ok (.ifCond .eq 5, 3) := by decide +kernel
theorem dL_law_1156 : decode cL_law 1156 = .ok (.iconst 0, 1) := by decide +kernel
theorem dL_law_1157 : decode cL_law 1157 = .ok (.ireturn, 1) := by decide +kernel
theorem dL_law_1158 : decode cL_law 1158 = .ok (.goto 819, 3) := by decide +kernel
theorem dL_law_1161 : decode cL_law 1161 = .ok (.aload_n 1, 1) := by decide +kernel
theorem dL_law_1162 : decode cL_law 1162 = .ok (.aload_n 0, 1) := by decide +kernel
theorem dL_law_1163 : decode cL_law 1163 = .ok (.iload 4, 2) := by decide +kernel
theorem dL_law_1165 : decode cL_law 1165 = .ok (.iconst 1, 1) := by decide +kernel
theorem dL_law_1166 : decode cL_law 1166 = .ok (.iadd, 1) := by decide +kernel
theorem dL_law_1167 : decode cL_law 1167 = .ok (.iaload, 1) := by decide +kernel
theorem dL_law_1168 : decode cL_law 1168 = .ok (.aload_n 0, 1) := by decide +kernel
theorem dL_law_1169 : decode cL_law 1169 = .ok (.iload 4, 2) := by decide +kernel
theorem dL_law_1171 : decode cL_law 1171 = .ok (.iconst 2, 1) := by decide +kernel
theorem dL_law_1172 : decode cL_law 1172 = .ok (.iadd, 1) := by decide +kernel
theorem dL_law_1173 : decode cL_law 1173 = .ok (.iaload, 1) := by decide +kernel
theorem dL_law_1174 : decode cL_law 1174 = .ok (.aload_n 0, 1) := by decide +kernel
theorem dL_law_1175 : decode cL_law 1175 = .ok (.iload 4, 2) := by decide +kernel
theorem dL_law_1177 : decode cL_law 1177 = .ok (.iconst 3, 1) := by decide +kernel
theorem dL_law_1178 : decode cL_law 1178 = .ok (.iadd, 1) := by decide +kernel
theorem dL_law_1179 : decode cL_law 1179 = .ok (.iaload, 1) := by decide +kernel
theorem dL_law_1180 : decode cL_law 1180 = .ok (.aload_n 0, 1) := by decide +kernel
theorem dL_law_1181 : decode cL_law 1181 = .ok (.iload 4, 2) := by decide +kernel
theorem dL_law_1183 : decode cL_law 1183 = .ok (.iconst 4, 1) := by decide +kernel
theorem dL_law_1184 : decode cL_law 1184 = .ok (.iadd, 1) := by decide +kernel
theorem dL_law_1185 : decode cL_law 1185 = .ok (.iaload, 1) := by decide +kernel
theorem dL_law_1186 : decode cL_law 1186 = .ok (.aload_n 3, 1) := by decide +kernel
theorem dL_law_1187 : decode cL_law 1187 = .ok (.invokestatic 148, 3) := by decide +kernel
theorem dL_law_1190 : decode cL_law 1190 = .ok (.istore 5, 2) := by decide +kernel
theorem dL_law_1192 : decode cL_law 1192 = .ok (.aload_n 2, 1) := by decide +kernel
theorem dL_law_1193 : decode cL_law 1193 = .ok (.aload_n 0, 1) := by decide +kernel
theorem dL_law_1194 : decode cL_law 1194 = .ok (.iload 4, 2) := by decide +kernel
theorem dL_law_1196 : decode cL_law 1196 = .ok (.iconst 1, 1) := by decide +kernel
theorem dL_law_1197 : decode cL_law 1197 = .ok (.iadd, 1) := by decide +kernel
theorem dL_law_1198 : decode cL_law 1198 = .ok (.iaload, 1) := by decide +kernel
theorem dL_law_1199 : decode cL_law 1199 = .ok (.aload_n 0, 1) := by decide +kernel
theorem dL_law_1200 : decode cL_law 1200 = .ok (.iload 4, 2) := by decide +kernel
theorem dL_law_1202 : decode cL_law 1202 = .ok (.iconst 2, 1) := by decide +kernel
theorem dL_law_1203 : decode cL_law 1203 = .ok (.iadd, 1) := by decide +kernel
theorem dL_law_1204 : decode cL_law 1204 = .ok (.iaload, 1) := by decide +kernel
theorem dL_law_1205 : decode cL_law 1205 = .ok (.aload_n 0, 1) := by decide +kernel
theorem dL_law_1206 : decode cL_law 1206 = .ok (.iload 4, 2) := by decide +kernel
theorem dL_law_1208 : decode cL_law 1208 = .ok (.iconst 3, 1) := by decide +kernel
theorem dL_law_1209 : decode cL_law 1209 = .ok (.iadd, 1) := by decide +kernel
theorem dL_law_1210 : decode cL_law 1210 = .ok (.iaload, 1) := by decide +kernel
theorem dL_law_1211 : decode cL_law 1211 = .ok (.aload_n 0, 1) := by decide +kernel
theorem dL_law_1212 : decode cL_law 1212 = .ok (.iload 4, 2) := by decide +kernel
theorem dL_law_1214 : decode cL_law 1214 = .ok (.iconst 4, 1) := by decide +kernel
theorem dL_law_1215 : decode cL_law 1215 = .ok (.iadd, 1) := by decide +kernel
theorem dL_law_1216 : decode cL_law 1216 = .ok (.iaload, 1) := by decide +kernel
theorem dL_law_1217 : decode cL_law 1217 = .ok (.invokevirtual 150, 3) := by decide +kernel
theorem dL_law_1220 : decode cL_law 1220 = .ok (.istore 6, 2) := by decide +kernel
theorem dL_law_1222 : decode cL_law 1222 = .ok (.aload_n 2, 1) := by decide +kernel
theorem dL_law_1223 : decode cL_law 1223 = .ok (.invokevirtual 102, 3) := by decide +kernel
theorem dL_law_1226 : decode cL_law 1226 = .ok (.iload 5, 2) := by decide +kernel
theorem dL_law_1228 : decode cL_law 1228 = .ok (.if_icmp .eq 5, 3) := by decide +kernel
theorem dL_law_1231 : decode cL_law 1231 = .ok (.iconst 0, 1) := by decide +kernel
theorem dL_law_1232 : decode cL_law 1232 = .ok (.ireturn, 1) := by decide +kernel
theorem dL_law_1233 : decode cL_law 1233 = .ok (.iload 5, 2) := by decide +kernel
theorem dL_law_1235 : decode cL_law 1235 = .ok (.ifCond .ne 22, 3) := by decide +kernel
theorem dL_law_1238 : decode cL_law 1238 = .ok (.aload_n 3, 1) := by decide +kernel
theorem dL_law_1239 : decode cL_law 1239 = .ok (.iconst 0, 1) := by decide +kernel
theorem dL_law_1240 : decode cL_law 1240 = .ok (.laload, 1) := by decide +kernel
theorem dL_law_1241 : decode cL_law 1241 = .ok (.iload 6, 2) := by decide +kernel
theorem dL_law_1243 : decode cL_law 1243 = .ok (.ifCond .eq 7, 3) := by decide +kernel
theorem dL_law_1246 : decode cL_law 1246 = .ok (.lconst 1, 1) := by decide +kernel
theorem dL_law_1247 : decode cL_law 1247 = .ok (.goto 4, 3) := by decide +kernel
theorem dL_law_1250 : decode cL_law 1250 = .ok (.lconst 0, 1) := by decide +kernel
theorem dL_law_1251 : decode cL_law 1251 = .ok (.lcmp, 1) := by decide +kernel
theorem dL_law_1252 : decode cL_law 1252 = .ok (.ifCond .eq 5, 3) := by decide +kernel
theorem dL_law_1255 : decode cL_law 1255 = .ok (.iconst 0, 1) := by decide +kernel
theorem dL_law_1256 : decode cL_law 1256 = .ok (.ireturn, 1) := by decide +kernel
theorem dL_law_1257 : decode cL_law 1257 = .ok (.goto 720, 3) := by decide +kernel
theorem dL_law_1260 : decode cL_law 1260 = .ok (.aload_n 1, 1) := by decide +kernel
theorem dL_law_1261 : decode cL_law 1261 = .ok (.aload_n 3, 1) := by decide +kernel
theorem dL_law_1262 : decode cL_law 1262 = .ok (.invokestatic 151, 3) := by decide +kernel
theorem dL_law_1265 : decode cL_law 1265 = .ok (.istore 5, 2) := by decide +kernel
theorem dL_law_1267 : decode cL_law 1267 = .ok (.aload_n 2, 1) := by decide +kernel
theorem dL_law_1268 : decode cL_law 1268 = .ok (.invokevirtual 153, 3) := by decide +kernel
theorem dL_law_1271 : decode cL_law 1271 = .ok (.istore 6, 2) := by decide +kernel
theorem dL_law_1273 : decode cL_law 1273 = .ok (.aload_n 2, 1) := by decide +kernel
theorem dL_law_1274 : decode cL_law 1274 = .ok (.invokevirtual 102, 3) := by decide +kernel
theorem dL_law_1277 : decode cL_law 1277 = .ok (.iload 5, 2) := by decide +kernel
theorem dL_law_1279 : decode cL_law 1279 = .ok (.if_icmp .eq 5, 3) := by decide +kernel
theorem dL_law_1282 : decode cL_law 1282 = .ok (.iconst 0, 1) := by decide +kernel
theorem dL_law_1283 : decode cL_law 1283 = .ok (.ireturn, 1) := by decide +kernel
theorem dL_law_1284 : decode cL_law 1284 = .ok (.iload 5, 2) := by decide +kernel
theorem dL_law_1286 : decode cL_law 1286 = .ok (.ifCond .ne 15, 3) := by decide +kernel
theorem dL_law_1289 : decode cL_law 1289 = .ok (.aload_n 3, 1) := by decide +kernel
theorem dL_law_1290 : decode cL_law 1290 = .ok (.iconst 0, 1) := by decide +kernel
theorem dL_law_1291 : decode cL_law 1291 = .ok (.laload, 1) := by decide +kernel
theorem dL_law_1292 : decode cL_law 1292 = .ok (.iload 6, 2) := by decide +kernel
theorem dL_law_1294 : decode cL_law 1294 = .ok (.i2l, 1) := by decide +kernel
theorem dL_law_1295 : decode cL_law 1295 = .ok (.lcmp, 1) := by decide +kernel
theorem dL_law_1296 : decode cL_law 1296 = .ok (.ifCond .eq 5, 3) := by decide +kernel
theorem dL_law_1299 : decode cL_law 1299 = .ok (.iconst 0, 1) := by decide +kernel
theorem dL_law_1300 : decode cL_law 1300 = .ok (.ireturn, 1) := by decide +kernel
theorem dL_law_1301 : decode cL_law 1301 = .ok (.goto 676, 3) := by decide +kernel
theorem dL_law_1304 : decode cL_law 1304 = .ok (.aload_n 1, 1) := by decide +kernel
theorem dL_law_1305 : decode cL_law 1305 = .ok (.aload_n 0, 1) := by decide +kernel
theorem dL_law_1306 : decode cL_law 1306 = .ok (.iload 4, 2) := by decide +kernel
theorem dL_law_1308 : decode cL_law 1308 = .ok (.iconst 1, 1) := by decide +kernel
theorem dL_law_1309 : decode cL_law 1309 = .ok (.iadd, 1) := by decide +kernel
theorem dL_law_1310 : decode cL_law 1310 = .ok (.iaload, 1) := by decide +kernel
theorem dL_law_1311 : decode cL_law 1311 = .ok (.aload_n 3, 1) := by decide +kernel
theorem dL_law_1312 : decode cL_law 1312 = .ok (.invokestatic 154, 3) := by decide +kernel
theorem dL_law_1315 : decode cL_law 1315 = .ok (.istore 5, 2) := by decide +kernel
theorem dL_law_1317 : decode cL_law 1317 = .ok (.aload_n 2, 1) := by decide +kernel
theorem dL_law_1318 : decode cL_law 1318 = .ok (.aload_n 0, 1) := by decide +kernel
theorem dL_law_1319 : decode cL_law 1319 = .ok (.iload 4, 2) := by decide +kernel
theorem dL_law_1321 : decode cL_law 1321 = .ok (.iconst 1, 1) := by decide +kernel
theorem dL_law_1322 : decode cL_law 1322 = .ok (.iadd, 1) := by decide +kernel
theorem dL_law_1323 : decode cL_law 1323 = .ok (.iaload, 1) := by decide +kernel
theorem dL_law_1324 : decode cL_law 1324 = .ok (.invokevirtual 157, 3) := by decide +kernel
theorem dL_law_1327 : decode cL_law 1327 = .ok (.istore 6, 2) := by decide +kernel
theorem dL_law_1329 : decode cL_law 1329 = .ok (.aload_n 2, 1) := by decide +kernel
theorem dL_law_1330 : decode cL_law 1330 = .ok (.invokevirtual 102, 3) := by decide +kernel
theorem dL_law_1333 : decode cL_law 1333 = .ok (.iload 5, 2) := by decide +kernel
theorem dL_law_1335 : decode cL_law 1335 = .ok (.if_icmp .eq 5, 3) := by decide +kernel
theorem dL_law_1338 : decode cL_law 1338 = .ok (.iconst 0, 1) := by decide +kernel
theorem dL_law_1339 : decode cL_law 1339 = .ok (.ireturn, 1) := by decide +kernel
theorem dL_law_1340 : decode cL_law 1340 = .ok (.iload 5, 2) := by decide +kernel
theorem dL_law_1342 : decode cL_law 1342 = .ok (.ifCond .ne 15, 3) := by decide +kernel
theorem dL_law_1345 : decode cL_law 1345 = .ok (.aload_n 3, 1) := by decide +kernel
theorem dL_law_1346 : decode cL_law 1346 = .ok (.iconst 0, 1) := by decide +kernel
theorem dL_law_1347 : decode cL_law 1347 = .ok (.laload, 1) := by decide +kernel
theorem dL_law_1348 : decode cL_law 1348 = .ok (.iload 6, 2) := by decide +kernel
theorem dL_law_1350 : decode cL_law 1350 = .ok (.i2l, 1) := by decide +kernel
theorem dL_law_1351 : decode cL_law 1351 = .ok (.lcmp, 1) := by decide +kernel
theorem dL_law_1352 : decode cL_law 1352 = .ok (.ifCond .eq 5, 3) := by decide +kernel
theorem dL_law_1355 : decode cL_law 1355 = .ok (.iconst 0, 1) := by decide +kernel
theorem dL_law_1356 : decode cL_law 1356 = .ok (.ireturn, 1) := by decide +kernel
theorem dL_law_1357 : decode cL_law 1357 = .ok (.goto 620, 3) := by decide +kernel
theorem dL_law_1360 : decode cL_law 1360 = .ok (.aload_n 1, 1) := by decide +kernel
theorem dL_law_1361 : decode cL_law 1361 = .ok (.aload_n 0, 1) := by decide +kernel
theorem dL_law_1362 : decode cL_law 1362 = .ok (.iload 4, 2) := by decide +kernel
theorem dL_law_1364 : decode cL_law 1364 = .ok (.iconst 1, 1) := by decide +kernel
theorem dL_law_1365 : decode cL_law 1365 = .ok (.iadd, 1) := by decide +kernel
theorem dL_law_1366 : decode cL_law 1366 = .ok (.iaload, 1) := by decide +kernel
theorem dL_law_1367 : decode cL_law 1367 = .ok (.aload_n 0, 1) := by decide +kernel
theorem dL_law_1368 : decode cL_law 1368 = .ok (.iload 4, 2) := by decide +kernel
theorem dL_law_1370 : decode cL_law 1370 = .ok (.iconst 2, 1) := by decide +kernel
theorem dL_law_1371 : decode cL_law 1371 = .ok (.iadd, 1) := by decide +kernel
theorem dL_law_1372 : decode cL_law 1372 = .ok (.iaload, 1) := by decide +kernel
theorem dL_law_1373 : decode cL_law 1373 = .ok (.aload_n 3, 1) := by decide +kernel
theorem dL_law_1374 : decode cL_law 1374 = .ok (.invokestatic 158, 3) := by decide +kernel
theorem dL_law_1377 : decode cL_law 1377 = .ok (.istore 5, 2) := by decide +kernel
theorem dL_law_1379 : decode cL_law 1379 = .ok (.aload_n 2, 1) := by decide +kernel
theorem dL_law_1380 : decode cL_law 1380 = .ok (.aload_n 0, 1) := by decide +kernel
theorem dL_law_1381 : decode cL_law 1381 = .ok (.iload 4, 2) := by decide +kernel
theorem dL_law_1383 : decode cL_law 1383 = .ok (.iconst 1, 1) := by decide +kernel
theorem dL_law_1384 : decode cL_law 1384 = .ok (.iadd, 1) := by decide +kernel
theorem dL_law_1385 : decode cL_law 1385 = .ok (.iaload, 1) := by decide +kernel
theorem dL_law_1386 : decode cL_law 1386 = .ok (.aload_n 0, 1) := by decide +kernel
theorem dL_law_1387 : decode cL_law 1387 = .ok (.iload 4, 2) := by decide +kernel
theorem dL_law_1389 : decode cL_law 1389 = .ok (.iconst 2, 1) := by decide +kernel
theorem dL_law_1390 : decode cL_law 1390 = .ok (.iadd, 1) := by decide +kernel
theorem dL_law_1391 : decode cL_law 1391 = .ok (.iaload, 1) := by decide +kernel
theorem dL_law_1392 : decode cL_law 1392 = .ok (.invokevirtual 160, 3) := by decide +kernel
theorem dL_law_1395 : decode cL_law 1395 = .ok (.istore 6, 2) := by decide +kernel
theorem dL_law_1397 : decode cL_law 1397 = .ok (.aload_n 2, 1) := by decide +kernel
theorem dL_law_1398 : decode cL_law 1398 = .ok (.invokevirtual 102, 3) := by decide +kernel
theorem dL_law_1401 : decode cL_law 1401 = .ok (.iload 5, 2) := by decide +kernel
theorem dL_law_1403 : decode cL_law 1403 = .ok (.if_icmp .eq 5, 3) := by decide +kernel
theorem dL_law_1406 : decode cL_law 1406 = .ok (.iconst 0, 1) := by decide +kernel
theorem dL_law_1407 : decode cL_law 1407 = .ok (.ireturn, 1) := by decide +kernel
theorem dL_law_1408 : decode cL_law 1408 = .ok (.iload 5, 2) := by decide +kernel
theorem dL_law_1410 : decode cL_law 1410 = .ok (.ifCond .ne 15, 3) := by decide +kernel
theorem dL_law_1413 : decode cL_law 1413 = .ok (.aload_n 3, 1) := by decide +kernel
theorem dL_law_1414 : decode cL_law 1414 = .ok (.iconst 0, 1) := by decide +kernel
theorem dL_law_1415 : decode cL_law 1415 = .ok (.laload, 1) := by decide +kernel
theorem dL_law_1416 : decode cL_law 1416 = .ok (.iload 6, 2) := by decide +kernel
theorem dL_law_1418 : decode cL_law 1418 = .ok (.i2l, 1) := by decide +kernel
theorem dL_law_1419 : decode cL_law 1419 = .ok (.lcmp, 1) := by decide +kernel
theorem dL_law_1420 : decode cL_law 1420 = .ok (.ifCond .eq 5, 3) := by decide +kernel
theorem dL_law_1423 : decode cL_law 1423 = .ok (.iconst 0, 1) := by decide +kernel
theorem dL_law_1424 : decode cL_law 1424 = .ok (.ireturn, 1) := by decide +kernel
theorem dL_law_1425 : decode cL_law 1425 = .ok (.goto 552, 3) := by decide +kernel
theorem dL_law_1428 : decode cL_law 1428 = .ok (.aload_n 1, 1) := by decide +kernel
theorem dL_law_1429 : decode cL_law 1429 = .ok (.aload_n 0, 1) := by decide +kernel
theorem dL_law_1430 : decode cL_law 1430 = .ok (.iload 4, 2) := by decide +kernel
theorem dL_law_1432 : decode cL_law 1432 = .ok (.iconst 1, 1) := by decide +kernel
theorem dL_law_1433 : decode cL_law 1433 = .ok (.iadd, 1) := by decide +kernel
theorem dL_law_1434 : decode cL_law 1434 = .ok (.iaload, 1) := by decide +kernel
theorem dL_law_1435 : decode cL_law 1435 = .ok (.aload_n 0, 1) := by decide +kernel
theorem dL_law_1436 : decode cL_law 1436 = .ok (.iload 4, 2) := by decide +kernel
theorem dL_law_1438 : decode cL_law 1438 = .ok (.iconst 2, 1) := by decide +kernel
theorem dL_law_1439 : decode cL_law 1439 = .ok (.iadd, 1) := by decide +kernel
theorem dL_law_1440 : decode cL_law 1440 = .ok (.iaload, 1) := by decide +kernel
theorem dL_law_1441 : decode cL_law 1441 = .ok (.aload_n 3, 1) := by decide +kernel
theorem dL_law_1442 : decode cL_law 1442 = .ok (.invokestatic 161, 3) := by decide +kernel
theorem dL_law_1445 : decode cL_law 1445 = .ok (.istore 5, 2) := by decide +kernel
theorem dL_law_1447 : decode cL_law 1447 = .ok (.aload_n 2, 1) := by decide +kernel
theorem dL_law_1448 : decode cL_law 1448 = .ok (.aload_n 0, 1) := by decide +kernel
theorem dL_law_1449 : decode cL_law 1449 = .ok (.iload 4, 2) := by decide +kernel
theorem dL_law_1451 : decode cL_law 1451 = .ok (.iconst 1, 1) := by decide +kernel
theorem dL_law_1452 : decode cL_law 1452 = .ok (.iadd, 1) := by decide +kernel
theorem dL_law_1453 : decode cL_law 1453 = .ok (.iaload, 1) := by decide +kernel
theorem dL_law_1454 : decode cL_law 1454 = .ok (.aload_n 0, 1) := by decide +kernel
theorem dL_law_1455 : decode cL_law 1455 = .ok (.iload 4, 2) := by decide +kernel
theorem dL_law_1457 : decode cL_law 1457 = .ok (.iconst 2, 1) := by decide +kernel
theorem dL_law_1458 : decode cL_law 1458 = .ok (.iadd, 1) := by decide +kernel
theorem dL_law_1459 : decode cL_law 1459 = .ok (.iaload, 1) := by decide +kernel
theorem dL_law_1460 : decode cL_law 1460 = .ok (.invokevirtual 163, 3) := by decide +kernel
theorem dL_law_1463 : decode cL_law 1463 = .ok (.istore 6, 2) := by decide +kernel
theorem dL_law_1465 : decode cL_law 1465 = .ok (.aload_n 2, 1) := by decide +kernel
theorem dL_law_1466 : decode cL_law 1466 = .ok (.invokevirtual 102, 3) := by decide +kernel
theorem dL_law_1469 : decode cL_law 1469 = .ok (.iload 5, 2) := by decide +kernel
theorem dL_law_1471 : decode cL_law 1471 = .ok (.if_icmp .eq 5, 3) := by decide +kernel
theorem dL_law_1474 : decode cL_law 1474 = .ok (.iconst 0, 1) := by decide +kernel
theorem dL_law_1475 : decode cL_law 1475 = .ok (.ireturn, 1) := by decide +kernel
theorem dL_law_1476 : decode cL_law 1476 = .ok (.iload 5, 2) := by decide +kernel
theorem dL_law_1478 : decode cL_law 1478 = .ok (.ifCond .ne 15, 3) := by decide +kernel
theorem dL_law_1481 : decode cL_law 1481 = .ok (.aload_n 3, 1) := by decide +kernel
theorem dL_law_1482 : decode cL_law 1482 = .ok (.iconst 0, 1) := by decide +kernel
theorem dL_law_1483 : decode cL_law 1483 = .ok (.laload, 1) := by decide +kernel
theorem dL_law_1484 : decode cL_law 1484 = .ok (.iload 6, 2) := by decide +kernel
theorem dL_law_1486 : decode cL_law 1486 = .ok (.i2l, 1) := by decide +kernel
theorem dL_law_1487 : decode cL_law 1487 = .ok (.lcmp, 1) := by decide +kernel
theorem dL_law_1488 : decode cL_law 1488 = .ok (.ifCond .eq 5, 3) := by decide +kernel
theorem dL_law_1491 : decode cL_law 1491 = .ok (.iconst 0, 1) := by decide +kernel
theorem dL_law_1492 : decode cL_law 1492 = .ok (.ireturn, 1) := by decide +kernel
theorem dL_law_1493 : decode cL_law 1493 = .ok (.goto 484, 3) := by decide +kernel
theorem dL_law_1496 : decode cL_law 1496 = .ok (.aload_n 1, 1) := by decide +kernel
theorem dL_law_1497 : decode cL_law 1497 = .ok (.aload_n 0, 1) := by decide +kernel
theorem dL_law_1498 : decode cL_law 1498 = .ok (.iload 4, 2) := by decide +kernel
theorem dL_law_1500 : decode cL_law 1500 = .ok (.iconst 1, 1) := by decide +kernel
theorem dL_law_1501 : decode cL_law 1501 = .ok (.iadd, 1) := by decide +kernel
theorem dL_law_1502 : decode cL_law 1502 = .ok (.iaload, 1) := by decide +kernel
theorem dL_law_1503 : decode cL_law 1503 = .ok (.aload_n 0, 1) := by decide +kernel
theorem dL_law_1504 : decode cL_law 1504 = .ok (.iload 4, 2) := by decide +kernel
theorem dL_law_1506 : decode cL_law 1506 = .ok (.iconst 2, 1) := by decide +kernel
theorem dL_law_1507 : decode cL_law 1507 = .ok (.iadd, 1) := by decide +kernel
theorem dL_law_1508 : decode cL_law 1508 = .ok (.iaload, 1) := by decide +kernel
theorem dL_law_1509 : decode cL_law 1509 = .ok (.aload_n 0, 1) := by decide +kernel
theorem dL_law_1510 : decode cL_law 1510 = .ok (.iload 4, 2) := by decide +kernel
theorem dL_law_1512 : decode cL_law 1512 = .ok (.iconst 3, 1) := by decide +kernel
theorem dL_law_1513 : decode cL_law 1513 = .ok (.iadd, 1) := by decide +kernel
theorem dL_law_1514 : decode cL_law 1514 = .ok (.iaload, 1) := by decide +kernel
theorem dL_law_1515 : decode cL_law 1515 = .ok (.aload_n 3, 1) := by decide +kernel
theorem dL_law_1516 : decode cL_law 1516 = .ok (.invokestatic 164, 3) := by decide +kernel
theorem dL_law_1519 : decode cL_law 1519 = .ok (.istore 5, 2) := by decide +kernel
theorem dL_law_1521 : decode cL_law 1521 = .ok (.aload_n 2, 1) := by decide +kernel
theorem dL_law_1522 : decode cL_law 1522 = .ok (.aload_n 0, 1) := by decide +kernel
theorem dL_law_1523 : decode cL_law 1523 = .ok (.iload 4, 2) := by decide +kernel
theorem dL_law_1525 : decode cL_law 1525 = .ok (.iconst 1, 1) := by decide +kernel
theorem dL_law_1526 : decode cL_law 1526 = .ok (.iadd, 1) := by decide +kernel
theorem dL_law_1527 : decode cL_law 1527 = .ok (.iaload, 1) := by decide +kernel
theorem dL_law_1528 : decode cL_law 1528 = .ok (.aload_n 0, 1) := by decide +kernel
theorem dL_law_1529 : decode cL_law 1529 = .ok (.iload 4, 2) := by decide +kernel
theorem dL_law_1531 : decode cL_law 1531 = .ok (.iconst 2, 1) := by decide +kernel
theorem dL_law_1532 : decode cL_law 1532 = .ok (.iadd, 1) := by decide +kernel
theorem dL_law_1533 : decode cL_law 1533 = .ok (.iaload, 1) := by decide +kernel
theorem dL_law_1534 : decode cL_law 1534 = .ok (.aload_n 0, 1) := by decide +kernel
theorem dL_law_1535 : decode cL_law 1535 = .ok (.iload 4, 2) := by decide +kernel
theorem dL_law_1537 : decode cL_law 1537 = .ok (.iconst 3, 1) := by decide +kernel
theorem dL_law_1538 : decode cL_law 1538 = .ok (.iadd, 1) := by decide +kernel
theorem dL_law_1539 : decode cL_law 1539 = .ok (.iaload, 1) := by decide +kernel
theorem dL_law_1540 : decode cL_law 1540 = .ok (.invokevirtual 166, 3) := by decide +kernel
theorem dL_law_1543 : decode cL_law 1543 = .ok (.istore 6, 2) := by decide +kernel
theorem dL_law_1545 : decode cL_law 1545 = .ok (.aload_n 2, 1) := by decide +kernel
theorem dL_law_1546 : decode cL_law 1546 = .ok (.invokevirtual 102, 3) := by decide +kernel
theorem dL_law_1549 : decode cL_law 1549 = .ok (.iload 5, 2) := by decide +kernel
theorem dL_law_1551 : decode cL_law 1551 = .ok (.if_icmp .eq 5, 3) := by decide +kernel
theorem dL_law_1554 : decode cL_law 1554 = .ok (.iconst 0, 1) := by decide +kernel
theorem dL_law_1555 : decode cL_law 1555 = .ok (.ireturn, 1) := by decide +kernel
theorem dL_law_1556 : decode cL_law 1556 = .ok (.iload 5, 2) := by decide +kernel
theorem dL_law_1558 : decode cL_law 1558 = .ok (.ifCond .ne 22, 3) := by decide +kernel
theorem dL_law_1561 : decode cL_law 1561 = .ok (.aload_n 3, 1) := by decide +kernel
theorem dL_law_1562 : decode cL_law 1562 = .ok (.iconst 0, 1) := by decide +kernel
theorem dL_law_1563 : decode cL_law 1563 = .ok (.laload, 1) := by decide +kernel
theorem dL_law_1564 : decode cL_law 1564 = .ok (.iload 6, 2) := by decide +kernel
theorem dL_law_1566 : decode cL_law 1566 = .ok (.ifCond .eq 7, 3) := by decide +kernel
theorem dL_law_1569 : decode cL_law 1569 = .ok (.lconst 1, 1) := by decide +kernel
theorem dL_law_1570 : decode cL_law 1570 = .ok (.goto 4, 3) := by decide +kernel
theorem dL_law_1573 : decode cL_law 1573 = .ok (.lconst 0, 1) := by decide +kernel
theorem dL_law_1574 : decode cL_law 1574 = .ok (.lcmp, 1) := by decide +kernel
theorem dL_law_1575 : decode cL_law 1575 = .ok (.ifCond .eq 5, 3) := by decide +kernel
theorem dL_law_1578 : decode cL_law 1578 = .ok (.iconst 0, 1) := by decide +kernel
theorem dL_law_1579 : decode cL_law 1579 = .ok (.ireturn, 1) := by decide +kernel
theorem dL_law_1580 : decode cL_law 1580 = .ok (.goto 397, 3) := by decide +kernel
theorem dL_law_1583 : decode cL_law 1583 = .ok (.aload_n 1, 1) := by decide +kernel
theorem dL_law_1584 : decode cL_law 1584 = .ok (.aload_n 0, 1) := by decide +kernel
theorem dL_law_1585 : decode cL_law 1585 = .ok (.iload 4, 2) := by decide +kernel
theorem dL_law_1587 : decode cL_law 1587 = .ok (.iconst 1, 1) := by decide +kernel
theorem dL_law_1588 : decode cL_law 1588 = .ok (.iadd, 1) := by decide +kernel
theorem dL_law_1589 : decode cL_law 1589 = .ok (.iaload, 1) := by decide +kernel
theorem dL_law_1590 : decode cL_law 1590 = .ok (.aload_n 0, 1) := by decide +kernel
theorem dL_law_1591 : decode cL_law 1591 = .ok (.iload 4, 2) := by decide +kernel
theorem dL_law_1593 : decode cL_law 1593 = .ok (.iconst 2, 1) := by decide +kernel
theorem dL_law_1594 : decode cL_law 1594 = .ok (.iadd, 1) := by decide +kernel
theorem dL_law_1595 : decode cL_law 1595 = .ok (.iaload, 1) := by decide +kernel
theorem dL_law_1596 : decode cL_law 1596 = .ok (.aload_n 0, 1) := by decide +kernel
theorem dL_law_1597 : decode cL_law 1597 = .ok (.iload 4, 2) := by decide +kernel
theorem dL_law_1599 : decode cL_law 1599 = .ok (.iconst 3, 1) := by decide +kernel
theorem dL_law_1600 : decode cL_law 1600 = .ok (.iadd, 1) := by decide +kernel
theorem dL_law_1601 : decode cL_law 1601 = .ok (.iaload, 1) := by decide +kernel
theorem dL_law_1602 : decode cL_law 1602 = .ok (.ifCond .eq 7, 3) := by decide +kernel
theorem dL_law_1605 : decode cL_law 1605 = .ok (.iconst 1, 1) := by decide +kernel
theorem dL_law_1606 : decode cL_law 1606 = .ok (.goto 4, 3) := by decide +kernel
theorem dL_law_1609 : decode cL_law 1609 = .ok (.iconst 0, 1) := by decide +kernel
theorem dL_law_1610 : decode cL_law 1610 = .ok (.aload_n 0, 1) := by decide +kernel
theorem dL_law_1611 : decode cL_law 1611 = .ok (.iload 4, 2) := by decide +kernel
theorem dL_law_1613 : decode cL_law 1613 = .ok (.iconst 4, 1) := by decide +kernel
theorem dL_law_1614 : decode cL_law 1614 = .ok (.iadd, 1) := by decide +kernel
theorem dL_law_1615 : decode cL_law 1615 = .ok (.iaload, 1) := by decide +kernel
theorem dL_law_1616 : decode cL_law 1616 = .ok (.aload_n 3, 1) := by decide +kernel
theorem dL_law_1617 : decode cL_law 1617 = .ok (.invokestatic 167, 3) := by decide +kernel
theorem dL_law_1620 : decode cL_law 1620 = .ok (.istore 5, 2) := by decide +kernel
theorem dL_law_1622 : decode cL_law 1622 = .ok (.aload_n 2, 1) := by decide +kernel
theorem dL_law_1623 : decode cL_law 1623 = .ok (.aload_n 0, 1) := by decide +kernel
theorem dL_law_1624 : decode cL_law 1624 = .ok (.iload 4, 2) := by decide +kernel
theorem dL_law_1626 : decode cL_law 1626 = .ok (.iconst 1, 1) := by decide +kernel
theorem dL_law_1627 : decode cL_law 1627 = .ok (.iadd, 1) := by decide +kernel
theorem dL_law_1628 : decode cL_law 1628 = .ok (.iaload, 1) := by decide +kernel
theorem dL_law_1629 : decode cL_law 1629 = .ok (.aload_n 0, 1) := by decide +kernel
theorem dL_law_1630 : decode cL_law 1630 = .ok (.iload 4, 2) := by decide +kernel
theorem dL_law_1632 : decode cL_law 1632 = .ok (.iconst 2, 1) := by decide +kernel
theorem dL_law_1633 : decode cL_law 1633 = .ok (.iadd, 1) := by decide +kernel
theorem dL_law_1634 : decode cL_law 1634 = .ok (.iaload, 1) := by decide +kernel
theorem dL_law_1635 : decode cL_law 1635 = .ok (.aload_n 0, 1) := by decide +kernel
theorem dL_law_1636 : decode cL_law 1636 = .ok (.iload 4, 2) := by decide +kernel
theorem dL_law_1638 : decode cL_law 1638 = .ok (.iconst 3, 1) := by decide +kernel
theorem dL_law_1639 : decode cL_law 1639 = .ok (.iadd, 1) := by decide +kernel
theorem dL_law_1640 : decode cL_law 1640 = .ok (.iaload, 1) := by decide +kernel
theorem dL_law_1641 : decode cL_law 1641 = .ok (.ifCond .eq 7, 3) := by decide +kernel
theorem dL_law_1644 : decode cL_law 1644 = .ok (.iconst 1, 1) := by decide +kernel
theorem dL_law_1645 : decode cL_law 1645 = .ok (.goto 4, 3) := by decide +kernel
theorem dL_law_1648 : decode cL_law 1648 = .ok (.iconst 0, 1) := by decide +kernel
theorem dL_law_1649 : decode cL_law 1649 = .ok (.aload_n 0, 1) := by decide +kernel
theorem dL_law_1650 : decode cL_law 1650 = .ok (.iload 4, 2) := by decide +kernel
theorem dL_law_1652 : decode cL_law 1652 = .ok (.iconst 4, 1) := by decide +kernel
theorem dL_law_1653 : decode cL_law 1653 = .ok (.iadd, 1) := by decide +kernel
theorem dL_law_1654 : decode cL_law 1654 = .ok (.iaload, 1) := by decide +kernel
theorem dL_law_1655 : decode cL_law 1655 = .ok (.invokevirtual 170, 3) := by decide +kernel
theorem dL_law_1658 : decode cL_law 1658 = .ok (.istore 6, 2) := by decide +kernel
theorem dL_law_1660 : decode cL_law 1660 = .ok (.aload_n 2, 1) := by decide +kernel
theorem dL_law_1661 : decode cL_law 1661 = .ok (.invokevirtual 102, 3) := by decide +kernel
theorem dL_law_1664 : decode cL_law 1664 = .ok (.iload 5, 2) := by decide +kernel
theorem dL_law_1666 : decode cL_law 1666 = .ok (.if_icmp .eq 5, 3) := by decide +kernel
theorem dL_law_1669 : decode cL_law 1669 = .ok (.iconst 0, 1) := by decide +kernel
theorem dL_law_1670 : decode cL_law 1670 = .ok (.ireturn, 1) := by decide +kernel
theorem dL_law_1671 : decode cL_law 1671 = .ok (.iload 5, 2) := by decide +kernel
theorem dL_law_1673 : decode cL_law 1673 = .ok (.ifCond .ne 15, 3) := by decide +kernel
theorem dL_law_1676 : decode cL_law 1676 = .ok (.aload_n 3, 1) := by decide +kernel
theorem dL_law_1677 : decode cL_law 1677 = .ok (.iconst 0, 1) := by decide +kernel
theorem dL_law_1678 : decode cL_law 1678 = .ok (.laload, 1) := by decide +kernel
theorem dL_law_1679 : decode cL_law 1679 = .ok (.iload 6, 2) := by decide +kernel
theorem dL_law_1681 : decode cL_law 1681 = .ok (.i2l, 1) := by decide +kernel
theorem dL_law_1682 : decode cL_law 1682 = .ok (.lcmp, 1) := by decide +kernel
theorem dL_law_1683 : decode cL_law 1683 = .ok (.ifCond .eq 5, 3) := by decide +kernel
theorem dL_law_1686 : decode cL_law 1686 = .ok (.iconst 0, 1) := by decide +kernel
theorem dL_law_1687 : decode cL_law 1687 = .ok (.ireturn, 1) := by decide +kernel
theorem dL_law_1688 : decode cL_law 1688 = .ok (.goto 289, 3) := by decide +kernel
theorem dL_law_1691 : decode cL_law 1691 = .ok (.aload_n 1, 1) := by decide +kernel
theorem dL_law_1692 : decode cL_law 1692 = .ok (.aload_n 0, 1) := by decide +kernel
theorem dL_law_1693 : decode cL_law 1693 = .ok (.iload 4, 2) := by decide +kernel
theorem dL_law_1695 : decode cL_law 1695 = .ok (.iconst 1, 1) := by decide +kernel
theorem dL_law_1696 : decode cL_law 1696 = .ok (.iadd, 1) := by decide +kernel
theorem dL_law_1697 : decode cL_law 1697 = .ok (.iaload, 1) := by decide +kernel
theorem dL_law_1698 : decode cL_law 1698 = .ok (.aload_n 0, 1) := by decide +kernel
theorem dL_law_1699 : decode cL_law 1699 = .ok (.iload 4, 2) := by decide +kernel
theorem dL_law_1701 : decode cL_law 1701 = .ok (.iconst 2, 1) := by decide +kernel
theorem dL_law_1702 : decode cL_law 1702 = .ok (.iadd, 1) := by decide +kernel
theorem dL_law_1703 : decode cL_law 1703 = .ok (.iaload, 1) := by decide +kernel
theorem dL_law_1704 : decode cL_law 1704 = .ok (.aload_n 3, 1) := by decide +kernel
theorem dL_law_1705 : decode cL_law 1705 = .ok (.invokestatic 171, 3) := by decide +kernel
theorem dL_law_1708 : decode cL_law 1708 = .ok (.istore 5, 2) := by decide +kernel
theorem dL_law_1710 : decode cL_law 1710 = .ok (.aload_n 2, 1) := by decide +kernel
theorem dL_law_1711 : decode cL_law 1711 = .ok (.aload_n 0, 1) := by decide +kernel
theorem dL_law_1712 : decode cL_law 1712 = .ok (.iload 4, 2) := by decide +kernel
theorem dL_law_1714 : decode cL_law 1714 = .ok (.iconst 1, 1) := by decide +kernel
theorem dL_law_1715 : decode cL_law 1715 = .ok (.iadd, 1) := by decide +kernel
theorem dL_law_1716 : decode cL_law 1716 = .ok (.iaload, 1) := by decide +kernel
theorem dL_law_1717 : decode cL_law 1717 = .ok (.aload_n 0, 1) := by decide +kernel
theorem dL_law_1718 : decode cL_law 1718 = .ok (.iload 4, 2) := by decide +kernel
theorem dL_law_1720 : decode cL_law 1720 = .ok (.iconst 2, 1) := by decide +kernel
theorem dL_law_1721 : decode cL_law 1721 = .ok (.iadd, 1) := by decide +kernel
theorem dL_law_1722 : decode cL_law 1722 = .ok (.iaload, 1) := by decide +kernel
theorem dL_law_1723 : decode cL_law 1723 = .ok (.invokevirtual 173, 3) := by decide +kernel
theorem dL_law_1726 : decode cL_law 1726 = .ok (.istore 6, 2) := by decide +kernel
theorem dL_law_1728 : decode cL_law 1728 = .ok (.aload_n 2, 1) := by decide +kernel
theorem dL_law_1729 : decode cL_law 1729 = .ok (.invokevirtual 102, 3) := by decide +kernel
theorem dL_law_1732 : decode cL_law 1732 = .ok (.iload 5, 2) := by decide +kernel
theorem dL_law_1734 : decode cL_law 1734 = .ok (.if_icmp .eq 5, 3) := by decide +kernel
theorem dL_law_1737 : decode cL_law 1737 = .ok (.iconst 0, 1) := by decide +kernel
theorem dL_law_1738 : decode cL_law 1738 = .ok (.ireturn, 1) := by decide +kernel
theorem dL_law_1739 : decode cL_law 1739 = .ok (.iload 5, 2) := by decide +kernel
theorem dL_law_1741 : decode cL_law 1741 = .ok (.ifCond .ne 15, 3) := by decide +kernel
theorem dL_law_1744 : decode cL_law 1744 = .ok (.aload_n 3, 1) := by decide +kernel
theorem dL_law_1745 : decode cL_law 1745 = .ok (.iconst 0, 1) := by decide +kernel
theorem dL_law_1746 : decode cL_law 1746 = .ok (.laload, 1) := by decide +kernel
theorem dL_law_1747 : decode cL_law 1747 = .ok (.iload 6, 2) := by decide +kernel
theorem dL_law_1749 : decode cL_law 1749 = .ok (.i2l, 1) := by decide +kernel
theorem dL_law_1750 : decode cL_law 1750 = .ok (.lcmp, 1) := by decide +kernel
theorem dL_law_1751 : decode cL_law 1751 = .ok (.ifCond .eq 5, 3) := by decide +kernel
theorem dL_law_1754 : decode cL_law 1754 = .ok (.iconst 0, 1) := by decide +kernel
theorem dL_law_1755 : decode cL_law 1755 = .ok (.ireturn, 1) := by decide +kernel
theorem dL_law_1756 : decode cL_law 1756 = .ok (.goto 221, 3) := by decide +kernel
theorem dL_law_1759 : decode cL_law 1759 = .ok (.aload_n 1, 1) := by decide +kernel
theorem dL_law_1760 : decode cL_law 1760 = .ok (.invokevirtual 174, 3) := by decide +kernel
theorem dL_law_1763 : decode cL_law 1763 = .ok (.aload_n 2, 1) := by decide +kernel
theorem dL_law_1764 : decode cL_law 1764 = .ok (.invokevirtual 177, 3) := by decide +kernel
theorem dL_law_1767 : decode cL_law 1767 = .ok (.if_icmp .eq 210, 3) := by decide +kernel
theorem dL_law_1770 : decode cL_law 1770 = .ok (.iconst 0, 1) := by decide +kernel
theorem dL_law_1771 : decode cL_law 1771 = .ok (.ireturn, 1) := by decide +kernel
theorem dL_law_1772 : decode cL_law 1772 = .ok (.aload_n 1, 1) := by decide +kernel
theorem dL_law_1773 : decode cL_law 1773 = .ok (.aload_n 0, 1) := by decide +kernel
theorem dL_law_1774 : decode cL_law 1774 = .ok (.iload 4, 2) := by decide +kernel
theorem dL_law_1776 : decode cL_law 1776 = .ok (.iconst 1, 1) := by decide +kernel
theorem dL_law_1777 : decode cL_law 1777 = .ok (.iadd, 1) := by decide +kernel
theorem dL_law_1778 : decode cL_law 1778 = .ok (.iaload, 1) := by decide +kernel
theorem dL_law_1779 : decode cL_law 1779 = .ok (.aload_n 0, 1) := by decide +kernel
theorem dL_law_1780 : decode cL_law 1780 = .ok (.iload 4, 2) := by decide +kernel
theorem dL_law_1782 : decode cL_law 1782 = .ok (.iconst 2, 1) := by decide +kernel
theorem dL_law_1783 : decode cL_law 1783 = .ok (.iadd, 1) := by decide +kernel
theorem dL_law_1784 : decode cL_law 1784 = .ok (.iaload, 1) := by decide +kernel
theorem dL_law_1785 : decode cL_law 1785 = .ok (.aload_n 3, 1) := by decide +kernel
theorem dL_law_1786 : decode cL_law 1786 = .ok (.invokestatic 178, 3) := by decide +kernel
theorem dL_law_1789 : decode cL_law 1789 = .ok (.istore 5, 2) := by decide +kernel
theorem dL_law_1791 : decode cL_law 1791 = .ok (.aload_n 2, 1) := by decide +kernel
theorem dL_law_1792 : decode cL_law 1792 = .ok (.aload_n 0, 1) := by decide +kernel
theorem dL_law_1793 : decode cL_law 1793 = .ok (.iload 4, 2) := by decide +kernel
theorem dL_law_1795 : decode cL_law 1795 = .ok (.iconst 1, 1) := by decide +kernel
theorem dL_law_1796 : decode cL_law 1796 = .ok (.iadd, 1) := by decide +kernel
theorem dL_law_1797 : decode cL_law 1797 = .ok (.iaload, 1) := by decide +kernel
theorem dL_law_1798 : decode cL_law 1798 = .ok (.aload_n 0, 1) := by decide +kernel
theorem dL_law_1799 : decode cL_law 1799 = .ok (.iload 4, 2) := by decide +kernel
theorem dL_law_1801 : decode cL_law 1801 = .ok (.iconst 2, 1) := by decide +kernel
theorem dL_law_1802 : decode cL_law 1802 = .ok (.iadd, 1) := by decide +kernel
theorem dL_law_1803 : decode cL_law 1803 = .ok (.iaload, 1) := by decide +kernel
theorem dL_law_1804 : decode cL_law 1804 = .ok (.invokevirtual 180, 3) := by decide +kernel
theorem dL_law_1807 : decode cL_law 1807 = .ok (.istore 6, 2) := by decide +kernel
theorem dL_law_1809 : decode cL_law 1809 = .ok (.aload_n 2, 1) := by decide +kernel
theorem dL_law_1810 : decode cL_law 1810 = .ok (.invokevirtual 102, 3) := by decide +kernel
theorem dL_law_1813 : decode cL_law 1813 = .ok (.iload 5, 2) := by decide +kernel
theorem dL_law_1815 : decode cL_law 1815 = .ok (.if_icmp .eq 5, 3) := by decide +kernel
theorem dL_law_1818 : decode cL_law 1818 = .ok (.iconst 0, 1) := by decide +kernel
theorem dL_law_1819 : decode cL_law 1819 = .ok (.ireturn, 1) := by decide +kernel
theorem dL_law_1820 : decode cL_law 1820 = .ok (.iload 5, 2) := by decide +kernel
theorem dL_law_1822 : decode cL_law 1822 = .ok (.ifCond .ne 15, 3) := by decide +kernel
theorem dL_law_1825 : decode cL_law 1825 = .ok (.aload_n 3, 1) := by decide +kernel
theorem dL_law_1826 : decode cL_law 1826 = .ok (.iconst 0, 1) := by decide +kernel
theorem dL_law_1827 : decode cL_law 1827 = .ok (.laload, 1) := by decide +kernel
theorem dL_law_1828 : decode cL_law 1828 = .ok (.iload 6, 2) := by decide +kernel
theorem dL_law_1830 : decode cL_law 1830 = .ok (.i2l, 1) := by decide +kernel
theorem dL_law_1831 : decode cL_law 1831 = .ok (.lcmp, 1) := by decide +kernel
theorem dL_law_1832 : decode cL_law 1832 = .ok (.ifCond .eq 5, 3) := by decide +kernel
theorem dL_law_1835 : decode cL_law 1835 = .ok (.iconst 0, 1) := by decide +kernel
theorem dL_law_1836 : decode cL_law 1836 = .ok (.ireturn, 1) := by decide +kernel
theorem dL_law_1837 : decode cL_law 1837 = .ok (.goto 140, 3) := by decide +kernel
theorem dL_law_1840 : decode cL_law 1840 = .ok (.aload_n 1, 1) := by decide +kernel
theorem dL_law_1841 : decode cL_law 1841 = .ok (.invokevirtual 181, 3) := by decide +kernel
theorem dL_law_1844 : decode cL_law 1844 = .ok (.aload_n 2, 1) := by decide +kernel
theorem dL_law_1845 : decode cL_law 1845 = .ok (.invokevirtual 184, 3) := by decide +kernel
theorem dL_law_1848 : decode cL_law 1848 = .ok (.if_icmp .eq 129, 3) := by decide +kernel
theorem dL_law_1851 : decode cL_law 1851 = .ok (.iconst 0, 1) := by decide +kernel
theorem dL_law_1852 : decode cL_law 1852 = .ok (.ireturn, 1) := by decide +kernel
theorem dL_law_1853 : decode cL_law 1853 = .ok (.aload_n 1, 1) := by decide +kernel
theorem dL_law_1854 : decode cL_law 1854 = .ok (.aload_n 0, 1) := by decide +kernel
theorem dL_law_1855 : decode cL_law 1855 = .ok (.iload 4, 2) := by decide +kernel
theorem dL_law_1857 : decode cL_law 1857 = .ok (.iconst 1, 1) := by decide +kernel
theorem dL_law_1858 : decode cL_law 1858 = .ok (.iadd, 1) := by decide +kernel
theorem dL_law_1859 : decode cL_law 1859 = .ok (.iaload, 1) := by decide +kernel
theorem dL_law_1860 : decode cL_law 1860 = .ok (.aload_n 3, 1) := by decide +kernel
theorem dL_law_1861 : decode cL_law 1861 = .ok (.invokestatic 185, 3) := by decide +kernel
theorem dL_law_1864 : decode cL_law 1864 = .ok (.istore 5, 2) := by decide +kernel
theorem dL_law_1866 : decode cL_law 1866 = .ok (.aload_n 2, 1) := by decide +kernel
theorem dL_law_1867 : decode cL_law 1867 = .ok (.aload_n 0, 1) := by decide +kernel
theorem dL_law_1868 : decode cL_law 1868 = .ok (.iload 4, 2) := by decide +kernel
theorem dL_law_1870 : decode cL_law 1870 = .ok (.iconst 1, 1) := by decide +kernel
theorem dL_law_1871 : decode cL_law 1871 = .ok (.iadd, 1) := by decide +kernel
theorem dL_law_1872 : decode cL_law 1872 = .ok (.iaload, 1) := by decide +kernel
theorem dL_law_1873 : decode cL_law 1873 = .ok (.invokevirtual 187, 3) := by decide +kernel
theorem dL_law_1876 : decode cL_law 1876 = .ok (.istore 6, 2) := by decide +kernel
theorem dL_law_1878 : decode cL_law 1878 = .ok (.aload_n 2, 1) := by decide +kernel
theorem dL_law_1879 : decode cL_law 1879 = .ok (.invokevirtual 102, 3) := by decide +kernel
theorem dL_law_1882 : decode cL_law 1882 = .ok (.iload 5, 2) := by decide +kernel
theorem dL_law_1884 : decode cL_law 1884 = .ok (.if_icmp .eq 5, 3) := by decide +kernel
theorem dL_law_1887 : decode cL_law 1887 = .ok (.iconst 0, 1) := by decide +kernel
theorem dL_law_1888 : decode cL_law 1888 = .ok (.ireturn, 1) := by decide +kernel
theorem dL_law_1889 : decode cL_law 1889 = .ok (.iload 5, 2) := by decide +kernel
theorem dL_law_1891 : decode cL_law 1891 = .ok (.ifCond .ne 15, 3) := by decide +kernel
theorem dL_law_1894 : decode cL_law 1894 = .ok (.aload_n 3, 1) := by decide +kernel
theorem dL_law_1895 : decode cL_law 1895 = .ok (.iconst 0, 1) := by decide +kernel
theorem dL_law_1896 : decode cL_law 1896 = .ok (.laload, 1) := by decide +kernel
theorem dL_law_1897 : decode cL_law 1897 = .ok (.iload 6, 2) := by decide +kernel
theorem dL_law_1899 : decode cL_law 1899 = .ok (.i2l, 1) := by decide +kernel
theorem dL_law_1900 : decode cL_law 1900 = .ok (.lcmp, 1) := by decide +kernel
theorem dL_law_1901 : decode cL_law 1901 = .ok (.ifCond .eq 5, 3) := by decide +kernel
theorem dL_law_1904 : decode cL_law 1904 = .ok (.iconst 0, 1) := by decide +kernel
theorem dL_law_1905 : decode cL_law 1905 = .ok (.ireturn, 1) := by decide +kernel
theorem dL_law_1906 : decode cL_law 1906 = .ok (.goto 71, 3) := by decide +kernel
theorem dL_law_1909 : decode cL_law 1909 = .ok (.aload_n 1, 1) := by decide +kernel
theorem dL_law_1910 : decode cL_law 1910 = .ok (.invokevirtual 188, 3) := by decide +kernel
theorem dL_law_1913 : decode cL_law 1913 = .ok (.aload_n 2, 1) := by decide +kernel
theorem dL_law_1914 : decode cL_law 1914 = .ok (.invokevirtual 191, 3) := by decide +kernel
theorem dL_law_1917 : decode cL_law 1917 = .ok (.if_icmp .eq 60, 3) := by decide +kernel
theorem dL_law_1920 : decode cL_law 1920 = .ok (.iconst 0, 1) := by decide +kernel
theorem dL_law_1921 : decode cL_law 1921 = .ok (.ireturn, 1) := by decide +kernel
theorem dL_law_1922 : decode cL_law 1922 = .ok (.aload_n 1, 1) := by decide +kernel
theorem dL_law_1923 : decode cL_law 1923 = .ok (.invokevirtual 192, 3) := by decide +kernel
theorem dL_law_1926 : decode cL_law 1926 = .ok (.dstore 5, 2) := by decide +kernel
theorem dL_law_1928 : decode cL_law 1928 = .ok (.aload_n 2, 1) := by decide +kernel
theorem dL_law_1929 : decode cL_law 1929 = .ok (.invokevirtual 196, 3) := by decide +kernel
theorem dL_law_1932 : decode cL_law 1932 = .ok (.dstore 7, 2) := by decide +kernel
theorem dL_law_1934 : decode cL_law 1934 = .ok (.dload 5, 2) := by decide +kernel
theorem dL_law_1936 : decode cL_law 1936 = .ok (.dload 7, 2) := by decide +kernel
theorem dL_law_1938 : decode cL_law 1938 = .ok (.dcmp .l, 1) := by decide +kernel
theorem dL_law_1939 : decode cL_law 1939 = .ok (.ifCond .eq 21, 3) := by decide +kernel
theorem dL_law_1942 : decode cL_law 1942 = .ok (.dload 5, 2) := by decide +kernel
theorem dL_law_1944 : decode cL_law 1944 = .ok (.dload 5, 2) := by decide +kernel
theorem dL_law_1946 : decode cL_law 1946 = .ok (.dcmp .l, 1) := by decide +kernel
theorem dL_law_1947 : decode cL_law 1947 = .ok (.ifCond .eq 11, 3) := by decide +kernel
theorem dL_law_1950 : decode cL_law 1950 = .ok (.dload 7, 2) := by decide +kernel
theorem dL_law_1952 : decode cL_law 1952 = .ok (.dload 7, 2) := by decide +kernel
theorem dL_law_1954 : decode cL_law 1954 = .ok (.dcmp .l, 1) := by decide +kernel
theorem dL_law_1955 : decode cL_law 1955 = .ok (.ifCond .ne 5, 3) := by decide +kernel
theorem dL_law_1958 : decode cL_law 1958 = .ok (.iconst 0, 1) := by decide +kernel
theorem dL_law_1959 : decode cL_law 1959 = .ok (.ireturn, 1) := by decide +kernel
theorem dL_law_1960 : decode cL_law 1960 = .ok (.goto 17, 3) := by decide +kernel
theorem dL_law_1963 : decode cL_law 1963 = .ok (.aload_n 1, 1) := by decide +kernel
theorem dL_law_1964 : decode cL_law 1964 = .ok (.invokevirtual 197, 3) := by decide +kernel
theorem dL_law_1967 : decode cL_law 1967 = .ok (.aload_n 2, 1) := by decide +kernel
theorem dL_law_1968 : decode cL_law 1968 = .ok (.invokevirtual 201, 3) := by decide +kernel
theorem dL_law_1971 : decode cL_law 1971 = .ok (.lcmp, 1) := by decide +kernel
theorem dL_law_1972 : decode cL_law 1972 = .ok (.ifCond .eq 5, 3) := by decide +kernel
theorem dL_law_1975 : decode cL_law 1975 = .ok (.iconst 0, 1) := by decide +kernel
theorem dL_law_1976 : decode cL_law 1976 = .ok (.ireturn, 1) := by decide +kernel
theorem dL_law_1977 : decode cL_law 1977 = .ok (.iinc 4 8, 3) := by decide +kernel
theorem dL_law_1980 : decode cL_law 1980 = .ok (.goto (-1957), 3) := by decide +kernel
theorem dL_law_1983 : decode cL_law 1983 = .ok (.iconst 1, 1) := by decide +kernel
theorem dL_law_1984 : decode cL_law 1984 = .ok (.ireturn, 1) := by decide +kernel
