theorem dX9_checkProgram_1 : decode cX9_checkProgram 1 = .ok (.istore_n 2, 1) := by decide +kernel
theorem dX9_checkProgram_2 : decode cX9_checkProgram 2 = .ok (.iload_n 2, 1) := by decide +kernel
theorem dX9_checkProgram_3 : decode cX9_checkProgram 3 = .ok (.aload_n 0, 1) := by decide +kernel
theorem dX9_checkProgram_4 : decode cX9_checkProgram 4 = .ok (.getfield 19, 3) := by decide +kernel
theorem dX9_checkProgram_7 : decode cX9_checkProgram 7 = .ok (.iconst 1, 1) := by decide +kernel
theorem dX9_checkProgram_8 : decode cX9_checkProgram 8 = .ok (.iaload, 1) := by decide +kernel
theorem dX9_checkProgram_9 : decode cX9_checkProgram 9 = .ok (.if_icmp .ge 56, 3) := by decide +kernel
theorem dX9_checkProgram_12 : decode cX9_checkProgram 12 = .ok (.aload_n 0, 1) := by decide +kernel
theorem dX9_checkProgram_13 : decode cX9_checkProgram 13 = .ok (.iconst 1, 1) := by decide +kernel
theorem dX9_checkProgram_14 : decode cX9_checkProgram 14 = .ok (.iload_n 2, 1) := by decide +kernel
theorem dX9_checkProgram_15 : decode cX9_checkProgram 15 = .ok (.iload_n 1, 1) := by decide +kernel
theorem dX9_checkProgram_16 : decode cX9_checkProgram 16 = .ok (.invokevirtual 138, 3) := by decide +kernel
theorem dX9_checkProgram_19 : decode cX9_checkProgram 19 = .ok (.ifCond .eq 40, 3) := by decide +kernel
theorem dX9_checkProgram_22 : decode cX9_checkProgram 22 = .ok (.aload_n 0, 1) := by decide +kernel
theorem dX9_checkProgram_23 : decode cX9_checkProgram 23 = .ok (.iconst 0, 1) := by decide +kernel
theorem dX9_checkProgram_24 : decode cX9_checkProgram 24 = .ok (.aload_n 0, 1) := by decide +kernel
theorem dX9_checkProgram_25 : decode cX9_checkProgram 25 = .ok (.getfield 28, 3) := by decide +kernel
theorem dX9_checkProgram_28 : decode cX9_checkProgram 28 = .ok (.iload_n 2, 1) := by decide +kernel
theorem dX9_checkProgram_29 : decode cX9_checkProgram 29 = .ok (.iaload, 1) := by decide +kernel
theorem dX9_checkProgram_30 : decode cX9_checkProgram 30 = .ok (.iload_n 1, 1) := by decide +kernel
theorem dX9_checkProgram_31 : decode cX9_checkProgram 31 = .ok (.invokevirtual 141, 3) := by decide +kernel
theorem dX9_checkProgram_34 : decode cX9_checkProgram 34 = .ok (.ifCond .eq 25, 3) := by decide +kernel
theorem dX9_checkProgram_37 : decode cX9_checkProgram 37 = .ok (.aload_n 0, 1) := by decide +kernel
theorem dX9_checkProgram_38 : decode cX9_checkProgram 38 = .ok (.iconst 0, 1) := by decide +kernel
theorem dX9_checkProgram_39 : decode cX9_checkProgram 39 = .ok (.aload_n 0, 1) := by decide +kernel
theorem dX9_checkProgram_40 : decode cX9_checkProgram 40 = .ok (.getfield 31, 3) := by decide +kernel
theorem dX9_checkProgram_43 : decode cX9_checkProgram 43 = .ok (.iload_n 2, 1) := by decide +kernel
theorem dX9_checkProgram_44 : decode cX9_checkProgram 44 = .ok (.iaload, 1) := by decide +kernel
theorem dX9_checkProgram_45 : decode cX9_checkProgram 45 = .ok (.iload_n 1, 1) := by decide +kernel
theorem dX9_checkProgram_46 : decode cX9_checkProgram 46 = .ok (.invokevirtual 141, 3) := by decide +kernel
theorem dX9_checkProgram_49 : decode cX9_checkProgram 49 = .ok (.ifCond .ne 10, 3) := by decide +kernel
theorem dX9_checkProgram_52 : decode cX9_checkProgram 52 = .ok (.aload_n 0, 1) := by decide +kernel
theorem dX9_checkProgram_53 : decode cX9_checkProgram 53 = .ok (.iconst 1, 1) := by decide +kernel
theorem dX9_checkProgram_54 : decode cX9_checkProgram 54 = .ok (.iload_n 2, 1) := by decide +kernel
theorem dX9_checkProgram_55 : decode cX9_checkProgram 55 = .ok (.iload_n 1, 1) := by decide +kernel
theorem dX9_checkProgram_56 : decode cX9_checkProgram 56 = .ok (.invokevirtual 151, 3) := by decide +kernel
theorem dX9_checkProgram_59 : decode cX9_checkProgram 59 = .ok (.iinc 2 1, 3) := by decide +kernel
theorem dX9_checkProgram_62 : decode cX9_checkProgram 62 = .ok (.goto (-60), 3) := by decide +kernel
theorem dX9_checkProgram_65 : decode cX9_checkProgram 65 = .ok (.iconst 0, 1) := by decide +kernel
theorem dX9_checkProgram_66 : decode cX9_checkProgram 66 = .ok (.istore_n 2, 1) := by decide +kernel
theorem dX9_checkProgram_67 : decode cX9_checkProgram 67 = .ok (.iload_n 2, 1) := by decide +kernel
theorem dX9_checkProgram_68 : decode cX9_checkProgram 68 = .ok (.aload_n 0, 1) := by decide +kernel
theorem dX9_checkProgram_69 : decode cX9_checkProgram 69 = .ok (.getfield 19, 3) := by decide +kernel
theorem dX9_checkProgram_72 : decode cX9_checkProgram 72 = .ok (.iconst 0, 1) := by decide +kernel
theorem dX9_checkProgram_73 : decode cX9_checkProgram 73 = .ok (.iaload, 1) := by decide +kernel
theorem dX9_checkProgram_74 : decode cX9_checkProgram 74 = .ok (.if_icmp .ge 103, 3) := by decide +kernel
theorem dX9_checkProgram_77 : decode cX9_checkProgram 77 = .ok (.aload_n 0, 1) := by decide +kernel
theorem dX9_checkProgram_78 : decode cX9_checkProgram 78 = .ok (.iconst 0, 1) := by decide +kernel
theorem dX9_checkProgram_79 : decode cX9_checkProgram 79 = .ok (.iload_n 2, 1) := by decide +kernel
theorem dX9_checkProgram_80 : decode cX9_checkProgram 80 = .ok (.iload_n 1, 1) := by decide +kernel
theorem dX9_checkProgram_81 : decode cX9_checkProgram 81 = .ok (.invokevirtual 141, 3) := by decide +kernel
theorem dX9_checkProgram_84 : decode cX9_checkProgram 84 = .ok (.ifCond .ne 6, 3) := by decide +kernel
theorem dX9_checkProgram_87 : decode cX9_checkProgram 87 = .ok (.goto 84, 3) := by decide +kernel
theorem dX9_checkProgram_90 : decode cX9_checkProgram 90 = .ok (.iconst 0, 1) := by decide +kernel
theorem dX9_checkProgram_91 : decode cX9_checkProgram 91 = .ok (.istore_n 3, 1) := by decide +kernel
theorem dX9_checkProgram_92 : decode cX9_checkProgram 92 = .ok (.iconst 0, 1) := by decide +kernel
theorem dX9_checkProgram_93 : decode cX9_checkProgram 93 = .ok (.istore 4, 2) := by decide +kernel
theorem dX9_checkProgram_95 : decode cX9_checkProgram 95 = .ok (.iload 4, 2) := by decide +kernel
theorem dX9_checkProgram_97 : decode cX9_checkProgram 97 = .ok (.aload_n 0, 1) := by decide +kernel
theorem dX9_checkProgram_98 : decode cX9_checkProgram 98 = .ok (.getfield 19, 3) := by decide +kernel
theorem dX9_checkProgram_101 : decode cX9_checkProgram 101 = .ok (.iconst 1, 1) := by decide +kernel
theorem dX9_checkProgram_102 : decode cX9_checkProgram 102 = .ok (.iaload, 1) := by decide +kernel
theorem dX9_checkProgram_103 : decode cX9_checkProgram 103 = .ok (.if_icmp .ge 39, 3) := by decide +kernel
theorem dX9_checkProgram_106 : decode cX9_checkProgram 106 = .ok (.iload_n 3, 1) := by decide +kernel
theorem dX9_checkProgram_107 : decode cX9_checkProgram 107 = .ok (.aload_n 0, 1) := by decide +kernel
theorem dX9_checkProgram_108 : decode cX9_checkProgram 108 = .ok (.getfield 28, 3) := by decide +kernel
theorem dX9_checkProgram_111 : decode cX9_checkProgram 111 = .ok (.iload 4, 2) := by decide +kernel
theorem dX9_checkProgram_113 : decode cX9_checkProgram 113 = .ok (.iaload, 1) := by decide +kernel
theorem dX9_checkProgram_114 : decode cX9_checkProgram 114 = .ok (.iload_n 2, 1) := by decide +kernel
theorem dX9_checkProgram_115 : decode cX9_checkProgram 115 = .ok (.if_icmp .ne 18, 3) := by decide +kernel
theorem dX9_checkProgram_118 : decode cX9_checkProgram 118 = .ok (.aload_n 0, 1) := by decide +kernel
theorem dX9_checkProgram_119 : decode cX9_checkProgram 119 = .ok (.iconst 1, 1) := by decide +kernel
theorem dX9_checkProgram_120 : decode cX9_checkProgram 120 = .ok (.iload 4, 2) := by decide +kernel
theorem dX9_checkProgram_122 : decode cX9_checkProgram 122 = .ok (.iload_n 1, 1) := by decide +kernel
theorem dX9_checkProgram_123 : decode cX9_checkProgram 123 = .ok (.invokevirtual 141, 3) := by decide +kernel
theorem dX9_checkProgram_126 : decode cX9_checkProgram 126 = .ok (.ifCond .eq 7, 3) := by decide +kernel
theorem dX9_checkProgram_129 : decode cX9_checkProgram 129 = .ok (.iconst 1, 1) := by decide +kernel
theorem dX9_checkProgram_130 : decode cX9_checkProgram 130 = .ok (.goto 4, 3) := by decide +kernel
theorem dX9_checkProgram_133 : decode cX9_checkProgram 133 = .ok (.iconst 0, 1) := by decide +kernel
theorem dX9_checkProgram_134 : decode cX9_checkProgram 134 = .ok (.iadd, 1) := by decide +kernel
theorem dX9_checkProgram_135 : decode cX9_checkProgram 135 = .ok (.istore_n 3, 1) := by decide +kernel
theorem dX9_checkProgram_136 : decode cX9_checkProgram 136 = .ok (.iinc 4 1, 3) := by decide +kernel
theorem dX9_checkProgram_139 : decode cX9_checkProgram 139 = .ok (.goto (-44), 3) := by decide +kernel
theorem dX9_checkProgram_142 : decode cX9_checkProgram 142 = .ok (.iload_n 3, 1) := by decide +kernel
theorem dX9_checkProgram_143 : decode cX9_checkProgram 143 = .ok (.iconst 1, 1) := by decide +kernel
theorem dX9_checkProgram_144 : decode cX9_checkProgram 144 = .ok (.if_icmp .le 10, 3) := by decide +kernel
theorem dX9_checkProgram_147 : decode cX9_checkProgram 147 = .ok (.aload_n 0, 1) := by decide +kernel
theorem dX9_checkProgram_148 : decode cX9_checkProgram 148 = .ok (.iconst 2, 1) := by decide +kernel
theorem dX9_checkProgram_149 : decode cX9_checkProgram 149 = .ok (.iload_n 2, 1) := by decide +kernel
theorem dX9_checkProgram_150 : decode cX9_checkProgram 150 = .ok (.iload_n 1, 1) := by decide +kernel
theorem dX9_checkProgram_151 : decode cX9_checkProgram 151 = .ok (.invokevirtual 151, 3) := by decide +kernel
theorem dX9_checkProgram_154 : decode cX9_checkProgram 154 = .ok (.aload_n 0, 1) := by decide +kernel
theorem dX9_checkProgram_155 : decode cX9_checkProgram 155 = .ok (.iload_n 2, 1) := by decide +kernel
theorem dX9_checkProgram_156 : decode cX9_checkProgram 156 = .ok (.iload_n 2, 1) := by decide +kernel
theorem dX9_checkProgram_157 : decode cX9_checkProgram 157 = .ok (.iload_n 1, 1) := by decide +kernel
theorem dX9_checkProgram_158 : decode cX9_checkProgram 158 = .ok (.invokevirtual 148, 3) := by decide +kernel
theorem dX9_checkProgram_161 : decode cX9_checkProgram 161 = .ok (.ifCond .eq 10, 3) := by decide +kernel
theorem dX9_checkProgram_164 : decode cX9_checkProgram 164 = .ok (.aload_n 0, 1) := by decide +kernel
theorem dX9_checkProgram_165 : decode cX9_checkProgram 165 = .ok (.iconst 3, 1) := by decide +kernel
theorem dX9_checkProgram_166 : decode cX9_checkProgram 166 = .ok (.iload_n 2, 1) := by decide +kernel
theorem dX9_checkProgram_167 : decode cX9_checkProgram 167 = .ok (.iload_n 1, 1) := by decide +kernel
theorem dX9_checkProgram_168 : decode cX9_checkProgram 168 = .ok (.invokevirtual 151, 3) := by decide +kernel
theorem dX9_checkProgram_171 : decode cX9_checkProgram 171 = .ok (.iinc 2 1, 3) := by decide +kernel
theorem dX9_checkProgram_174 : decode cX9_checkProgram 174 = .ok (.goto (-107), 3) := by decide +kernel
theorem dX9_checkProgram_177 : decode cX9_checkProgram 177 = .ok (.iconst 0, 1) := by decide +kernel
theorem dX9_checkProgram_178 : decode cX9_checkProgram 178 = .ok (.istore_n 2, 1) := by decide +kernel
theorem dX9_checkProgram_179 : decode cX9_checkProgram 179 = .ok (.iload_n 2, 1) := by decide +kernel
theorem dX9_checkProgram_180 : decode cX9_checkProgram 180 = .ok (.aload_n 0, 1) := by decide +kernel
theorem dX9_checkProgram_181 : decode cX9_checkProgram 181 = .ok (.getfield 19, 3) := by decide +kernel
theorem dX9_checkProgram_184 : decode cX9_checkProgram 184 = .ok (.iconst 2, 1) := by decide +kernel
theorem dX9_checkProgram_185 : decode cX9_checkProgram 185 = .ok (.iaload, 1) := by decide +kernel
theorem dX9_checkProgram_186 : decode cX9_checkProgram 186 = .ok (.if_icmp .ge 57, 3) := by decide +kernel
theorem dX9_checkProgram_189 : decode cX9_checkProgram 189 = .ok (.aload_n 0, 1) := by decide +kernel
theorem dX9_checkProgram_190 : decode cX9_checkProgram 190 = .ok (.iconst 2, 1) := by decide +kernel
theorem dX9_checkProgram_191 : decode cX9_checkProgram 191 = .ok (.iload_n 2, 1) := by decide +kernel
theorem dX9_checkProgram_192 : decode cX9_checkProgram 192 = .ok (.iload_n 1, 1) := by decide +kernel
theorem dX9_checkProgram_193 : decode cX9_checkProgram 193 = .ok (.invokevirtual 138, 3) := by decide +kernel
theorem dX9_checkProgram_196 : decode cX9_checkProgram 196 = .ok (.ifCond .eq 25, 3) := by decide +kernel
theorem dX9_checkProgram_199 : decode cX9_checkProgram 199 = .ok (.aload_n 0, 1) := by decide +kernel
theorem dX9_checkProgram_200 : decode cX9_checkProgram 200 = .ok (.iconst 0, 1) := by decide +kernel
theorem dX9_checkProgram_201 : decode cX9_checkProgram 201 = .ok (.aload_n 0, 1) := by decide +kernel
theorem dX9_checkProgram_202 : decode cX9_checkProgram 202 = .ok (.getfield 38, 3) := by decide +kernel
theorem dX9_checkProgram_205 : decode cX9_checkProgram 205 = .ok (.iload_n 2, 1) := by decide +kernel
theorem dX9_checkProgram_206 : decode cX9_checkProgram 206 = .ok (.iaload, 1) := by decide +kernel
theorem dX9_checkProgram_207 : decode cX9_checkProgram 207 = .ok (.iload_n 1, 1) := by decide +kernel
theorem dX9_checkProgram_208 : decode cX9_checkProgram 208 = .ok (.invokevirtual 141, 3) := by decide +kernel
theorem dX9_checkProgram_211 : decode cX9_checkProgram 211 = .ok (.ifCond .ne 10, 3) := by decide +kernel
theorem dX9_checkProgram_214 : decode cX9_checkProgram 214 = .ok (.aload_n 0, 1) := by decide +kernel
theorem dX9_checkProgram_215 : decode cX9_checkProgram 215 = .ok (.iconst 4, 1) := by decide +kernel
theorem dX9_checkProgram_216 : decode cX9_checkProgram 216 = .ok (.iload_n 2, 1) := by decide +kernel
theorem dX9_checkProgram_217 : decode cX9_checkProgram 217 = .ok (.iload_n 1, 1) := by decide +kernel
theorem dX9_checkProgram_218 : decode cX9_checkProgram 218 = .ok (.invokevirtual 151, 3) := by decide +kernel
theorem dX9_checkProgram_221 : decode cX9_checkProgram 221 = .ok (.aload_n 0, 1) := by decide +kernel
theorem dX9_checkProgram_222 : decode cX9_checkProgram 222 = .ok (.iconst 2, 1) := by decide +kernel
theorem dX9_checkProgram_223 : decode cX9_checkProgram 223 = .ok (.iload_n 2, 1) := by decide +kernel
theorem dX9_checkProgram_224 : decode cX9_checkProgram 224 = .ok (.iload_n 1, 1) := by decide +kernel
theorem dX9_checkProgram_225 : decode cX9_checkProgram 225 = .ok (.invokevirtual 141, 3) := by decide +kernel
theorem dX9_checkProgram_228 : decode cX9_checkProgram 228 = .ok (.ifCond .eq 9, 3) := by decide +kernel
theorem dX9_checkProgram_231 : decode cX9_checkProgram 231 = .ok (.aload_n 0, 1) := by decide +kernel
theorem dX9_checkProgram_232 : decode cX9_checkProgram 232 = .ok (.iload_n 2, 1) := by decide +kernel
theorem dX9_checkProgram_233 : decode cX9_checkProgram 233 = .ok (.iload_n 1, 1) := by decide +kernel
theorem dX9_checkProgram_234 : decode cX9_checkProgram 234 = .ok (.invokevirtual 168, 3) := by decide +kernel
theorem dX9_checkProgram_237 : decode cX9_checkProgram 237 = .ok (.iinc 2 1, 3) := by decide +kernel
theorem dX9_checkProgram_240 : decode cX9_checkProgram 240 = .ok (.goto (-61), 3) := by decide +kernel
theorem dX9_checkProgram_243 : decode cX9_checkProgram 243 = .ok (.return_, 1) := by decide +kernel
set_option maxRecDepth 20000 in
theorem ggX9_isGone_X9_is : GoodIn wsX9_isGone wsX9_is := goodIn_r _ [5, 6, 7, 8, 9, 10, 11, 12, 13, 4, 14, 15, 16, 1, 2, 3, 17, 18, 19, 20, 21, 22, 23, 24, 25, 26, 27, 28, 29, 30, 31, 32, 33, 34, 35, 36, 37, 38, 39, 40] (by decide +kernel) (by decide +kernel)
set_option maxRecDepth 20000 in
theorem gX9_isGone_X9_is : GoodIn wsX9_isGone (wsV RX9 141 RX9 yX9_is wsX9_is) := goodIn_app (goodIn_of _ (by decide +kernel)) ggX9_isGone_X9_is
theorem dX9_isGone_0 : decode cX9_isGone 0 = .ok (.iload_n 1, 1) := by decide +kernel
theorem dX9_isGone_1 : decode cX9_isGone 1 = .ok (.iconst (-1), 1) := by decide +kernel
theorem dX9_isGone_2 : decode cX9_isGone 2 = .ok (.if_icmp .eq 23, 3) := by decide +kernel
theorem dX9_isGone_5 : decode cX9_isGone 5 = .ok (.iload_n 1, 1) := by decide +kernel
theorem dX9_isGone_6 : decode cX9_isGone 6 = .ok (.bipush 8, 2) := by decide +kernel
theorem dX9_isGone_8 : decode cX9_isGone 8 = .ok (.if_icmp .eq 17, 3) := by decide +kernel
theorem dX9_isGone_11 : decode cX9_isGone 11 = .ok (.aload_n 0, 1) := by decide +kernel
theorem dX9_isGone_12 : decode cX9_isGone 12 = .ok (.iconst 0, 1) := by decide +kernel
theorem dX9_isGone_13 : decode cX9_isGone 13 = .ok (.iload_n 1, 1) := by decide +kernel
theorem dX9_isGone_14 : decode cX9_isGone 14 = .ok (.iload_n 2, 1) := by decide +kernel
theorem dX9_isGone_15 : decode cX9_isGone 15 = .ok (.invokevirtual 141, 3) := by decide +kernel
theorem dX9_isGone_18 : decode cX9_isGone 18 = .ok (.ifCond .ne 7, 3) := by decide +kernel
theorem dX9_isGone_21 : decode cX9_isGone 21 = .ok (.iconst 1, 1) := by decide +kernel
theorem dX9_isGone_22 : decode cX9_isGone 22 = .ok (.goto 4, 3) := by decide +kernel
theorem dX9_isGone_25 : decode cX9_isGone 25 = .ok (.iconst 0, 1) := by decide +kernel
theorem dX9_isGone_26 : decode cX9_isGone 26 = .ok (.ireturn, 1) := by decide +kernel
set_option maxRecDepth 20000 in
theorem ggX9_checkMember_X9_isGone : GoodIn wsX9_checkMember wsX9_isGone := goodIn_r _ [10, 11, 12, 13, 9, 14, 15, 16, 4, 17, 18, 19, 20, 21, 22, 23, 24, 50, 51, 52, 53, 54, 55, 56, 57, 58, 59, 60, 61, 62, 63, 64, 65, 66, 67, 68, 69, 70, 71, 72, 73] (by decide +kernel) (by decide +kernel)
set_option maxRecDepth 20000 in
theorem gX9_checkMember_X9_isGone : GoodIn wsX9_checkMember (wsV RX9 172 RX9 yX9_isGone wsX9_isGone) := goodIn_app (goodIn_of _ (by decide +kernel)) ggX9_checkMember_X9_isGone
set_option maxRecDepth 20000 in
theorem ggX9_checkMember_X9_note : GoodIn wsX9_checkMember wsX9_note := goodIn_r _ [28, 29, 50, 51, 52, 53, 54, 55, 56, 57, 58, 59, 60, 61, 62, 63, 64, 65, 66, 67, 68, 69, 70, 71, 72, 73] (by decide +kernel) (by decide +kernel)
set_option maxRecDepth 20000 in
theorem gX9_checkMember_X9_note : GoodIn wsX9_checkMember (wsV RX9 151 RX9 yX9_note wsX9_note) := goodIn_app (goodIn_of _ (by decide +kernel)) ggX9_checkMember_X9_note
set_option maxRecDepth 20000 in
theorem ggX9_checkMember_X9_is : GoodIn wsX9_checkMember wsX9_is := goodIn_r _ [14, 15, 16, 4, 17, 18, 19, 20, 21, 9, 22, 23, 24, 11, 12, 13, 50, 51, 52, 53, 54, 55, 56, 57, 58, 59, 60, 61, 62, 63, 64, 65, 66, 67, 68, 69, 70, 71, 72, 73] (by decide +kernel) (by decide +kernel)
set_option maxRecDepth 20000 in
theorem gX9_checkMember_X9_is : GoodIn wsX9_checkMember (wsV RX9 141 RX9 yX9_is wsX9_is) := goodIn_app (goodIn_of _ (by decide +kernel)) ggX9_checkMember_X9_is
set_option maxRecDepth 20000 in
theorem ggX9_checkMember_X9_parentOf : GoodIn wsX9_checkMember wsX9_parentOf := goodIn_r _ [33, 34, 15, 16, 11, 12, 13, 9, 14, 4, 17, 18, 19, 20, 21, 22, 23, 24, 50, 51, 52, 53, 54, 55, 56, 57, 58, 59, 60, 61, 62, 63, 64, 65, 66, 67, 68, 69, 70, 71, 72, 73] (by decide +kernel) (by decide +kernel)
set_option maxRecDepth 20000 in
theorem gX9_checkMember_X9_parentOf : GoodIn wsX9_checkMember (wsV RX9 144 RX9 yX9_parentOf wsX9_parentOf) := goodIn_app (goodIn_of _ (by decide +kernel)) ggX9_checkMember_X9_parentOf
set_option maxRecDepth 20000 in
theorem ggX9_checkMember_X9_findMember : GoodIn wsX9_checkMember wsX9_findMember := goodIn_r _ [38, 34, 4, 5, 3, 39, 40, 9, 41, 11, 12, 13, 14, 15, 16, 17, 18, 19, 20, 21, 22, 23, 24, 30, 31, 32, 33, 50, 51, 52, 53, 54, 55, 56, 57, 58, 59, 60, 61, 62, 63, 64, 65, 66, 67, 68, 69, 70, 71, 72, 73] (by decide +kernel) (by decide +kernel)
set_option maxRecDepth 20000 in
theorem gX9_checkMember_X9_findMember : GoodIn wsX9_checkMember (wsV RX9 158 RX9 yX9_findMember wsX9_findMember) := goodIn_app (goodIn_of _ (by decide +kernel)) ggX9_checkMember_X9_findMember
set_option maxRecDepth 20000 in
theorem ggX9_checkMember_X9_fits : GoodIn wsX9_checkMember wsX9_fits := goodIn_r _ [45, 46, 47, 48, 9, 49, 30, 31, 32, 33, 34, 15, 16, 11, 12, 13, 14, 4, 17, 18, 19, 20, 21, 22, 23, 24, 50, 51, 52, 53, 54, 55, 56, 57, 58, 59, 60, 61, 62, 63, 64, 65, 66, 67, 68, 69, 70, 71, 72, 73] (by decide +kernel) (by decide +kernel)
set_option maxRecDepth 20000 in
theorem gX9_checkMember_X9_fits : GoodIn wsX9_checkMember (wsV RX9 165 RX9 yX9_fits wsX9_fits) := goodIn_app (goodIn_of _ (by decide +kernel)) ggX9_checkMember_X9_fits
theorem dX9_checkMember_0 : decode cX9_checkMember 0 = .ok (.aload_n 0, 1) := by decide +kernel
theorem dX9_checkMember_1 : decode cX9_checkMember 1 = .ok (.aload_n 0, 1) := by decide +kernel
theorem dX9_checkMember_2 : decode cX9_checkMember 2 = .ok (.getfield 44, 3) := by decide +kernel
theorem dX9_checkMember_5 : decode cX9_checkMember 5 = .ok (.iload_n 1, 1) := by decide +kernel
theorem dX9_checkMember_6 : decode cX9_checkMember 6 = .ok (.iaload, 1) := by decide +kernel
theorem dX9_checkMember_7 : decode cX9_checkMember 7 = .ok (.iload_n 2, 1) := by decide +kernel
theorem dX9_checkMember_8 : decode cX9_checkMember 8 = .ok (.invokevirtual 172, 3) := by decide +kernel
theorem dX9_checkMember_11 : decode cX9_checkMember 11 = .ok (.ifCond .ne 37, 3) := by decide +kernel
theorem dX9_checkMember_14 : decode cX9_checkMember 14 = .ok (.aload_n 0, 1) := by decide +kernel
theorem dX9_checkMember_15 : decode cX9_checkMember 15 = .ok (.aload_n 0, 1) := by decide +kernel
theorem dX9_checkMember_16 : decode cX9_checkMember 16 = .ok (.getfield 47, 3) := by decide +kernel
theorem dX9_checkMember_19 : decode cX9_checkMember 19 = .ok (.iconst 2, 1) := by decide +kernel
theorem dX9_checkMember_20 : decode cX9_checkMember 20 = .ok (.iload_n 1, 1) := by decide +kernel
theorem dX9_checkMember_21 : decode cX9_checkMember 21 = .ok (.imul, 1) := by decide +kernel
theorem dX9_checkMember_22 : decode cX9_checkMember 22 = .ok (.iaload, 1) := by decide +kernel
theorem dX9_checkMember_23 : decode cX9_checkMember 23 = .ok (.iload_n 2, 1) := by decide +kernel
theorem dX9_checkMember_24 : decode cX9_checkMember 24 = .ok (.invokevirtual 172, 3) := by decide +kernel
theorem dX9_checkMember_27 : decode cX9_checkMember 27 = .ok (.ifCond .ne 21, 3) := by decide +kernel
theorem dX9_checkMember_30 : decode cX9_checkMember 30 = .ok (.aload_n 0, 1) := by decide +kernel
theorem dX9_checkMember_31 : decode cX9_checkMember 31 = .ok (.aload_n 0, 1) := by decide +kernel
theorem dX9_checkMember_32 : decode cX9_checkMember 32 = .ok (.getfield 47, 3) := by decide +kernel
theorem dX9_checkMember_35 : decode cX9_checkMember 35 = .ok (.iconst 2, 1) := by decide +kernel
theorem dX9_checkMember_36 : decode cX9_checkMember 36 = .ok (.iload_n 1, 1) := by decide +kernel
theorem dX9_checkMember_37 : decode cX9_checkMember 37 = .ok (.imul, 1) := by decide +kernel
theorem dX9_checkMember_38 : decode cX9_checkMember 38 = .ok (.iconst 1, 1) := by decide +kernel
theorem dX9_checkMember_39 : decode cX9_checkMember 39 = .ok (.iadd, 1) := by decide +kernel
theorem dX9_checkMember_40 : decode cX9_checkMember 40 = .ok (.iaload, 1) := by decide +kernel
theorem dX9_checkMember_41 : decode cX9_checkMember 41 = .ok (.iload_n 2, 1) := by decide +kernel
theorem dX9_checkMember_42 : decode cX9_checkMember 42 = .ok (.invokevirtual 172, 3) := by decide +kernel
theorem dX9_checkMember_45 : decode cX9_checkMember 45 = .ok (.ifCond .eq 10, 3) := by decide +kernel
theorem dX9_checkMember_48 : decode cX9_checkMember 48 = .ok (.aload_n 0, 1) := by decide +kernel
theorem dX9_checkMember_49 : decode cX9_checkMember 49 = .ok (.iconst 5, 1) := by decide +kernel
theorem dX9_checkMember_50 : decode cX9_checkMember 50 = .ok (.iload_n 1, 1) := by decide +kernel
theorem dX9_checkMember_51 : decode cX9_checkMember 51 = .ok (.iload_n 2, 1) := by decide +kernel
theorem dX9_checkMember_52 : decode cX9_checkMember 52 = .ok (.invokevirtual 151, 3) := by decide +kernel
theorem dX9_checkMember_55 : decode cX9_checkMember 55 = .ok (.iconst 0, 1) := by decide +kernel
theorem dX9_checkMember_56 : decode cX9_checkMember 56 = .ok (.istore_n 3, 1) := by decide +kernel
theorem dX9_checkMember_57 : decode cX9_checkMember 57 = .ok (.iload_n 3, 1) := by decide +kernel
theorem dX9_checkMember_58 : decode cX9_checkMember 58 = .ok (.iload_n 1, 1) := by decide +kernel
theorem dX9_checkMember_59 : decode cX9_checkMember 59 = .ok (.if_icmp .ge 72, 3) := by decide +kernel
theorem dX9_checkMember_62 : decode cX9_checkMember 62 = .ok (.aload_n 0, 1) := by decide +kernel
theorem dX9_checkMember_63 : decode cX9_checkMember 63 = .ok (.getfield 34, 3) := by decide +kernel
theorem dX9_checkMember_66 : decode cX9_checkMember 66 = .ok (.iload_n 3, 1) := by decide +kernel
theorem dX9_checkMember_67 : decode cX9_checkMember 67 = .ok (.baload, 1) := by decide +kernel
theorem dX9_checkMember_68 : decode cX9_checkMember 68 = .ok (.aload_n 0, 1) := by decide +kernel
theorem dX9_checkMember_69 : decode cX9_checkMember 69 = .ok (.getfield 34, 3) := by decide +kernel
theorem dX9_checkMember_72 : decode cX9_checkMember 72 = .ok (.iload_n 1, 1) := by decide +kernel
theorem dX9_checkMember_73 : decode cX9_checkMember 73 = .ok (.baload, 1) := by decide +kernel
theorem dX9_checkMember_74 : decode cX9_checkMember 74 = .ok (.if_icmp .ne 51, 3) := by decide +kernel
theorem dX9_checkMember_77 : decode cX9_checkMember 77 = .ok (.aload_n 0, 1) := by decide +kernel
theorem dX9_checkMember_78 : decode cX9_checkMember 78 = .ok (.getfield 38, 3) := by decide +kernel
theorem dX9_checkMember_81 : decode cX9_checkMember 81 = .ok (.iload_n 3, 1) := by decide +kernel
theorem dX9_checkMember_82 : decode cX9_checkMember 82 = .ok (.iaload, 1) := by decide +kernel
theorem dX9_checkMember_83 : decode cX9_checkMember 83 = .ok (.aload_n 0, 1) := by decide +kernel
theorem dX9_checkMember_84 : decode cX9_checkMember 84 = .ok (.getfield 38, 3) := by decide +kernel
theorem dX9_checkMember_87 : decode cX9_checkMember 87 = .ok (.iload_n 1, 1) := by decide +kernel
theorem dX9_checkMember_88 : decode cX9_checkMember 88 = .ok (.iaload, 1) := by decide +kernel
theorem dX9_checkMember_89 : decode cX9_checkMember 89 = .ok (.if_icmp .ne 36, 3) := by decide +kernel
theorem dX9_checkMember_92 : decode cX9_checkMember 92 = .ok (.aload_n 0, 1) := by decide +kernel
theorem dX9_checkMember_93 : decode cX9_checkMember 93 = .ok (.getfield 41, 3) := by decide +kernel
theorem dX9_checkMember_96 : decode cX9_checkMember 96 = .ok (.iload_n 3, 1) := by decide +kernel
theorem dX9_checkMember_97 : decode cX9_checkMember 97 = .ok (.iaload, 1) := by decide +kernel
theorem dX9_checkMember_98 : decode cX9_checkMember 98 = .ok (.aload_n 0, 1) := by decide +kernel
theorem dX9_checkMember_99 : decode cX9_checkMember 99 = .ok (.getfield 41, 3) := by decide +kernel
theorem dX9_checkMember_102 : decode cX9_checkMember 102 = .ok (.iload_n 1, 1) := by decide +kernel
theorem dX9_checkMember_103 : decode cX9_checkMember 103 = .ok (.iaload, 1) := by decide +kernel
theorem dX9_checkMember_104 : decode cX9_checkMember 104 = .ok (.if_icmp .ne 21, 3) := by decide +kernel
theorem dX9_checkMember_107 : decode cX9_checkMember 107 = .ok (.aload_n 0, 1) := by decide +kernel
theorem dX9_checkMember_108 : decode cX9_checkMember 108 = .ok (.iconst 2, 1) := by decide +kernel
theorem dX9_checkMember_109 : decode cX9_checkMember 109 = .ok (.iload_n 3, 1) := by decide +kernel
theorem dX9_checkMember_110 : decode cX9_checkMember 110 = .ok (.iload_n 2, 1) := by decide +kernel
theorem dX9_checkMember_111 : decode cX9_checkMember 111 = .ok (.invokevirtual 141, 3) := by decide +kernel
theorem dX9_checkMember_114 : decode cX9_checkMember 114 = .ok (.ifCond .eq 11, 3) := by decide +kernel
theorem dX9_checkMember_117 : decode cX9_checkMember 117 = .ok (.aload_n 0, 1) := by decide +kernel
theorem dX9_checkMember_118 : decode cX9_checkMember 118 = .ok (.bipush 6, 2) := by decide +kernel
theorem dX9_checkMember_120 : decode cX9_checkMember 120 = .ok (.iload_n 1, 1) := by decide +kernel
theorem dX9_checkMember_121 : decode cX9_checkMember 121 = .ok (.iload_n 2, 1) := by decide +kernel
theorem dX9_checkMember_122 : decode cX9_checkMember 122 = .ok (.invokevirtual 151, 3) := by decide +kernel
theorem dX9_checkMember_125 : decode cX9_checkMember 125 = .ok (.iinc 3 1, 3) := by decide +kernel
theorem dX9_checkMember_128 : decode cX9_checkMember 128 = .ok (.goto (-71), 3) := by decide +kernel
theorem dX9_checkMember_131 : decode cX9_checkMember 131 = .ok (.aload_n 0, 1) := by decide +kernel
theorem dX9_checkMember_132 : decode cX9_checkMember 132 = .ok (.aload_n 0, 1) := by decide +kernel
theorem dX9_checkMember_133 : decode cX9_checkMember 133 = .ok (.getfield 38, 3) := by decide +kernel
theorem dX9_checkMember_136 : decode cX9_checkMember 136 = .ok (.iload_n 1, 1) := by decide +kernel
theorem dX9_checkMember_137 : decode cX9_checkMember 137 = .ok (.iaload, 1) := by decide +kernel
theorem dX9_checkMember_138 : decode cX9_checkMember 138 = .ok (.iload_n 2, 1) := by decide +kernel
theorem dX9_checkMember_139 : decode cX9_checkMember 139 = .ok (.invokevirtual 144, 3) := by decide +kernel
theorem dX9_checkMember_142 : decode cX9_checkMember 142 = .ok (.istore_n 3, 1) := by decide +kernel
theorem dX9_checkMember_143 : decode cX9_checkMember 143 = .ok (.aload_n 0, 1) := by decide +kernel
theorem dX9_checkMember_144 : decode cX9_checkMember 144 = .ok (.getfield 34, 3) := by decide +kernel
theorem dX9_checkMember_147 : decode cX9_checkMember 147 = .ok (.iload_n 1, 1) := by decide +kernel
theorem dX9_checkMember_148 : decode cX9_checkMember 148 = .ok (.baload, 1) := by decide +kernel
theorem dX9_checkMember_149 : decode cX9_checkMember 149 = .ok (.ifCond .eq 8, 3) := by decide +kernel
theorem dX9_checkMember_152 : decode cX9_checkMember 152 = .ok (.iload_n 3, 1) := by decide +kernel
theorem dX9_checkMember_153 : decode cX9_checkMember 153 = .ok (.iconst (-1), 1) := by decide +kernel
theorem dX9_checkMember_154 : decode cX9_checkMember 154 = .ok (.if_icmp .ne 4, 3) := by decide +kernel
theorem dX9_checkMember_157 : decode cX9_checkMember 157 = .ok (.return_, 1) := by decide +kernel
theorem dX9_checkMember_158 : decode cX9_checkMember 158 = .ok (.aload_n 0, 1) := by decide +kernel
theorem dX9_checkMember_159 : decode cX9_checkMember 159 = .ok (.iload_n 3, 1) := by decide +kernel
theorem dX9_checkMember_160 : decode cX9_checkMember 160 = .ok (.aload_n 0, 1) := by decide +kernel
theorem dX9_checkMember_161 : decode cX9_checkMember 161 = .ok (.getfield 41, 3) := by decide +kernel
theorem dX9_checkMember_164 : decode cX9_checkMember 164 = .ok (.iload_n 1, 1) := by decide +kernel
theorem dX9_checkMember_165 : decode cX9_checkMember 165 = .ok (.iaload, 1) := by decide +kernel
theorem dX9_checkMember_166 : decode cX9_checkMember 166 = .ok (.iconst 1, 1) := by decide +kernel
theorem dX9_checkMember_167 : decode cX9_checkMember 167 = .ok (.iload_n 2, 1) := by decide +kernel
theorem dX9_checkMember_168 : decode cX9_checkMember 168 = .ok (.invokevirtual 158, 3) := by decide +kernel
theorem dX9_checkMember_171 : decode cX9_checkMember 171 = .ok (.istore 4, 2) := by decide +kernel
theorem dX9_checkMember_173 : decode cX9_checkMember 173 = .ok (.iload 4, 2) := by decide +kernel
theorem dX9_checkMember_175 : decode cX9_checkMember 175 = .ok (.iconst (-1), 1) := by decide +kernel
theorem dX9_checkMember_176 : decode cX9_checkMember 176 = .ok (.if_icmp .eq 9, 3) := by decide +kernel
theorem dX9_checkMember_179 : decode cX9_checkMember 179 = .ok (.iload 4, 2) := by decide +kernel
theorem dX9_checkMember_181 : decode cX9_checkMember 181 = .ok (.iload_n 1, 1) := by decide +kernel
theorem dX9_checkMember_182 : decode cX9_checkMember 182 = .ok (.if_icmp .ne 4, 3) := by decide +kernel
theorem dX9_checkMember_185 : decode cX9_checkMember 185 = .ok (.return_, 1) := by decide +kernel
theorem dX9_checkMember_186 : decode cX9_checkMember 186 = .ok (.aload_n 0, 1) := by decide +kernel
theorem dX9_checkMember_187 : decode cX9_checkMember 187 = .ok (.getfield 47, 3) := by decide +kernel
theorem dX9_checkMember_190 : decode cX9_checkMember 190 = .ok (.iconst 2, 1) := by decide +kernel
theorem dX9_checkMember_191 : decode cX9_checkMember 191 = .ok (.iload_n 1, 1) := by decide +kernel
theorem dX9_checkMember_192 : decode cX9_checkMember 192 = .ok (.imul, 1) := by decide +kernel
theorem dX9_checkMember_193 : decode cX9_checkMember 193 = .ok (.iaload, 1) := by decide +kernel
theorem dX9_checkMember_194 : decode cX9_checkMember 194 = .ok (.aload_n 0, 1) := by decide +kernel
theorem dX9_checkMember_195 : decode cX9_checkMember 195 = .ok (.getfield 47, 3) := by decide +kernel
theorem dX9_checkMember_198 : decode cX9_checkMember 198 = .ok (.iconst 2, 1) := by decide +kernel
theorem dX9_checkMember_199 : decode cX9_checkMember 199 = .ok (.iload 4, 2) := by decide +kernel
theorem dX9_checkMember_201 : decode cX9_checkMember 201 = .ok (.imul, 1) := by decide +kernel
theorem dX9_checkMember_202 : decode cX9_checkMember 202 = .ok (.iaload, 1) := by decide +kernel
theorem dX9_checkMember_203 : decode cX9_checkMember 203 = .ok (.if_icmp .ne 31, 3) := by decide +kernel
theorem dX9_checkMember_206 : decode cX9_checkMember 206 = .ok (.aload_n 0, 1) := by decide +kernel
theorem dX9_checkMember_207 : decode cX9_checkMember 207 = .ok (.getfield 47, 3) := by decide +kernel
theorem dX9_checkMember_210 : decode cX9_checkMember 210 = .ok (.iconst 2, 1) := by decide +kernel
theorem dX9_checkMember_211 : decode cX9_checkMember 211 = .ok (.iload_n 1, 1) := by decide +kernel
theorem dX9_checkMember_212 : decode cX9_checkMember 212 = .ok (.imul, 1) := by decide +kernel
theorem dX9_checkMember_213 : decode cX9_checkMember 213 = .ok (.iconst 1, 1) := by decide +kernel
theorem dX9_checkMember_214 : decode cX9_checkMember 214 = .ok (.iadd, 1) := by decide +kernel
theorem dX9_checkMember_215 : decode cX9_checkMember 215 = .ok (.iaload, 1) := by decide +kernel
theorem dX9_checkMember_216 : decode cX9_checkMember 216 = .ok (.aload_n 0, 1) := by decide +kernel
theorem dX9_checkMember_217 : decode cX9_checkMember 217 = .ok (.getfield 47, 3) := by decide +kernel
theorem dX9_checkMember_220 : decode cX9_checkMember 220 = .ok (.iconst 2, 1) := by decide +kernel
theorem dX9_checkMember_221 : decode cX9_checkMember 221 = .ok (.iload 4, 2) := by decide +kernel
theorem dX9_checkMember_223 : decode cX9_checkMember 223 = .ok (.imul, 1) := by decide +kernel
theorem dX9_checkMember_224 : decode cX9_checkMember 224 = .ok (.iconst 1, 1) := by decide +kernel
theorem dX9_checkMember_225 : decode cX9_checkMember 225 = .ok (.iadd, 1) := by decide +kernel
theorem dX9_checkMember_226 : decode cX9_checkMember 226 = .ok (.iaload, 1) := by decide +kernel
theorem dX9_checkMember_227 : decode cX9_checkMember 227 = .ok (.if_icmp .ne 7, 3) := by decide +kernel
theorem dX9_checkMember_230 : decode cX9_checkMember 230 = .ok (.iconst 1, 1) := by decide +kernel
theorem dX9_checkMember_231 : decode cX9_checkMember 231 = .ok (.goto 4, 3) := by decide +kernel
theorem dX9_checkMember_234 : decode cX9_checkMember 234 = .ok (.iconst 0, 1) := by decide +kernel
theorem dX9_checkMember_235 : decode cX9_checkMember 235 = .ok (.istore 5, 2) := by decide +kernel
theorem dX9_checkMember_237 : decode cX9_checkMember 237 = .ok (.iload 5, 2) := by decide +kernel
theorem dX9_checkMember_239 : decode cX9_checkMember 239 = .ok (.ifCond .eq 24, 3) := by decide +kernel
theorem dX9_checkMember_242 : decode cX9_checkMember 242 = .ok (.aload_n 0, 1) := by decide +kernel
theorem dX9_checkMember_243 : decode cX9_checkMember 243 = .ok (.aload_n 0, 1) := by decide +kernel
theorem dX9_checkMember_244 : decode cX9_checkMember 244 = .ok (.getfield 44, 3) := by decide +kernel
theorem dX9_checkMember_247 : decode cX9_checkMember 247 = .ok (.iload_n 1, 1) := by decide +kernel
theorem dX9_checkMember_248 : decode cX9_checkMember 248 = .ok (.iaload, 1) := by decide +kernel
theorem dX9_checkMember_249 : decode cX9_checkMember 249 = .ok (.aload_n 0, 1) := by decide +kernel
theorem dX9_checkMember_250 : decode cX9_checkMember 250 = .ok (.getfield 44, 3) := by decide +kernel
theorem dX9_checkMember_253 : decode cX9_checkMember 253 = .ok (.iload 4, 2) := by decide +kernel
theorem dX9_checkMember_255 : decode cX9_checkMember 255 = .ok (.iaload, 1) := by decide +kernel
theorem dX9_checkMember_256 : decode cX9_checkMember 256 = .ok (.iload_n 2, 1) := by decide +kernel
theorem dX9_checkMember_257 : decode cX9_checkMember 257 = .ok (.invokevirtual 165, 3) := by decide +kernel
theorem dX9_checkMember_260 : decode cX9_checkMember 260 = .ok (.ifCond .ne 11, 3) := by decide +kernel
theorem dX9_checkMember_263 : decode cX9_checkMember 263 = .ok (.aload_n 0, 1) := by decide +kernel
theorem dX9_checkMember_264 : decode cX9_checkMember 264 = .ok (.bipush 7, 2) := by decide +kernel
theorem dX9_checkMember_266 : decode cX9_checkMember 266 = .ok (.iload_n 1, 1) := by decide +kernel
theorem dX9_checkMember_267 : decode cX9_checkMember 267 = .ok (.iload_n 2, 1) := by decide +kernel
theorem dX9_checkMember_268 : decode cX9_checkMember 268 = .ok (.invokevirtual 151, 3) := by decide +kernel
theorem dX9_checkMember_271 : decode cX9_checkMember 271 = .ok (.return_, 1) := by decide +kernel
set_option maxRecDepth 20000 in
theorem ggX9_know_X9_isProduct : GoodIn wsX9_know wsX9_isProduct := goodIn_r _ [13, 14, 15, 16, 17, 18, 19, 12, 20, 21, 22, 23, 87, 88, 89, 90, 91, 92, 93, 94, 95, 96, 97, 98, 99, 100, 101, 102, 103, 104, 105, 106, 107, 108, 109, 110] (by decide +kernel) (by decide +kernel)
set_option maxRecDepth 20000 in
theorem gX9_know_X9_isProduct : GoodIn wsX9_know (wsV RX9 100 RX9 yX9_isProduct wsX9_isProduct) := goodIn_app (goodIn_of _ (by decide +kernel)) ggX9_know_X9_isProduct
set_option maxRecDepth 20000 in
theorem ggX9_know_X9_checkProgram : GoodIn wsX9_know wsX9_checkProgram := goodIn_r _ [27, 6, 28, 29, 30, 31, 32, 33, 12, 34, 35, 36, 37, 38, 39, 40, 5, 7, 41, 42, 43, 44, 2, 45, 46, 47, 48, 49, 50, 51, 52, 53, 54, 55, 56, 8, 57, 58, 59, 60, 61, 62, 63, 64, 65, 66, 67, 21, 22, 23, 68, 69, 70, 71, 87, 88, 89, 90, 91, 92, 93, 94, 95, 96, 97, 98, 99, 100, 101, 102, 103, 104, 105, 106, 107, 108, 109, 110] (by decide +kernel) (by decide +kernel)
set_option maxRecDepth 20000 in
theorem gX9_know_X9_checkProgram : GoodIn wsX9_know (wsV RX9 175 RX9 yX9_checkProgram wsX9_checkProgram) := goodIn_app (goodIn_of _ (by decide +kernel)) ggX9_know_X9_checkProgram
set_option maxRecDepth 20000 in
theorem ggX9_know_X9_is : GoodIn wsX9_know wsX9_is := goodIn_r _ [40, 28, 29, 30, 5, 7, 31, 32, 33, 12, 34, 35, 36, 37, 38, 39, 87, 88, 89, 90, 91, 92, 93, 94, 95, 96, 97, 98, 99, 100, 101, 102, 103, 104, 105, 106, 107, 108, 109, 110] (by decide +kernel) (by decide +kernel)
set_option maxRecDepth 20000 in
theorem gX9_know_X9_is : GoodIn wsX9_know (wsV RX9 141 RX9 yX9_is wsX9_is) := goodIn_app (goodIn_of _ (by decide +kernel)) ggX9_know_X9_is
set_option maxRecDepth 20000 in
theorem ggX9_know_X9_findType : GoodIn wsX9_know wsX9_findType := goodIn_r _ [75, 5, 76, 77, 30, 57, 78, 8, 37, 38, 39, 12, 40, 28, 29, 7, 31, 32, 33, 34, 35, 36, 41, 42, 43, 44, 2, 79, 80, 81, 82, 4, 64, 65, 66, 67, 6, 59, 58, 21, 22, 23, 49, 50, 51, 52, 83, 84, 85, 86, 68, 69, 70, 71, 45, 46, 47, 48, 87, 88, 89, 90, 91, 92, 93, 94, 95, 96, 97, 98, 99, 100, 101, 102, 103, 104, 105, 106, 107, 108, 109, 110] (by decide +kernel) (by decide +kernel)
set_option maxRecDepth 20000 in
theorem gX9_know_X9_findType : GoodIn wsX9_know (wsV RX9 179 RX9 yX9_findType wsX9_findType) := goodIn_app (goodIn_of _ (by decide +kernel)) ggX9_know_X9_findType
set_option maxRecDepth 20000 in
theorem ggX9_know_X9_typeIn : GoodIn wsX9_know wsX9_typeIn := goodIn_r _ [82, 4, 87, 88, 89, 90, 91, 92, 93, 94, 95, 96, 97, 98, 99, 100, 101, 102, 103, 104, 105, 106, 107, 108, 109, 110] (by decide +kernel) (by decide +kernel)
set_option maxRecDepth 20000 in
theorem gX9_know_X9_typeIn : GoodIn wsX9_know (wsV RX9 155 RX9 yX9_typeIn wsX9_typeIn) := goodIn_app (goodIn_of _ (by decide +kernel)) ggX9_know_X9_typeIn
set_option maxRecDepth 20000 in
theorem ggX9_know_X9_fits : GoodIn wsX9_know wsX9_fits := goodIn_r _ [71, 45, 46, 47, 12, 48, 49, 50, 51, 52, 6, 28, 29, 37, 38, 39, 40, 30, 5, 7, 31, 32, 33, 34, 35, 36, 87, 88, 89, 90, 91, 92, 93, 94, 95, 96, 97, 98, 99, 100, 101, 102, 103, 104, 105, 106, 107, 108, 109, 110] (by decide +kernel) (by decide +kernel)
set_option maxRecDepth 20000 in
theorem gX9_know_X9_fits : GoodIn wsX9_know (wsV RX9 165 RX9 yX9_fits wsX9_fits) := goodIn_app (goodIn_of _ (by decide +kernel)) ggX9_know_X9_fits
set_option maxRecDepth 20000 in
theorem ggX9_know_X9_note : GoodIn wsX9_know wsX9_note := goodIn_r _ [44, 2, 87, 88, 89, 90, 91, 92, 93, 94, 95, 96, 97, 98, 99, 100, 101, 102, 103, 104, 105, 106, 107, 108, 109, 110] (by decide +kernel) (by decide +kernel)
set_option maxRecDepth 20000 in
theorem gX9_know_X9_note : GoodIn wsX9_know (wsV RX9 151 RX9 yX9_note wsX9_note) := goodIn_app (goodIn_of _ (by decide +kernel)) ggX9_know_X9_note
theorem dX9_know_0 : decode cX9_know 0 = .ok (.aload_n 0, 1) := by decide +kernel
theorem dX9_know_1 : decode cX9_know 1 = .ok (.getfield 93, 3) := by decide +kernel
theorem dX9_know_4 : decode cX9_know 4 = .ok (.ifCond .eq 4, 3) := by decide +kernel
theorem dX9_know_7 : decode cX9_know 7 = .ok (.return_, 1) := by decide +kernel
theorem dX9_know_8 : decode cX9_know 8 = .ok (.aload_n 0, 1) := by decide +kernel
theorem dX9_know_9 : decode cX9_know 9 = .ok (.iconst 1, 1) := by decide +kernel
theorem dX9_know_10 : decode cX9_know 10 = .ok (.putfield 93, 3) := by decide +kernel
theorem dX9_know_13 : decode cX9_know 13 = .ok (.iconst 0, 1) := by decide +kernel
theorem dX9_know_14 : decode cX9_know 14 = .ok (.istore_n 1, 1) := by decide +kernel
theorem dX9_know_15 : decode cX9_know 15 = .ok (.iload_n 1, 1) := by decide +kernel
theorem dX9_know_16 : decode cX9_know 16 = .ok (.sipush 650, 3) := by decide +kernel
theorem dX9_know_19 : decode cX9_know 19 = .ok (.if_icmp .ge 16, 3) := by decide +kernel
theorem dX9_know_22 : decode cX9_know 22 = .ok (.aload_n 0, 1) := by decide +kernel
theorem dX9_know_23 : decode cX9_know 23 = .ok (.getfield 68, 3) := by decide +kernel
theorem dX9_know_26 : decode cX9_know 26 = .ok (.iload_n 1, 1) := by decide +kernel
theorem dX9_know_27 : decode cX9_know 27 = .ok (.iconst 0, 1) := by decide +kernel
theorem dX9_know_28 : decode cX9_know 28 = .ok (.iastore, 1) := by decide +kernel
theorem dX9_know_29 : decode cX9_know 29 = .ok (.iinc 1 1, 3) := by decide +kernel
theorem dX9_know_32 : decode cX9_know 32 = .ok (.goto (-17), 3) := by decide +kernel
theorem dX9_know_35 : decode cX9_know 35 = .ok (.iconst 0, 1) := by decide +kernel
theorem dX9_know_36 : decode cX9_know 36 = .ok (.istore_n 1, 1) := by decide +kernel
theorem dX9_know_37 : decode cX9_know 37 = .ok (.iload_n 1, 1) := by decide +kernel
theorem dX9_know_38 : decode cX9_know 38 = .ok (.bipush 16, 2) := by decide +kernel
theorem dX9_know_40 : decode cX9_know 40 = .ok (.if_icmp .ge 155, 3) := by decide +kernel
theorem dX9_know_43 : decode cX9_know 43 = .ok (.aload_n 0, 1) := by decide +kernel
theorem dX9_know_44 : decode cX9_know 44 = .ok (.iload_n 1, 1) := by decide +kernel
theorem dX9_know_45 : decode cX9_know 45 = .ok (.invokevirtual 100, 3) := by decide +kernel
theorem dX9_know_48 : decode cX9_know 48 = .ok (.ifCond .ne 6, 3) := by decide +kernel
theorem dX9_know_51 : decode cX9_know 51 = .ok (.goto 138, 3) := by decide +kernel
theorem dX9_know_54 : decode cX9_know 54 = .ok (.aload_n 0, 1) := by decide +kernel
theorem dX9_know_55 : decode cX9_know 55 = .ok (.iload_n 1, 1) := by decide +kernel
theorem dX9_know_56 : decode cX9_know 56 = .ok (.invokevirtual 175, 3) := by decide +kernel
theorem dX9_know_59 : decode cX9_know 59 = .ok (.iconst 0, 1) := by decide +kernel
theorem dX9_know_60 : decode cX9_know 60 = .ok (.istore_n 2, 1) := by decide +kernel
theorem dX9_know_61 : decode cX9_know 61 = .ok (.iload_n 2, 1) := by decide +kernel
theorem dX9_know_62 : decode cX9_know 62 = .ok (.aload_n 0, 1) := by decide +kernel
theorem dX9_know_63 : decode cX9_know 63 = .ok (.getfield 83, 3) := by decide +kernel
theorem dX9_know_66 : decode cX9_know 66 = .ok (.if_icmp .ge 46, 3) := by decide +kernel
theorem dX9_know_69 : decode cX9_know 69 = .ok (.aload_n 0, 1) := by decide +kernel
theorem dX9_know_70 : decode cX9_know 70 = .ok (.getfield 65, 3) := by decide +kernel
theorem dX9_know_73 : decode cX9_know 73 = .ok (.bipush 50, 2) := by decide +kernel
theorem dX9_know_75 : decode cX9_know 75 = .ok (.iload_n 1, 1) := by decide +kernel
theorem dX9_know_76 : decode cX9_know 76 = .ok (.imul, 1) := by decide +kernel
theorem dX9_know_77 : decode cX9_know 77 = .ok (.iload_n 2, 1) := by decide +kernel
theorem dX9_know_78 : decode cX9_know 78 = .ok (.iadd, 1) := by decide +kernel
theorem dX9_know_79 : decode cX9_know 79 = .ok (.aload_n 0, 1) := by decide +kernel
theorem dX9_know_80 : decode cX9_know 80 = .ok (.iconst 2, 1) := by decide +kernel
theorem dX9_know_81 : decode cX9_know 81 = .ok (.aload_n 0, 1) := by decide +kernel
theorem dX9_know_82 : decode cX9_know 82 = .ok (.getfield 56, 3) := by decide +kernel
theorem dX9_know_85 : decode cX9_know 85 = .ok (.iload_n 2, 1) := by decide +kernel
theorem dX9_know_86 : decode cX9_know 86 = .ok (.iaload, 1) := by decide +kernel
theorem dX9_know_87 : decode cX9_know 87 = .ok (.iload_n 1, 1) := by decide +kernel
theorem dX9_know_88 : decode cX9_know 88 = .ok (.invokevirtual 141, 3) := by decide +kernel
theorem dX9_know_91 : decode cX9_know 91 = .ok (.ifCond .eq 12, 3) := by decide +kernel
theorem dX9_know_94 : decode cX9_know 94 = .ok (.aload_n 0, 1) := by decide +kernel
theorem dX9_know_95 : decode cX9_know 95 = .ok (.iload_n 2, 1) := by decide +kernel
theorem dX9_know_96 : decode cX9_know 96 = .ok (.iload_n 1, 1) := by decide +kernel
theorem dX9_know_97 : decode cX9_know 97 = .ok (.invokevirtual 179, 3) := by decide +kernel
theorem dX9_know_100 : decode cX9_know 100 = .ok (.goto 5, 3) := by decide +kernel
theorem dX9_know_103 : decode cX9_know 103 = .ok (.bipush (-2), 2) := by decide +kernel
theorem dX9_know_105 : decode cX9_know 105 = .ok (.iastore, 1) := by decide +kernel
theorem dX9_know_106 : decode cX9_know 106 = .ok (.iinc 2 1, 3) := by decide +kernel
theorem dX9_know_109 : decode cX9_know 109 = .ok (.goto (-48), 3) := by decide +kernel
theorem dX9_know_112 : decode cX9_know 112 = .ok (.iconst 0, 1) := by decide +kernel
theorem dX9_know_113 : decode cX9_know 113 = .ok (.istore_n 2, 1) := by decide +kernel
theorem dX9_know_114 : decode cX9_know 114 = .ok (.iload_n 2, 1) := by decide +kernel
theorem dX9_know_115 : decode cX9_know 115 = .ok (.aload_n 0, 1) := by decide +kernel
theorem dX9_know_116 : decode cX9_know 116 = .ok (.getfield 19, 3) := by decide +kernel
theorem dX9_know_119 : decode cX9_know 119 = .ok (.iconst 3, 1) := by decide +kernel
theorem dX9_know_120 : decode cX9_know 120 = .ok (.iaload, 1) := by decide +kernel
theorem dX9_know_121 : decode cX9_know 121 = .ok (.if_icmp .ge 68, 3) := by decide +kernel
theorem dX9_know_124 : decode cX9_know 124 = .ok (.aload_n 0, 1) := by decide +kernel
theorem dX9_know_125 : decode cX9_know 125 = .ok (.getfield 50, 3) := by decide +kernel
theorem dX9_know_128 : decode cX9_know 128 = .ok (.iload_n 2, 1) := by decide +kernel
theorem dX9_know_129 : decode cX9_know 129 = .ok (.iaload, 1) := by decide +kernel
theorem dX9_know_130 : decode cX9_know 130 = .ok (.istore_n 3, 1) := by decide +kernel
theorem dX9_know_131 : decode cX9_know 131 = .ok (.aload_n 0, 1) := by decide +kernel
theorem dX9_know_132 : decode cX9_know 132 = .ok (.iconst 3, 1) := by decide +kernel
theorem dX9_know_133 : decode cX9_know 133 = .ok (.iload_n 2, 1) := by decide +kernel
theorem dX9_know_134 : decode cX9_know 134 = .ok (.iload_n 1, 1) := by decide +kernel
theorem dX9_know_135 : decode cX9_know 135 = .ok (.invokevirtual 141, 3) := by decide +kernel
theorem dX9_know_138 : decode cX9_know 138 = .ok (.ifCond .eq 45, 3) := by decide +kernel
theorem dX9_know_141 : decode cX9_know 141 = .ok (.aload_n 0, 1) := by decide +kernel
theorem dX9_know_142 : decode cX9_know 142 = .ok (.iload_n 3, 1) := by decide +kernel
theorem dX9_know_143 : decode cX9_know 143 = .ok (.iload_n 1, 1) := by decide +kernel
theorem dX9_know_144 : decode cX9_know 144 = .ok (.invokevirtual 155, 3) := by decide +kernel
theorem dX9_know_147 : decode cX9_know 147 = .ok (.ifCond .lt 36, 3) := by decide +kernel
theorem dX9_know_150 : decode cX9_know 150 = .ok (.aload_n 0, 1) := by decide +kernel
theorem dX9_know_151 : decode cX9_know 151 = .ok (.aload_n 0, 1) := by decide +kernel
theorem dX9_know_152 : decode cX9_know 152 = .ok (.iload_n 3, 1) := by decide +kernel
theorem dX9_know_153 : decode cX9_know 153 = .ok (.iload_n 1, 1) := by decide +kernel
theorem dX9_know_154 : decode cX9_know 154 = .ok (.invokevirtual 155, 3) := by decide +kernel
theorem dX9_know_157 : decode cX9_know 157 = .ok (.aload_n 0, 1) := by decide +kernel
theorem dX9_know_158 : decode cX9_know 158 = .ok (.getfield 44, 3) := by decide +kernel
theorem dX9_know_161 : decode cX9_know 161 = .ok (.aload_n 0, 1) := by decide +kernel
theorem dX9_know_162 : decode cX9_know 162 = .ok (.getfield 56, 3) := by decide +kernel
theorem dX9_know_165 : decode cX9_know 165 = .ok (.iload_n 3, 1) := by decide +kernel
theorem dX9_know_166 : decode cX9_know 166 = .ok (.iaload, 1) := by decide +kernel
theorem dX9_know_167 : decode cX9_know 167 = .ok (.iaload, 1) := by decide +kernel
theorem dX9_know_168 : decode cX9_know 168 = .ok (.iload_n 1, 1) := by decide +kernel
theorem dX9_know_169 : decode cX9_know 169 = .ok (.invokevirtual 165, 3) := by decide +kernel
theorem dX9_know_172 : decode cX9_know 172 = .ok (.ifCond .ne 11, 3) := by decide +kernel
theorem dX9_know_175 : decode cX9_know 175 = .ok (.aload_n 0, 1) := by decide +kernel
theorem dX9_know_176 : decode cX9_know 176 = .ok (.bipush 12, 2) := by decide +kernel
theorem dX9_know_178 : decode cX9_know 178 = .ok (.iload_n 2, 1) := by decide +kernel
theorem dX9_know_179 : decode cX9_know 179 = .ok (.iload_n 1, 1) := by decide +kernel
theorem dX9_know_180 : decode cX9_know 180 = .ok (.invokevirtual 151, 3) := by decide +kernel
theorem dX9_know_183 : decode cX9_know 183 = .ok (.iinc 2 1, 3) := by decide +kernel
theorem dX9_know_186 : decode cX9_know 186 = .ok (.goto (-72), 3) := by decide +kernel
theorem dX9_know_189 : decode cX9_know 189 = .ok (.iinc 1 1, 3) := by decide +kernel
theorem dX9_know_192 : decode cX9_know 192 = .ok (.goto (-155), 3) := by decide +kernel
theorem dX9_know_195 : decode cX9_know 195 = .ok (.return_, 1) := by decide +kernel
set_option maxRecDepth 20000 in
theorem ggX9_presenceOf_X9_isProduct : GoodIn wsX9_presenceOf wsX9_isProduct := goodIn_r _ [5, 6, 7, 8, 9, 10, 11, 4, 12, 13, 14, 15, 31, 32, 33, 34, 35, 36, 37, 38, 39, 40, 41, 42, 43, 44, 45, 46, 47, 48, 49, 50, 51, 52, 53, 54] (by decide +kernel) (by decide +kernel)
set_option maxRecDepth 20000 in
theorem gX9_presenceOf_X9_isProduct : GoodIn wsX9_presenceOf (wsV RX9 100 RX9 yX9_isProduct wsX9_isProduct) := goodIn_app (goodIn_of _ (by decide +kernel)) ggX9_presenceOf_X9_isProduct
set_option maxRecDepth 20000 in
theorem ggX9_presenceOf_X9_is : GoodIn wsX9_presenceOf wsX9_is := goodIn_r _ [19, 20, 21, 22, 23, 24, 25, 26, 27, 4, 28, 29, 30, 16, 17, 18, 31, 32, 33, 34, 35, 36, 37, 38, 39, 40, 41, 42, 43, 44, 45, 46, 47, 48, 49, 50, 51, 52, 53, 54] (by decide +kernel) (by decide +kernel)
set_option maxRecDepth 20000 in
theorem gX9_presenceOf_X9_is : GoodIn wsX9_presenceOf (wsV RX9 141 RX9 yX9_is wsX9_is) := goodIn_app (goodIn_of _ (by decide +kernel)) ggX9_presenceOf_X9_is
theorem dX9_presenceOf_0 : decode cX9_presenceOf 0 = .ok (.iconst 0, 1) := by decide +kernel
theorem dX9_presenceOf_1 : decode cX9_presenceOf 1 = .ok (.istore_n 3, 1) := by decide +kernel
theorem dX9_presenceOf_2 : decode cX9_presenceOf 2 = .ok (.iconst 0, 1) := by decide +kernel
theorem dX9_presenceOf_3 : decode cX9_presenceOf 3 = .ok (.istore 4, 2) := by decide +kernel
theorem dX9_presenceOf_5 : decode cX9_presenceOf 5 = .ok (.iload 4, 2) := by decide +kernel
theorem dX9_presenceOf_7 : decode cX9_presenceOf 7 = .ok (.bipush 16, 2) := by decide +kernel
theorem dX9_presenceOf_9 : decode cX9_presenceOf 9 = .ok (.if_icmp .ge 36, 3) := by decide +kernel
theorem dX9_presenceOf_12 : decode cX9_presenceOf 12 = .ok (.aload_n 0, 1) := by decide +kernel
theorem dX9_presenceOf_13 : decode cX9_presenceOf 13 = .ok (.iload 4, 2) := by decide +kernel
theorem dX9_presenceOf_15 : decode cX9_presenceOf 15 = .ok (.invokevirtual 100, 3) := by decide +kernel
theorem dX9_presenceOf_18 : decode cX9_presenceOf 18 = .ok (.ifCond .eq 21, 3) := by decide +kernel
theorem dX9_presenceOf_21 : decode cX9_presenceOf 21 = .ok (.aload_n 0, 1) := by decide +kernel
theorem dX9_presenceOf_22 : decode cX9_presenceOf 22 = .ok (.iload_n 1, 1) := by decide +kernel
theorem dX9_presenceOf_23 : decode cX9_presenceOf 23 = .ok (.iload_n 2, 1) := by decide +kernel
theorem dX9_presenceOf_24 : decode cX9_presenceOf 24 = .ok (.iload 4, 2) := by decide +kernel
theorem dX9_presenceOf_26 : decode cX9_presenceOf 26 = .ok (.invokevirtual 141, 3) := by decide +kernel
theorem dX9_presenceOf_29 : decode cX9_presenceOf 29 = .ok (.ifCond .eq 10, 3) := by decide +kernel
theorem dX9_presenceOf_32 : decode cX9_presenceOf 32 = .ok (.iload_n 3, 1) := by decide +kernel
theorem dX9_presenceOf_33 : decode cX9_presenceOf 33 = .ok (.iconst 1, 1) := by decide +kernel
theorem dX9_presenceOf_34 : decode cX9_presenceOf 34 = .ok (.iload 4, 2) := by decide +kernel
theorem dX9_presenceOf_36 : decode cX9_presenceOf 36 = .ok (.ishl, 1) := by decide +kernel
theorem dX9_presenceOf_37 : decode cX9_presenceOf 37 = .ok (.ior, 1) := by decide +kernel
theorem dX9_presenceOf_38 : decode cX9_presenceOf 38 = .ok (.istore_n 3, 1) := by decide +kernel
theorem dX9_presenceOf_39 : decode cX9_presenceOf 39 = .ok (.iinc 4 1, 3) := by decide +kernel
theorem dX9_presenceOf_42 : decode cX9_presenceOf 42 = .ok (.goto (-37), 3) := by decide +kernel
theorem dX9_presenceOf_45 : decode cX9_presenceOf 45 = .ok (.iload_n 3, 1) := by decide +kernel
theorem dX9_presenceOf_46 : decode cX9_presenceOf 46 = .ok (.ireturn, 1) := by decide +kernel
set_option maxRecDepth 20000 in
theorem ggX9_presence_X9_isElement : GoodIn wsX9_presence wsX9_isElement := goodIn_r _ [6, 7, 8, 9, 5, 10, 45, 46, 47, 48, 49, 50, 51, 52, 53, 54, 55, 56, 57, 58, 59, 60, 61, 62, 63, 64, 65, 66, 67, 68] (by decide +kernel) (by decide +kernel)
set_option maxRecDepth 20000 in
theorem gX9_presence_X9_isElement : GoodIn wsX9_presence (wsV RX9 79 RX9 yX9_isElement wsX9_isElement) := goodIn_app (goodIn_of _ (by decide +kernel)) ggX9_presence_X9_isElement
set_option maxRecDepth 20000 in
theorem ggX9_presence_X9_presenceOf : GoodIn wsX9_presence wsX9_presenceOf := goodIn_r _ [14, 15, 16, 17, 5, 18, 19, 20, 21, 22, 8, 9, 10, 23, 24, 25, 26, 27, 28, 29, 30, 31, 32, 33, 34, 35, 36, 37, 38, 39, 40, 45, 46, 47, 48, 49, 50, 51, 52, 53, 54, 55, 56, 57, 58, 59, 60, 61, 62, 63, 64, 65, 66, 67, 68] (by decide +kernel) (by decide +kernel)
set_option maxRecDepth 20000 in
theorem gX9_presence_X9_presenceOf : GoodIn wsX9_presence (wsV RX9 182 RX9 yX9_presenceOf wsX9_presenceOf) := goodIn_app (goodIn_of _ (by decide +kernel)) ggX9_presence_X9_presenceOf
set_option maxRecDepth 20000 in
theorem ggX9_presence_X9_no : GoodIn wsX9_presence wsX9_no := goodIn_r _ [44, 1, 45, 46, 47, 48, 49, 50, 51, 52, 53, 54, 55, 56, 57, 58, 59, 60, 61, 62, 63, 64, 65, 66, 67, 68] (by decide +kernel) (by decide +kernel)
set_option maxRecDepth 20000 in
theorem gX9_presence_X9_no : GoodIn wsX9_presence (wsV RX9 86 RX9 yX9_no wsX9_no) := goodIn_app (goodIn_of _ (by decide +kernel)) ggX9_presence_X9_no
theorem dX9_presence_0 : decode cX9_presence 0 = .ok (.aload_n 0, 1) := by decide +kernel
theorem dX9_presence_1 : decode cX9_presence 1 = .ok (.iconst 0, 1) := by decide +kernel
theorem dX9_presence_2 : decode cX9_presence 2 = .ok (.putfield 71, 3) := by decide +kernel
theorem dX9_presence_5 : decode cX9_presence 5 = .ok (.aload_n 0, 1) := by decide +kernel
theorem dX9_presence_6 : decode cX9_presence 6 = .ok (.iload_n 1, 1) := by decide +kernel
theorem dX9_presence_7 : decode cX9_presence 7 = .ok (.iload_n 2, 1) := by decide +kernel
theorem dX9_presence_8 : decode cX9_presence 8 = .ok (.invokevirtual 79, 3) := by decide +kernel
theorem dX9_presence_11 : decode cX9_presence 11 = .ok (.ifCond .eq 12, 3) := by decide +kernel
theorem dX9_presence_14 : decode cX9_presence 14 = .ok (.aload_n 0, 1) := by decide +kernel
theorem dX9_presence_15 : decode cX9_presence 15 = .ok (.iload_n 1, 1) := by decide +kernel
theorem dX9_presence_16 : decode cX9_presence 16 = .ok (.iload_n 2, 1) := by decide +kernel
theorem dX9_presence_17 : decode cX9_presence 17 = .ok (.invokevirtual 182, 3) := by decide +kernel
theorem dX9_presence_20 : decode cX9_presence 20 = .ok (.goto 8, 3) := by decide +kernel
theorem dX9_presence_23 : decode cX9_presence 23 = .ok (.aload_n 0, 1) := by decide +kernel
theorem dX9_presence_24 : decode cX9_presence 24 = .ok (.iconst 1, 1) := by decide +kernel
theorem dX9_presence_25 : decode cX9_presence 25 = .ok (.invokevirtual 86, 3) := by decide +kernel
theorem dX9_presence_28 : decode cX9_presence 28 = .ok (.ireturn, 1) := by decide +kernel
set_option maxRecDepth 20000 in
theorem ggX9_parent_X9_isElement : GoodIn wsX9_parent wsX9_isElement := goodIn_r _ [6, 7, 8, 9, 5, 10, 45, 46, 47, 48, 49, 50, 51, 52, 53, 54, 55, 56, 57, 58, 59, 60, 61, 62, 63, 64, 65, 66, 67, 68] (by decide +kernel) (by decide +kernel)
set_option maxRecDepth 20000 in
theorem gX9_parent_X9_isElement : GoodIn wsX9_parent (wsV RX9 79 RX9 yX9_isElement wsX9_isElement) := goodIn_app (goodIn_of _ (by decide +kernel)) ggX9_parent_X9_isElement
set_option maxRecDepth 20000 in
theorem ggX9_parent_X9_no : GoodIn wsX9_parent wsX9_no := goodIn_r _ [14, 1, 45, 46, 47, 48, 49, 50, 51, 52, 53, 54, 55, 56, 57, 58, 59, 60, 61, 62, 63, 64, 65, 66, 67, 68] (by decide +kernel) (by decide +kernel)
set_option maxRecDepth 20000 in
theorem gX9_parent_X9_no : GoodIn wsX9_parent (wsV RX9 86 RX9 yX9_no wsX9_no) := goodIn_app (goodIn_of _ (by decide +kernel)) ggX9_parent_X9_no
set_option maxRecDepth 20000 in
theorem ggX9_parent_X9_isProduct : GoodIn wsX9_parent wsX9_isProduct := goodIn_r _ [18, 19, 20, 21, 22, 8, 9, 5, 10, 23, 24, 25, 45, 46, 47, 48, 49, 50, 51, 52, 53, 54, 55, 56, 57, 58, 59, 60, 61, 62, 63, 64, 65, 66, 67, 68] (by decide +kernel) (by decide +kernel)
set_option maxRecDepth 20000 in
theorem gX9_parent_X9_isProduct : GoodIn wsX9_parent (wsV RX9 100 RX9 yX9_isProduct wsX9_isProduct) := goodIn_app (goodIn_of _ (by decide +kernel)) ggX9_parent_X9_isProduct
set_option maxRecDepth 20000 in
theorem ggX9_parent_X9_parentOf : GoodIn wsX9_parent wsX9_parentOf := goodIn_r _ [29, 7, 30, 31, 32, 33, 34, 5, 35, 36, 37, 38, 39, 40, 41, 42, 43, 44, 45, 46, 47, 48, 49, 50, 51, 52, 53, 54, 55, 56, 57, 58, 59, 60, 61, 62, 63, 64, 65, 66, 67, 68] (by decide +kernel) (by decide +kernel)
set_option maxRecDepth 20000 in
theorem gX9_parent_X9_parentOf : GoodIn wsX9_parent (wsV RX9 144 RX9 yX9_parentOf wsX9_parentOf) := goodIn_app (goodIn_of _ (by decide +kernel)) ggX9_parent_X9_parentOf
theorem dX9_parent_0 : decode cX9_parent 0 = .ok (.aload_n 0, 1) := by decide +kernel
theorem dX9_parent_1 : decode cX9_parent 1 = .ok (.iconst 0, 1) := by decide +kernel
theorem dX9_parent_2 : decode cX9_parent 2 = .ok (.putfield 71, 3) := by decide +kernel
theorem dX9_parent_5 : decode cX9_parent 5 = .ok (.aload_n 0, 1) := by decide +kernel
theorem dX9_parent_6 : decode cX9_parent 6 = .ok (.iconst 0, 1) := by decide +kernel
theorem dX9_parent_7 : decode cX9_parent 7 = .ok (.iload_n 1, 1) := by decide +kernel
theorem dX9_parent_8 : decode cX9_parent 8 = .ok (.invokevirtual 79, 3) := by decide +kernel
theorem dX9_parent_11 : decode cX9_parent 11 = .ok (.ifCond .ne 9, 3) := by decide +kernel
theorem dX9_parent_14 : decode cX9_parent 14 = .ok (.aload_n 0, 1) := by decide +kernel
theorem dX9_parent_15 : decode cX9_parent 15 = .ok (.iconst 1, 1) := by decide +kernel
theorem dX9_parent_16 : decode cX9_parent 16 = .ok (.invokevirtual 86, 3) := by decide +kernel
theorem dX9_parent_19 : decode cX9_parent 19 = .ok (.ireturn, 1) := by decide +kernel
theorem dX9_parent_20 : decode cX9_parent 20 = .ok (.aload_n 0, 1) := by decide +kernel
theorem dX9_parent_21 : decode cX9_parent 21 = .ok (.iload_n 2, 1) := by decide +kernel
theorem dX9_parent_22 : decode cX9_parent 22 = .ok (.invokevirtual 100, 3) := by decide +kernel
theorem dX9_parent_25 : decode cX9_parent 25 = .ok (.ifCond .eq 12, 3) := by decide +kernel
theorem dX9_parent_28 : decode cX9_parent 28 = .ok (.aload_n 0, 1) := by decide +kernel
theorem dX9_parent_29 : decode cX9_parent 29 = .ok (.iload_n 1, 1) := by decide +kernel
theorem dX9_parent_30 : decode cX9_parent 30 = .ok (.iload_n 2, 1) := by decide +kernel
theorem dX9_parent_31 : decode cX9_parent 31 = .ok (.invokevirtual 144, 3) := by decide +kernel
theorem dX9_parent_34 : decode cX9_parent 34 = .ok (.goto 8, 3) := by decide +kernel
theorem dX9_parent_37 : decode cX9_parent 37 = .ok (.aload_n 0, 1) := by decide +kernel
theorem dX9_parent_38 : decode cX9_parent 38 = .ok (.iconst 2, 1) := by decide +kernel
theorem dX9_parent_39 : decode cX9_parent 39 = .ok (.invokevirtual 86, 3) := by decide +kernel
theorem dX9_parent_42 : decode cX9_parent 42 = .ok (.ireturn, 1) := by decide +kernel
set_option maxRecDepth 20000 in
theorem ggX9_isBelow_X9_isElement : GoodIn wsX9_isBelow wsX9_isElement := goodIn_r _ [6, 7, 8, 9, 5, 10, 45, 46, 47, 48, 49, 50, 51, 52, 53, 54, 55, 56, 57, 58, 59, 60, 61, 62, 63, 64, 65, 66, 67, 68] (by decide +kernel) (by decide +kernel)
set_option maxRecDepth 20000 in
theorem gX9_isBelow_X9_isElement : GoodIn wsX9_isBelow (wsV RX9 79 RX9 yX9_isElement wsX9_isElement) := goodIn_app (goodIn_of _ (by decide +kernel)) ggX9_isBelow_X9_isElement
set_option maxRecDepth 20000 in
theorem ggX9_isBelow_X9_isProduct : GoodIn wsX9_isBelow wsX9_isProduct := goodIn_r _ [14, 15, 16, 17, 18, 8, 9, 5, 10, 19, 20, 21, 45, 46, 47, 48, 49, 50, 51, 52, 53, 54, 55, 56, 57, 58, 59, 60, 61, 62, 63, 64, 65, 66, 67, 68] (by decide +kernel) (by decide +kernel)
set_option maxRecDepth 20000 in
theorem gX9_isBelow_X9_isProduct : GoodIn wsX9_isBelow (wsV RX9 100 RX9 yX9_isProduct wsX9_isProduct) := goodIn_app (goodIn_of _ (by decide +kernel)) ggX9_isBelow_X9_isProduct
set_option maxRecDepth 20000 in
theorem ggX9_isBelow_X9_below : GoodIn wsX9_isBelow wsX9_below := goodIn_r _ [25, 26, 27, 28, 5, 29, 7, 30, 31, 32, 33, 34, 35, 36, 37, 38, 39, 40, 41, 42, 43, 44, 45, 46, 47, 48, 49, 50, 51, 52, 53, 54, 55, 56, 57, 58, 59, 60, 61, 62, 63, 64, 65, 66, 67, 68] (by decide +kernel) (by decide +kernel)
set_option maxRecDepth 20000 in
theorem gX9_isBelow_X9_below : GoodIn wsX9_isBelow (wsV RX9 148 RX9 yX9_below wsX9_below) := goodIn_app (goodIn_of _ (by decide +kernel)) ggX9_isBelow_X9_below
theorem dX9_isBelow_0 : decode cX9_isBelow 0 = .ok (.aload_n 0, 1) := by decide +kernel
theorem dX9_isBelow_1 : decode cX9_isBelow 1 = .ok (.aload_n 0, 1) := by decide +kernel
theorem dX9_isBelow_2 : decode cX9_isBelow 2 = .ok (.iconst 0, 1) := by decide +kernel
theorem dX9_isBelow_3 : decode cX9_isBelow 3 = .ok (.iload_n 1, 1) := by decide +kernel
theorem dX9_isBelow_4 : decode cX9_isBelow 4 = .ok (.invokevirtual 79, 3) := by decide +kernel
theorem dX9_isBelow_7 : decode cX9_isBelow 7 = .ok (.ifCond .eq 12, 3) := by decide +kernel
theorem dX9_isBelow_10 : decode cX9_isBelow 10 = .ok (.aload_n 0, 1) := by decide +kernel
theorem dX9_isBelow_11 : decode cX9_isBelow 11 = .ok (.iconst 0, 1) := by decide +kernel
theorem dX9_isBelow_12 : decode cX9_isBelow 12 = .ok (.iload_n 2, 1) := by decide +kernel
theorem dX9_isBelow_13 : decode cX9_isBelow 13 = .ok (.invokevirtual 79, 3) := by decide +kernel
theorem dX9_isBelow_16 : decode cX9_isBelow 16 = .ok (.ifCond .ne 7, 3) := by decide +kernel
theorem dX9_isBelow_19 : decode cX9_isBelow 19 = .ok (.iconst 1, 1) := by decide +kernel
theorem dX9_isBelow_20 : decode cX9_isBelow 20 = .ok (.goto 16, 3) := by decide +kernel
theorem dX9_isBelow_23 : decode cX9_isBelow 23 = .ok (.aload_n 0, 1) := by decide +kernel
theorem dX9_isBelow_24 : decode cX9_isBelow 24 = .ok (.iload_n 3, 1) := by decide +kernel
theorem dX9_isBelow_25 : decode cX9_isBelow 25 = .ok (.invokevirtual 100, 3) := by decide +kernel
theorem dX9_isBelow_28 : decode cX9_isBelow 28 = .ok (.ifCond .ne 7, 3) := by decide +kernel
theorem dX9_isBelow_31 : decode cX9_isBelow 31 = .ok (.iconst 2, 1) := by decide +kernel
theorem dX9_isBelow_32 : decode cX9_isBelow 32 = .ok (.goto 4, 3) := by decide +kernel
theorem dX9_isBelow_35 : decode cX9_isBelow 35 = .ok (.iconst 0, 1) := by decide +kernel
theorem dX9_isBelow_36 : decode cX9_isBelow 36 = .ok (.putfield 71, 3) := by decide +kernel
theorem dX9_isBelow_39 : decode cX9_isBelow 39 = .ok (.aload_n 0, 1) := by decide +kernel
theorem dX9_isBelow_40 : decode cX9_isBelow 40 = .ok (.getfield 71, 3) := by decide +kernel
theorem dX9_isBelow_43 : decode cX9_isBelow 43 = .ok (.ifCond .ne 17, 3) := by decide +kernel
theorem dX9_isBelow_46 : decode cX9_isBelow 46 = .ok (.aload_n 0, 1) := by decide +kernel
theorem dX9_isBelow_47 : decode cX9_isBelow 47 = .ok (.iload_n 1, 1) := by decide +kernel
theorem dX9_isBelow_48 : decode cX9_isBelow 48 = .ok (.iload_n 2, 1) := by decide +kernel
theorem dX9_isBelow_49 : decode cX9_isBelow 49 = .ok (.iload_n 3, 1) := by decide +kernel
theorem dX9_isBelow_50 : decode cX9_isBelow 50 = .ok (.invokevirtual 148, 3) := by decide +kernel
theorem dX9_isBelow_53 : decode cX9_isBelow 53 = .ok (.ifCond .eq 7, 3) := by decide +kernel
theorem dX9_isBelow_56 : decode cX9_isBelow 56 = .ok (.iconst 1, 1) := by decide +kernel
theorem dX9_isBelow_57 : decode cX9_isBelow 57 = .ok (.goto 4, 3) := by decide +kernel
theorem dX9_isBelow_60 : decode cX9_isBelow 60 = .ok (.iconst 0, 1) := by decide +kernel
theorem dX9_isBelow_61 : decode cX9_isBelow 61 = .ok (.ireturn, 1) := by decide +kernel
set_option maxRecDepth 20000 in
theorem ggX9_find_X9_isElement : GoodIn wsX9_find wsX9_isElement := goodIn_r _ [6, 7, 8, 9, 5, 10, 54, 55, 56, 57, 58, 59, 60, 61, 62, 63, 64, 65, 66, 67, 68, 69, 70, 71, 72, 73, 74, 75, 76, 77] (by decide +kernel) (by decide +kernel)
set_option maxRecDepth 20000 in
theorem gX9_find_X9_isElement : GoodIn wsX9_find (wsV RX9 79 RX9 yX9_isElement wsX9_isElement) := goodIn_app (goodIn_of _ (by decide +kernel)) ggX9_find_X9_isElement
set_option maxRecDepth 20000 in
theorem ggX9_find_X9_no : GoodIn wsX9_find wsX9_no := goodIn_r _ [14, 1, 54, 55, 56, 57, 58, 59, 60, 61, 62, 63, 64, 65, 66, 67, 68, 69, 70, 71, 72, 73, 74, 75, 76, 77] (by decide +kernel) (by decide +kernel)
set_option maxRecDepth 20000 in
theorem gX9_find_X9_no : GoodIn wsX9_find (wsV RX9 86 RX9 yX9_no wsX9_no) := goodIn_app (goodIn_of _ (by decide +kernel)) ggX9_find_X9_no
set_option maxRecDepth 20000 in
theorem ggX9_find_X9_isName : GoodIn wsX9_find wsX9_isName := goodIn_r _ [17, 8, 9, 5, 10] (by decide +kernel) (by decide +kernel)
set_option maxRecDepth 20000 in
theorem gX9_find_X9_isName : GoodIn wsX9_find (va_wsS RX9 115 yX9_isName wsX9_isName) := goodIn_app (goodIn_of _ (by decide +kernel)) ggX9_find_X9_isName
set_option maxRecDepth 20000 in
theorem ggX9_find_X9_isProduct : GoodIn wsX9_find wsX9_isProduct := goodIn_r _ [21, 22, 23, 24, 25, 8, 9, 5, 10, 26, 27, 28, 54, 55, 56, 57, 58, 59, 60, 61, 62, 63, 64, 65, 66, 67, 68, 69, 70, 71, 72, 73, 74, 75, 76, 77] (by decide +kernel) (by decide +kernel)
set_option maxRecDepth 20000 in
theorem gX9_find_X9_isProduct : GoodIn wsX9_find (wsV RX9 100 RX9 yX9_isProduct wsX9_isProduct) := goodIn_app (goodIn_of _ (by decide +kernel)) ggX9_find_X9_isProduct
set_option maxRecDepth 20000 in
theorem ggX9_find_X9_findMember : GoodIn wsX9_find wsX9_findMember := goodIn_r _ [32, 7, 33, 34, 35, 26, 27, 5, 28, 36, 37, 38, 39, 40, 41, 42, 43, 44, 45, 46, 47, 48, 49, 50, 51, 52, 53, 54, 55, 56, 57, 58, 59, 60, 61, 62, 63, 64, 65, 66, 67, 68, 69, 70, 71, 72, 73, 74, 75, 76, 77] (by decide +kernel) (by decide +kernel)
set_option maxRecDepth 20000 in
theorem gX9_find_X9_findMember : GoodIn wsX9_find (wsV RX9 158 RX9 yX9_findMember wsX9_findMember) := goodIn_app (goodIn_of _ (by decide +kernel)) ggX9_find_X9_findMember
theorem dX9_find_0 : decode cX9_find 0 = .ok (.aload_n 0, 1) := by decide +kernel
theorem dX9_find_1 : decode cX9_find 1 = .ok (.iconst 0, 1) := by decide +kernel
theorem dX9_find_2 : decode cX9_find 2 = .ok (.putfield 71, 3) := by decide +kernel
theorem dX9_find_5 : decode cX9_find 5 = .ok (.aload_n 0, 1) := by decide +kernel
theorem dX9_find_6 : decode cX9_find 6 = .ok (.iconst 0, 1) := by decide +kernel
theorem dX9_find_7 : decode cX9_find 7 = .ok (.iload_n 1, 1) := by decide +kernel
theorem dX9_find_8 : decode cX9_find 8 = .ok (.invokevirtual 79, 3) := by decide +kernel
theorem dX9_find_11 : decode cX9_find 11 = .ok (.ifCond .ne 9, 3) := by decide +kernel
theorem dX9_find_14 : decode cX9_find 14 = .ok (.aload_n 0, 1) := by decide +kernel
theorem dX9_find_15 : decode cX9_find 15 = .ok (.iconst 1, 1) := by decide +kernel
theorem dX9_find_16 : decode cX9_find 16 = .ok (.invokevirtual 86, 3) := by decide +kernel
theorem dX9_find_19 : decode cX9_find 19 = .ok (.ireturn, 1) := by decide +kernel
theorem dX9_find_20 : decode cX9_find 20 = .ok (.iload_n 2, 1) := by decide +kernel
theorem dX9_find_21 : decode cX9_find 21 = .ok (.invokestatic 115, 3) := by decide +kernel
theorem dX9_find_24 : decode cX9_find 24 = .ok (.ifCond .eq 24, 3) := by decide +kernel
theorem dX9_find_27 : decode cX9_find 27 = .ok (.aload_n 0, 1) := by decide +kernel
theorem dX9_find_28 : decode cX9_find 28 = .ok (.iload 4, 2) := by decide +kernel
theorem dX9_find_30 : decode cX9_find 30 = .ok (.invokevirtual 100, 3) := by decide +kernel
theorem dX9_find_33 : decode cX9_find 33 = .ok (.ifCond .eq 15, 3) := by decide +kernel
theorem dX9_find_36 : decode cX9_find 36 = .ok (.aload_n 0, 1) := by decide +kernel
theorem dX9_find_37 : decode cX9_find 37 = .ok (.iload_n 1, 1) := by decide +kernel
theorem dX9_find_38 : decode cX9_find 38 = .ok (.iload_n 2, 1) := by decide +kernel
theorem dX9_find_39 : decode cX9_find 39 = .ok (.iload_n 3, 1) := by decide +kernel
theorem dX9_find_40 : decode cX9_find 40 = .ok (.iload 4, 2) := by decide +kernel
theorem dX9_find_42 : decode cX9_find 42 = .ok (.invokevirtual 158, 3) := by decide +kernel
theorem dX9_find_45 : decode cX9_find 45 = .ok (.goto 8, 3) := by decide +kernel
theorem dX9_find_48 : decode cX9_find 48 = .ok (.aload_n 0, 1) := by decide +kernel
theorem dX9_find_49 : decode cX9_find 49 = .ok (.iconst 2, 1) := by decide +kernel
theorem dX9_find_50 : decode cX9_find 50 = .ok (.invokevirtual 86, 3) := by decide +kernel
theorem dX9_find_53 : decode cX9_find 53 = .ok (.ireturn, 1) := by decide +kernel
set_option maxRecDepth 20000 in
theorem ggX9_typeOf_X9_isExpression : GoodIn wsX9_typeOf wsX9_isExpression := goodIn_r _ [6, 7, 8, 9, 5, 10, 100, 101, 102, 103, 104, 105, 106, 107, 108, 109, 110, 111, 112, 113, 114, 115, 116, 117, 118, 119, 120, 121, 122, 123] (by decide +kernel) (by decide +kernel)
set_option maxRecDepth 20000 in
theorem gX9_typeOf_X9_isExpression : GoodIn wsX9_typeOf (wsV RX9 135 RX9 yX9_isExpression wsX9_isExpression) := goodIn_app (goodIn_of _ (by decide +kernel)) ggX9_typeOf_X9_isExpression
set_option maxRecDepth 20000 in
theorem ggX9_typeOf_X9_no : GoodIn wsX9_typeOf wsX9_no := goodIn_r _ [14, 1, 100, 101, 102, 103, 104, 105, 106, 107, 108, 109, 110, 111, 112, 113, 114, 115, 116, 117, 118, 119, 120, 121, 122, 123] (by decide +kernel) (by decide +kernel)
set_option maxRecDepth 20000 in
theorem gX9_typeOf_X9_no : GoodIn wsX9_typeOf (wsV RX9 86 RX9 yX9_no wsX9_no) := goodIn_app (goodIn_of _ (by decide +kernel)) ggX9_typeOf_X9_no
set_option maxRecDepth 20000 in
theorem ggX9_typeOf_X9_isProduct : GoodIn wsX9_typeOf wsX9_isProduct := goodIn_r _ [18, 19, 20, 21, 22, 8, 9, 5, 10, 23, 24, 25, 100, 101, 102, 103, 104, 105, 106, 107, 108, 109, 110, 111, 112, 113, 114, 115, 116, 117, 118, 119, 120, 121, 122, 123] (by decide +kernel) (by decide +kernel)
set_option maxRecDepth 20000 in
theorem gX9_typeOf_X9_isProduct : GoodIn wsX9_typeOf (wsV RX9 100 RX9 yX9_isProduct wsX9_isProduct) := goodIn_app (goodIn_of _ (by decide +kernel)) ggX9_typeOf_X9_isProduct
set_option maxRecDepth 20000 in
theorem ggX9_typeOf_X9_know : GoodIn wsX9_typeOf wsX9_know := goodIn_r _ [29, 30, 31, 7, 32, 33, 34, 35, 36, 15, 16, 17, 5, 18, 19, 20, 21, 22, 8, 9, 10, 23, 24, 25, 37, 38, 39, 40, 41, 42, 43, 44, 45, 46, 47, 48, 49, 50, 51, 52, 53, 54, 55, 56, 57, 58, 59, 60, 61, 62, 63, 64, 65, 66, 67, 68, 69, 70, 71, 72, 73, 74, 75, 76, 77, 78, 79, 80, 81, 82, 83, 84, 85, 86, 87, 88, 89, 90, 91, 92, 93, 94, 95, 96, 97, 98, 99, 100, 101, 102, 103, 104, 105, 106, 107, 108, 109, 110, 111, 112, 113, 114, 115, 116, 117, 118, 119, 120, 121, 122, 123] (by decide +kernel) (by decide +kernel)
set_option maxRecDepth 20000 in
theorem gX9_typeOf_X9_know : GoodIn wsX9_typeOf (wsV RX9 185 RX9 yX9_know wsX9_know) := goodIn_app (goodIn_of _ (by decide +kernel)) ggX9_typeOf_X9_know
set_option maxRecDepth 20000 in
theorem ggX9_typeOf_X9_typeIn : GoodIn wsX9_typeOf wsX9_typeIn := goodIn_r _ [95, 32, 100, 101, 102, 103, 104, 105, 106, 107, 108, 109, 110, 111, 112, 113, 114, 115, 116, 117, 118, 119, 120, 121, 122, 123] (by decide +kernel) (by decide +kernel)
set_option maxRecDepth 20000 in
theorem gX9_typeOf_X9_typeIn : GoodIn wsX9_typeOf (wsV RX9 155 RX9 yX9_typeIn wsX9_typeIn) := goodIn_app (goodIn_of _ (by decide +kernel)) ggX9_typeOf_X9_typeIn
theorem dX9_typeOf_0 : decode cX9_typeOf 0 = .ok (.aload_n 0, 1) := by decide +kernel
theorem dX9_typeOf_1 : decode cX9_typeOf 1 = .ok (.iconst 0, 1) := by decide +kernel
theorem dX9_typeOf_2 : decode cX9_typeOf 2 = .ok (.putfield 71, 3) := by decide +kernel
theorem dX9_typeOf_5 : decode cX9_typeOf 5 = .ok (.aload_n 0, 1) := by decide +kernel
theorem dX9_typeOf_6 : decode cX9_typeOf 6 = .ok (.iload_n 1, 1) := by decide +kernel
theorem dX9_typeOf_7 : decode cX9_typeOf 7 = .ok (.invokevirtual 135, 3) := by decide +kernel
theorem dX9_typeOf_10 : decode cX9_typeOf 10 = .ok (.ifCond .ne 9, 3) := by decide +kernel
theorem dX9_typeOf_13 : decode cX9_typeOf 13 = .ok (.aload_n 0, 1) := by decide +kernel
theorem dX9_typeOf_14 : decode cX9_typeOf 14 = .ok (.iconst 1, 1) := by decide +kernel
theorem dX9_typeOf_15 : decode cX9_typeOf 15 = .ok (.invokevirtual 86, 3) := by decide +kernel
theorem dX9_typeOf_18 : decode cX9_typeOf 18 = .ok (.ireturn, 1) := by decide +kernel
theorem dX9_typeOf_19 : decode cX9_typeOf 19 = .ok (.aload_n 0, 1) := by decide +kernel
theorem dX9_typeOf_20 : decode cX9_typeOf 20 = .ok (.iload_n 2, 1) := by decide +kernel
theorem dX9_typeOf_21 : decode cX9_typeOf 21 = .ok (.invokevirtual 100, 3) := by decide +kernel
theorem dX9_typeOf_24 : decode cX9_typeOf 24 = .ok (.ifCond .ne 9, 3) := by decide +kernel
theorem dX9_typeOf_27 : decode cX9_typeOf 27 = .ok (.aload_n 0, 1) := by decide +kernel
theorem dX9_typeOf_28 : decode cX9_typeOf 28 = .ok (.iconst 2, 1) := by decide +kernel
theorem dX9_typeOf_29 : decode cX9_typeOf 29 = .ok (.invokevirtual 86, 3) := by decide +kernel
theorem dX9_typeOf_32 : decode cX9_typeOf 32 = .ok (.ireturn, 1) := by decide +kernel
theorem dX9_typeOf_33 : decode cX9_typeOf 33 = .ok (.aload_n 0, 1) := by decide +kernel
theorem dX9_typeOf_34 : decode cX9_typeOf 34 = .ok (.invokevirtual 185, 3) := by decide +kernel
theorem dX9_typeOf_37 : decode cX9_typeOf 37 = .ok (.aload_n 0, 1) := by decide +kernel
theorem dX9_typeOf_38 : decode cX9_typeOf 38 = .ok (.iload_n 1, 1) := by decide +kernel
theorem dX9_typeOf_39 : decode cX9_typeOf 39 = .ok (.iload_n 2, 1) := by decide +kernel
theorem dX9_typeOf_40 : decode cX9_typeOf 40 = .ok (.invokevirtual 155, 3) := by decide +kernel
theorem dX9_typeOf_43 : decode cX9_typeOf 43 = .ok (.ireturn, 1) := by decide +kernel
set_option maxRecDepth 20000 in
theorem ggX9_countErrors_X9_know : GoodIn wsX9_countErrors wsX9_know := goodIn_r _ [6, 7, 1, 8, 9, 10, 11, 12, 13, 14, 15, 16, 5, 17, 18, 19, 20, 21, 22, 23, 24, 25, 26, 27, 28, 29, 30, 31, 32, 33, 34, 35, 36, 37, 38, 39, 40, 41, 42, 43, 44, 45, 46, 47, 48, 49, 50, 51, 52, 53, 54, 55, 56, 57, 58, 59, 60, 61, 62, 63, 64, 65, 66, 67, 68, 69, 70, 71, 72, 73, 74, 75, 76, 77, 78, 79, 80, 81, 82, 83, 84, 85, 86, 87, 88, 89, 90, 91, 92, 93, 94, 95, 96, 97, 98, 99, 100, 101, 102, 103, 104, 105, 106, 107, 108, 109, 110, 111, 112, 113, 114] (by decide +kernel) (by decide +kernel)
set_option maxRecDepth 20000 in
theorem gX9_countErrors_X9_know : GoodIn wsX9_countErrors (wsV RX9 185 RX9 yX9_know wsX9_know) := goodIn_app (goodIn_of _ (by decide +kernel)) ggX9_countErrors_X9_know
theorem dX9_countErrors_0 : decode cX9_countErrors 0 = .ok (.aload_n 0, 1) := by decide +kernel
theorem dX9_countErrors_1 : decode cX9_countErrors 1 = .ok (.invokevirtual 185, 3) := by decide +kernel
theorem dX9_countErrors_4 : decode cX9_countErrors 4 = .ok (.iconst 0, 1) := by decide +kernel
theorem dX9_countErrors_5 : decode cX9_countErrors 5 = .ok (.istore_n 1, 1) := by decide +kernel
theorem dX9_countErrors_6 : decode cX9_countErrors 6 = .ok (.iconst 0, 1) := by decide +kernel
theorem dX9_countErrors_7 : decode cX9_countErrors 7 = .ok (.istore_n 2, 1) := by decide +kernel
theorem dX9_countErrors_8 : decode cX9_countErrors 8 = .ok (.iload_n 2, 1) := by decide +kernel
theorem dX9_countErrors_9 : decode cX9_countErrors 9 = .ok (.sipush 650, 3) := by decide +kernel
theorem dX9_countErrors_12 : decode cX9_countErrors 12 = .ok (.if_icmp .ge 26, 3) := by decide +kernel
theorem dX9_countErrors_15 : decode cX9_countErrors 15 = .ok (.iload_n 1, 1) := by decide +kernel
theorem dX9_countErrors_16 : decode cX9_countErrors 16 = .ok (.aload_n 0, 1) := by decide +kernel
theorem dX9_countErrors_17 : decode cX9_countErrors 17 = .ok (.getfield 68, 3) := by decide +kernel
theorem dX9_countErrors_20 : decode cX9_countErrors 20 = .ok (.iload_n 2, 1) := by decide +kernel
theorem dX9_countErrors_21 : decode cX9_countErrors 21 = .ok (.iaload, 1) := by decide +kernel
theorem dX9_countErrors_22 : decode cX9_countErrors 22 = .ok (.ifCond .eq 7, 3) := by decide +kernel
theorem dX9_countErrors_25 : decode cX9_countErrors 25 = .ok (.iconst 1, 1) := by decide +kernel
theorem dX9_countErrors_26 : decode cX9_countErrors 26 = .ok (.goto 4, 3) := by decide +kernel
theorem dX9_countErrors_29 : decode cX9_countErrors 29 = .ok (.iconst 0, 1) := by decide +kernel
theorem dX9_countErrors_30 : decode cX9_countErrors 30 = .ok (.iadd, 1) := by decide +kernel
theorem dX9_countErrors_31 : decode cX9_countErrors 31 = .ok (.istore_n 1, 1) := by decide +kernel
theorem dX9_countErrors_32 : decode cX9_countErrors 32 = .ok (.iinc 2 1, 3) := by decide +kernel
theorem dX9_countErrors_35 : decode cX9_countErrors 35 = .ok (.goto (-27), 3) := by decide +kernel
theorem dX9_countErrors_38 : decode cX9_countErrors 38 = .ok (.iload_n 1, 1) := by decide +kernel
theorem dX9_countErrors_39 : decode cX9_countErrors 39 = .ok (.ireturn, 1) := by decide +kernel
set_option maxRecDepth 20000 in
theorem ggX9_errorCount_X9_countErrors : GoodIn wsX9_errorCount wsX9_countErrors := goodIn_r _ [6, 7, 8, 9, 10, 5, 11, 12, 13, 14, 15, 16, 17, 18, 19, 20, 21, 22, 23, 24, 25, 26, 27, 28, 29, 30, 31, 32, 33, 34, 35, 36, 37, 38, 39, 40, 41, 42, 43, 44, 45, 46, 47, 48, 49, 50, 51, 52, 53, 54, 55, 56, 57, 58, 59, 60, 61, 62, 63, 64, 65, 66, 67, 68, 69, 70, 71, 72, 73, 74, 75, 76, 77, 78, 79, 80, 81, 82, 83, 84, 85, 86, 87, 88, 89, 90, 91, 92, 93, 94, 95, 96, 97, 98, 99, 100, 101, 102, 103, 104, 105, 106, 107, 108, 109, 110, 111, 112, 113, 114, 115, 116, 117, 118, 119] (by decide +kernel) (by decide +kernel)
set_option maxRecDepth 20000 in
theorem gX9_errorCount_X9_countErrors : GoodIn wsX9_errorCount (wsV RX9 188 RX9 yX9_countErrors wsX9_countErrors) := goodIn_app (goodIn_of _ (by decide +kernel)) ggX9_errorCount_X9_countErrors
theorem dX9_errorCount_0 : decode cX9_errorCount 0 = .ok (.aload_n 0, 1) := by decide +kernel
theorem dX9_errorCount_1 : decode cX9_errorCount 1 = .ok (.iconst 0, 1) := by decide +kernel
theorem dX9_errorCount_2 : decode cX9_errorCount 2 = .ok (.putfield 71, 3) := by decide +kernel
theorem dX9_errorCount_5 : decode cX9_errorCount 5 = .ok (.aload_n 0, 1) := by decide +kernel
theorem dX9_errorCount_6 : decode cX9_errorCount 6 = .ok (.invokevirtual 188, 3) := by decide +kernel
theorem dX9_errorCount_9 : decode cX9_errorCount 9 = .ok (.ireturn, 1) := by decide +kernel
set_option maxRecDepth 20000 in
theorem ggX9_error_X9_countErrors : GoodIn wsX9_error wsX9_countErrors := goodIn_r _ [7, 2, 8, 9, 10, 6, 11, 12, 13, 14, 15, 16, 17, 18, 19, 20, 21, 22, 23, 24, 25, 26, 27, 28, 29, 30, 31, 32, 33, 34, 35, 36, 37, 38, 39, 40, 41, 42, 43, 44, 45, 46, 47, 48, 49, 50, 51, 52, 53, 54, 55, 56, 57, 58, 59, 60, 61, 62, 63, 64, 65, 66, 67, 68, 69, 70, 71, 72, 73, 74, 75, 76, 77, 78, 79, 80, 81, 82, 83, 84, 85, 86, 87, 88, 89, 90, 91, 92, 93, 94, 95, 100, 101, 102, 103, 104, 105, 106, 107, 108, 109, 110, 111, 112, 113, 114, 115, 116, 117, 118, 119, 120, 121, 122, 123] (by decide +kernel) (by decide +kernel)
set_option maxRecDepth 20000 in
theorem gX9_error_X9_countErrors : GoodIn wsX9_error (wsV RX9 188 RX9 yX9_countErrors wsX9_countErrors) := goodIn_app (goodIn_of _ (by decide +kernel)) ggX9_error_X9_countErrors
set_option maxRecDepth 20000 in
theorem ggX9_error_X9_isIn : GoodIn wsX9_error wsX9_isIn := goodIn_r _ [29] (by decide +kernel) (by decide +kernel)
set_option maxRecDepth 20000 in
theorem gX9_error_X9_isIn : GoodIn wsX9_error (va_wsS RX9 75 yX9_isIn wsX9_isIn) := goodIn_app (goodIn_of _ (by decide +kernel)) ggX9_error_X9_isIn
set_option maxRecDepth 20000 in
theorem ggX9_error_X9_no : GoodIn wsX9_error wsX9_no := goodIn_r _ [99, 1, 100, 101, 102, 103, 104, 105, 106, 107, 108, 109, 110, 111, 112, 113, 114, 115, 116, 117, 118, 119, 120, 121, 122, 123] (by decide +kernel) (by decide +kernel)
set_option maxRecDepth 20000 in
theorem gX9_error_X9_no : GoodIn wsX9_error (wsV RX9 86 RX9 yX9_no wsX9_no) := goodIn_app (goodIn_of _ (by decide +kernel)) ggX9_error_X9_no
theorem dX9_error_0 : decode cX9_error 0 = .ok (.aload_n 0, 1) := by decide +kernel
theorem dX9_error_1 : decode cX9_error 1 = .ok (.iconst 0, 1) := by decide +kernel
theorem dX9_error_2 : decode cX9_error 2 = .ok (.putfield 71, 3) := by decide +kernel
theorem dX9_error_5 : decode cX9_error 5 = .ok (.iload_n 1, 1) := by decide +kernel
theorem dX9_error_6 : decode cX9_error 6 = .ok (.iconst 0, 1) := by decide +kernel
theorem dX9_error_7 : decode cX9_error 7 = .ok (.aload_n 0, 1) := by decide +kernel
theorem dX9_error_8 : decode cX9_error 8 = .ok (.invokevirtual 188, 3) := by decide +kernel
theorem dX9_error_11 : decode cX9_error 11 = .ok (.iconst 1, 1) := by decide +kernel
theorem dX9_error_12 : decode cX9_error 12 = .ok (.isub, 1) := by decide +kernel
theorem dX9_error_13 : decode cX9_error 13 = .ok (.invokestatic 75, 3) := by decide +kernel
theorem dX9_error_16 : decode cX9_error 16 = .ok (.ifCond .eq 12, 3) := by decide +kernel
theorem dX9_error_19 : decode cX9_error 19 = .ok (.iload_n 2, 1) := by decide +kernel
theorem dX9_error_20 : decode cX9_error 20 = .ok (.iconst 0, 1) := by decide +kernel
theorem dX9_error_21 : decode cX9_error 21 = .ok (.iconst 2, 1) := by decide +kernel
theorem dX9_error_22 : decode cX9_error 22 = .ok (.invokestatic 75, 3) := by decide +kernel
theorem dX9_error_25 : decode cX9_error 25 = .ok (.ifCond .ne 9, 3) := by decide +kernel
theorem dX9_error_28 : decode cX9_error 28 = .ok (.aload_n 0, 1) := by decide +kernel
theorem dX9_error_29 : decode cX9_error 29 = .ok (.iconst 1, 1) := by decide +kernel
theorem dX9_error_30 : decode cX9_error 30 = .ok (.invokevirtual 86, 3) := by decide +kernel
theorem dX9_error_33 : decode cX9_error 33 = .ok (.ireturn, 1) := by decide +kernel
theorem dX9_error_34 : decode cX9_error 34 = .ok (.iconst (-1), 1) := by decide +kernel
theorem dX9_error_35 : decode cX9_error 35 = .ok (.istore_n 3, 1) := by decide +kernel
theorem dX9_error_36 : decode cX9_error 36 = .ok (.iload_n 1, 1) := by decide +kernel
theorem dX9_error_37 : decode cX9_error 37 = .ok (.istore 4, 2) := by decide +kernel
theorem dX9_error_39 : decode cX9_error 39 = .ok (.iload 4, 2) := by decide +kernel
theorem dX9_error_41 : decode cX9_error 41 = .ok (.ifCond .lt 27, 3) := by decide +kernel
theorem dX9_error_44 : decode cX9_error 44 = .ok (.iinc 3 1, 3) := by decide +kernel
theorem dX9_error_47 : decode cX9_error 47 = .ok (.aload_n 0, 1) := by decide +kernel
theorem dX9_error_48 : decode cX9_error 48 = .ok (.getfield 68, 3) := by decide +kernel
theorem dX9_error_51 : decode cX9_error 51 = .ok (.iload_n 3, 1) := by decide +kernel
theorem dX9_error_52 : decode cX9_error 52 = .ok (.iaload, 1) := by decide +kernel
theorem dX9_error_53 : decode cX9_error 53 = .ok (.ifCond .ne 9, 3) := by decide +kernel
theorem dX9_error_56 : decode cX9_error 56 = .ok (.iinc 3 1, 3) := by decide +kernel
theorem dX9_error_59 : decode cX9_error 59 = .ok (.goto (-12), 3) := by decide +kernel
theorem dX9_error_62 : decode cX9_error 62 = .ok (.iinc 4 (-1), 3) := by decide +kernel
theorem dX9_error_65 : decode cX9_error 65 = .ok (.goto (-26), 3) := by decide +kernel
theorem dX9_error_68 : decode cX9_error 68 = .ok (.iload_n 2, 1) := by decide +kernel
theorem dX9_error_69 : decode cX9_error 69 = .ok (.ifCond .ne 10, 3) := by decide +kernel
theorem dX9_error_72 : decode cX9_error 72 = .ok (.iload_n 3, 1) := by decide +kernel
theorem dX9_error_73 : decode cX9_error 73 = .ok (.bipush 50, 2) := by decide +kernel
theorem dX9_error_75 : decode cX9_error 75 = .ok (.idiv, 1) := by decide +kernel
theorem dX9_error_76 : decode cX9_error 76 = .ok (.goto 21, 3) := by decide +kernel
theorem dX9_error_79 : decode cX9_error 79 = .ok (.iload_n 2, 1) := by decide +kernel
theorem dX9_error_80 : decode cX9_error 80 = .ok (.iconst 1, 1) := by decide +kernel
theorem dX9_error_81 : decode cX9_error 81 = .ok (.if_icmp .ne 10, 3) := by decide +kernel
theorem dX9_error_84 : decode cX9_error 84 = .ok (.iload_n 3, 1) := by decide +kernel
theorem dX9_error_85 : decode cX9_error 85 = .ok (.bipush 50, 2) := by decide +kernel
theorem dX9_error_87 : decode cX9_error 87 = .ok (.irem, 1) := by decide +kernel
theorem dX9_error_88 : decode cX9_error 88 = .ok (.goto 9, 3) := by decide +kernel
theorem dX9_error_91 : decode cX9_error 91 = .ok (.aload_n 0, 1) := by decide +kernel
theorem dX9_error_92 : decode cX9_error 92 = .ok (.getfield 68, 3) := by decide +kernel
theorem dX9_error_95 : decode cX9_error 95 = .ok (.iload_n 3, 1) := by decide +kernel
theorem dX9_error_96 : decode cX9_error 96 = .ok (.iaload, 1) := by decide +kernel
theorem dX9_error_97 : decode cX9_error 97 = .ok (.ireturn, 1) := by decide +kernel
set_option maxRecDepth 20000 in
theorem ggX9_rightSet_X9_know : GoodIn wsX9_rightSet wsX9_know := goodIn_r _ [6, 7, 1, 8, 9, 10, 11, 12, 13, 14, 15, 16, 5, 17, 18, 19, 20, 21, 22, 23, 24, 25, 26, 27, 28, 29, 30, 31, 32, 33, 34, 35, 36, 37, 38, 39, 40, 41, 42, 43, 44, 45, 46, 47, 48, 49, 50, 51, 52, 53, 54, 55, 56, 57, 58, 59, 60, 61, 62, 63, 64, 65, 66, 67, 68, 69, 70, 71, 72, 73, 74, 75, 76, 77, 78, 79, 80, 81, 82, 83, 84, 85, 86, 87, 88, 89, 90, 95, 96, 97, 98, 99, 100, 101, 102, 103, 104, 105, 106, 107, 108, 109, 110, 111, 112, 113, 114, 115, 116, 117, 118] (by decide +kernel) (by decide +kernel)
set_option maxRecDepth 20000 in
theorem gX9_rightSet_X9_know : GoodIn wsX9_rightSet (wsV RX9 185 RX9 yX9_know wsX9_know) := goodIn_app (goodIn_of _ (by decide +kernel)) ggX9_rightSet_X9_know
set_option maxRecDepth 20000 in
theorem ggX9_rightSet_X9_allProducts : GoodIn wsX9_rightSet wsX9_allProducts := goodIn_r _ [94, 14, 15, 16, 5, 17, 18, 19, 20, 21, 22, 23, 24, 25, 26, 27, 95, 96, 97, 98, 99, 100, 101, 102, 103, 104, 105, 106, 107, 108, 109, 110, 111, 112, 113, 114, 115, 116, 117, 118] (by decide +kernel) (by decide +kernel)
set_option maxRecDepth 20000 in
theorem gX9_rightSet_X9_allProducts : GoodIn wsX9_rightSet (wsV RX9 104 RX9 yX9_allProducts wsX9_allProducts) := goodIn_app (goodIn_of _ (by decide +kernel)) ggX9_rightSet_X9_allProducts
theorem dX9_rightSet_0 : decode cX9_rightSet 0 = .ok (.aload_n 0, 1) := by decide +kernel
theorem dX9_rightSet_1 : decode cX9_rightSet 1 = .ok (.invokevirtual 185, 3) := by decide +kernel
theorem dX9_rightSet_4 : decode cX9_rightSet 4 = .ok (.aload_n 0, 1) := by decide +kernel
theorem dX9_rightSet_5 : decode cX9_rightSet 5 = .ok (.invokevirtual 104, 3) := by decide +kernel
theorem dX9_rightSet_8 : decode cX9_rightSet 8 = .ok (.istore_n 1, 1) := by decide +kernel
theorem dX9_rightSet_9 : decode cX9_rightSet 9 = .ok (.iconst 0, 1) := by decide +kernel
theorem dX9_rightSet_10 : decode cX9_rightSet 10 = .ok (.istore_n 2, 1) := by decide +kernel
theorem dX9_rightSet_11 : decode cX9_rightSet 11 = .ok (.iload_n 2, 1) := by decide +kernel
theorem dX9_rightSet_12 : decode cX9_rightSet 12 = .ok (.sipush 650, 3) := by decide +kernel
theorem dX9_rightSet_15 : decode cX9_rightSet 15 = .ok (.if_icmp .ge 20, 3) := by decide +kernel
theorem dX9_rightSet_18 : decode cX9_rightSet 18 = .ok (.iload_n 1, 1) := by decide +kernel
theorem dX9_rightSet_19 : decode cX9_rightSet 19 = .ok (.aload_n 0, 1) := by decide +kernel
theorem dX9_rightSet_20 : decode cX9_rightSet 20 = .ok (.getfield 68, 3) := by decide +kernel
theorem dX9_rightSet_23 : decode cX9_rightSet 23 = .ok (.iload_n 2, 1) := by decide +kernel
theorem dX9_rightSet_24 : decode cX9_rightSet 24 = .ok (.iaload, 1) := by decide +kernel
theorem dX9_rightSet_25 : decode cX9_rightSet 25 = .ok (.iconst (-1), 1) := by decide +kernel
theorem dX9_rightSet_26 : decode cX9_rightSet 26 = .ok (.ixor, 1) := by decide +kernel
theorem dX9_rightSet_27 : decode cX9_rightSet 27 = .ok (.iand, 1) := by decide +kernel
theorem dX9_rightSet_28 : decode cX9_rightSet 28 = .ok (.istore_n 1, 1) := by decide +kernel
theorem dX9_rightSet_29 : decode cX9_rightSet 29 = .ok (.iinc 2 1, 3) := by decide +kernel
theorem dX9_rightSet_32 : decode cX9_rightSet 32 = .ok (.goto (-21), 3) := by decide +kernel
theorem dX9_rightSet_35 : decode cX9_rightSet 35 = .ok (.iload_n 1, 1) := by decide +kernel
theorem dX9_rightSet_36 : decode cX9_rightSet 36 = .ok (.ireturn, 1) := by decide +kernel
set_option maxRecDepth 20000 in
theorem ggX9_right_X9_rightSet : GoodIn wsX9_right wsX9_rightSet := goodIn_r _ [6, 7, 8, 9, 10, 5, 11, 12, 13, 14, 15, 16, 17, 18, 19, 20, 21, 22, 23, 24, 25, 26, 27, 28, 29, 30, 31, 32, 33, 34, 35, 36, 37, 38, 39, 40, 41, 42, 43, 44, 45, 46, 47, 48, 49, 50, 51, 52, 53, 54, 55, 56, 57, 58, 59, 60, 61, 62, 63, 64, 65, 66, 67, 68, 69, 70, 71, 72, 73, 74, 75, 76, 77, 78, 79, 80, 81, 82, 83, 84, 85, 86, 87, 88, 89, 90, 91, 92, 93, 94, 95, 96, 97, 98, 99, 100, 101, 102, 103, 104, 105, 106, 107, 108, 109, 110, 111, 112, 113, 114, 115, 116, 117, 118, 119, 120, 121, 122, 123] (by decide +kernel) (by decide +kernel)
set_option maxRecDepth 20000 in
theorem gX9_right_X9_rightSet : GoodIn wsX9_right (wsV RX9 191 RX9 yX9_rightSet wsX9_rightSet) := goodIn_app (goodIn_of _ (by decide +kernel)) ggX9_right_X9_rightSet
theorem dX9_right_0 : decode cX9_right 0 = .ok (.aload_n 0, 1) := by decide +kernel
theorem dX9_right_1 : decode cX9_right 1 = .ok (.iconst 0, 1) := by decide +kernel
theorem dX9_right_2 : decode cX9_right 2 = .ok (.putfield 71, 3) := by decide +kernel
theorem dX9_right_5 : decode cX9_right 5 = .ok (.aload_n 0, 1) := by decide +kernel
theorem dX9_right_6 : decode cX9_right 6 = .ok (.invokevirtual 191, 3) := by decide +kernel
theorem dX9_right_9 : decode cX9_right 9 = .ok (.ireturn, 1) := by decide +kernel
set_option maxRecDepth 20000 in
theorem ggX9_errorsIn_X9_isProduct : GoodIn wsX9_errorsIn wsX9_isProduct := goodIn_r _ [7, 8, 9, 10, 11, 12, 13, 6, 14, 15, 16, 17, 96, 97, 98, 99, 100, 101, 102, 103, 104, 105, 106, 107, 108, 109, 110, 111, 112, 113, 114, 115, 116, 117, 118, 119] (by decide +kernel) (by decide +kernel)
set_option maxRecDepth 20000 in
theorem gX9_errorsIn_X9_isProduct : GoodIn wsX9_errorsIn (wsV RX9 100 RX9 yX9_isProduct wsX9_isProduct) := goodIn_app (goodIn_of _ (by decide +kernel)) ggX9_errorsIn_X9_isProduct
set_option maxRecDepth 20000 in
theorem ggX9_errorsIn_X9_no : GoodIn wsX9_errorsIn wsX9_no := goodIn_r _ [21, 1, 96, 97, 98, 99, 100, 101, 102, 103, 104, 105, 106, 107, 108, 109, 110, 111, 112, 113, 114, 115, 116, 117, 118, 119] (by decide +kernel) (by decide +kernel)
set_option maxRecDepth 20000 in
theorem gX9_errorsIn_X9_no : GoodIn wsX9_errorsIn (wsV RX9 86 RX9 yX9_no wsX9_no) := goodIn_app (goodIn_of _ (by decide +kernel)) ggX9_errorsIn_X9_no
set_option maxRecDepth 20000 in
theorem ggX9_errorsIn_X9_know : GoodIn wsX9_errorsIn wsX9_know := goodIn_r _ [25, 26, 2, 27, 28, 29, 30, 31, 32, 3, 4, 5, 6, 7, 8, 9, 10, 11, 12, 13, 14, 15, 16, 17, 33, 34, 35, 36, 37, 38, 39, 40, 41, 42, 43, 44, 45, 46, 47, 48, 49, 50, 51, 52, 53, 54, 55, 56, 57, 58, 59, 60, 61, 62, 63, 64, 65, 66, 67, 68, 69, 70, 71, 72, 73, 74, 75, 76, 77, 78, 79, 80, 81, 82, 83, 84, 85, 86, 87, 88, 89, 90, 91, 92, 93, 94, 95, 96, 97, 98, 99, 100, 101, 102, 103, 104, 105, 106, 107, 108, 109, 110, 111, 112, 113, 114, 115, 116, 117, 118, 119] (by decide +kernel) (by decide +kernel)
set_option maxRecDepth 20000 in
theorem gX9_errorsIn_X9_know : GoodIn wsX9_errorsIn (wsV RX9 185 RX9 yX9_know wsX9_know) := goodIn_app (goodIn_of _ (by decide +kernel)) ggX9_errorsIn_X9_know
set_option maxRecDepth 20000 in
theorem ggX9_errorsIn_X9_has : GoodIn wsX9_errorsIn wsX9_has := goodIn_r _ [17] (by decide +kernel) (by decide +kernel)
set_option maxRecDepth 20000 in
theorem gX9_errorsIn_X9_has : GoodIn wsX9_errorsIn (va_wsS RX9 97 yX9_has wsX9_has) := goodIn_app (goodIn_of _ (by decide +kernel)) ggX9_errorsIn_X9_has
theorem dX9_errorsIn_0 : decode cX9_errorsIn 0 = .ok (.aload_n 0, 1) := by decide +kernel
theorem dX9_errorsIn_1 : decode cX9_errorsIn 1 = .ok (.iconst 0, 1) := by decide +kernel
theorem dX9_errorsIn_2 : decode cX9_errorsIn 2 = .ok (.putfield 71, 3) := by decide +kernel
theorem dX9_errorsIn_5 : decode cX9_errorsIn 5 = .ok (.aload_n 0, 1) := by decide +kernel
theorem dX9_errorsIn_6 : decode cX9_errorsIn 6 = .ok (.iload_n 1, 1) := by decide +kernel
theorem dX9_errorsIn_7 : decode cX9_errorsIn 7 = .ok (.invokevirtual 100, 3) := by decide +kernel
theorem dX9_errorsIn_10 : decode cX9_errorsIn 10 = .ok (.ifCond .ne 9, 3) := by decide +kernel
theorem dX9_errorsIn_13 : decode cX9_errorsIn 13 = .ok (.aload_n 0, 1) := by decide +kernel
theorem dX9_errorsIn_14 : decode cX9_errorsIn 14 = .ok (.iconst 1, 1) := by decide +kernel
theorem dX9_errorsIn_15 : decode cX9_errorsIn 15 = .ok (.invokevirtual 86, 3) := by decide +kernel
theorem dX9_errorsIn_18 : decode cX9_errorsIn 18 = .ok (.ireturn, 1) := by decide +kernel
theorem dX9_errorsIn_19 : decode cX9_errorsIn 19 = .ok (.aload_n 0, 1) := by decide +kernel
theorem dX9_errorsIn_20 : decode cX9_errorsIn 20 = .ok (.invokevirtual 185, 3) := by decide +kernel
theorem dX9_errorsIn_23 : decode cX9_errorsIn 23 = .ok (.iconst 0, 1) := by decide +kernel
theorem dX9_errorsIn_24 : decode cX9_errorsIn 24 = .ok (.istore_n 2, 1) := by decide +kernel
theorem dX9_errorsIn_25 : decode cX9_errorsIn 25 = .ok (.iconst 0, 1) := by decide +kernel
theorem dX9_errorsIn_26 : decode cX9_errorsIn 26 = .ok (.istore_n 3, 1) := by decide +kernel
theorem dX9_errorsIn_27 : decode cX9_errorsIn 27 = .ok (.iload_n 3, 1) := by decide +kernel
theorem dX9_errorsIn_28 : decode cX9_errorsIn 28 = .ok (.sipush 650, 3) := by decide +kernel
theorem dX9_errorsIn_31 : decode cX9_errorsIn 31 = .ok (.if_icmp .ge 30, 3) := by decide +kernel
theorem dX9_errorsIn_34 : decode cX9_errorsIn 34 = .ok (.iload_n 2, 1) := by decide +kernel
theorem dX9_errorsIn_35 : decode cX9_errorsIn 35 = .ok (.aload_n 0, 1) := by decide +kernel
theorem dX9_errorsIn_36 : decode cX9_errorsIn 36 = .ok (.getfield 68, 3) := by decide +kernel
theorem dX9_errorsIn_39 : decode cX9_errorsIn 39 = .ok (.iload_n 3, 1) := by decide +kernel
theorem dX9_errorsIn_40 : decode cX9_errorsIn 40 = .ok (.iaload, 1) := by decide +kernel
theorem dX9_errorsIn_41 : decode cX9_errorsIn 41 = .ok (.iload_n 1, 1) := by decide +kernel
theorem dX9_errorsIn_42 : decode cX9_errorsIn 42 = .ok (.invokestatic 97, 3) := by decide +kernel
theorem dX9_errorsIn_45 : decode cX9_errorsIn 45 = .ok (.ifCond .eq 7, 3) := by decide +kernel
theorem dX9_errorsIn_48 : decode cX9_errorsIn 48 = .ok (.iconst 1, 1) := by decide +kernel
theorem dX9_errorsIn_49 : decode cX9_errorsIn 49 = .ok (.goto 4, 3) := by decide +kernel
theorem dX9_errorsIn_52 : decode cX9_errorsIn 52 = .ok (.iconst 0, 1) := by decide +kernel
theorem dX9_errorsIn_53 : decode cX9_errorsIn 53 = .ok (.iadd, 1) := by decide +kernel
theorem dX9_errorsIn_54 : decode cX9_errorsIn 54 = .ok (.istore_n 2, 1) := by decide +kernel
theorem dX9_errorsIn_55 : decode cX9_errorsIn 55 = .ok (.iinc 3 1, 3) := by decide +kernel
theorem dX9_errorsIn_58 : decode cX9_errorsIn 58 = .ok (.goto (-31), 3) := by decide +kernel
theorem dX9_errorsIn_61 : decode cX9_errorsIn 61 = .ok (.iload_n 2, 1) := by decide +kernel
theorem dX9_errorsIn_62 : decode cX9_errorsIn 62 = .ok (.ireturn, 1) := by decide +kernel
set_option maxRecDepth 20000 in
theorem ggX9_trueFor_X9_isProduct : GoodIn wsX9_trueFor wsX9_isProduct := goodIn_r _ [5, 6, 7, 8, 9, 10, 11, 4, 12, 13, 14, 15, 16, 17, 18, 19, 20, 21, 22, 23, 24, 25, 26, 27, 28, 29, 30, 31, 32, 33, 34, 35, 36, 37, 38, 39] (by decide +kernel) (by decide +kernel)
set_option maxRecDepth 20000 in
theorem gX9_trueFor_X9_isProduct : GoodIn wsX9_trueFor (wsV RX9 100 RX9 yX9_isProduct wsX9_isProduct) := goodIn_app (goodIn_of _ (by decide +kernel)) ggX9_trueFor_X9_isProduct
theorem dX9_trueFor_0 : decode cX9_trueFor 0 = .ok (.iconst 0, 1) := by decide +kernel
theorem dX9_trueFor_1 : decode cX9_trueFor 1 = .ok (.istore_n 3, 1) := by decide +kernel
theorem dX9_trueFor_2 : decode cX9_trueFor 2 = .ok (.iconst 0, 1) := by decide +kernel
theorem dX9_trueFor_3 : decode cX9_trueFor 3 = .ok (.istore 4, 2) := by decide +kernel
theorem dX9_trueFor_5 : decode cX9_trueFor 5 = .ok (.iload 4, 2) := by decide +kernel
theorem dX9_trueFor_7 : decode cX9_trueFor 7 = .ok (.bipush 16, 2) := by decide +kernel
theorem dX9_trueFor_9 : decode cX9_trueFor 9 = .ok (.if_icmp .ge 41, 3) := by decide +kernel
theorem dX9_trueFor_12 : decode cX9_trueFor 12 = .ok (.aload_n 0, 1) := by decide +kernel
theorem dX9_trueFor_13 : decode cX9_trueFor 13 = .ok (.iload 4, 2) := by decide +kernel
theorem dX9_trueFor_15 : decode cX9_trueFor 15 = .ok (.invokevirtual 100, 3) := by decide +kernel
theorem dX9_trueFor_18 : decode cX9_trueFor 18 = .ok (.ifCond .eq 26, 3) := by decide +kernel
theorem dX9_trueFor_21 : decode cX9_trueFor 21 = .ok (.iload_n 1, 1) := by decide +kernel
theorem dX9_trueFor_22 : decode cX9_trueFor 22 = .ok (.iload 4, 2) := by decide +kernel
theorem dX9_trueFor_24 : decode cX9_trueFor 24 = .ok (.iconst (-1), 1) := by decide +kernel
theorem dX9_trueFor_25 : decode cX9_trueFor 25 = .ok (.ixor, 1) := by decide +kernel
theorem dX9_trueFor_26 : decode cX9_trueFor 26 = .ok (.iand, 1) := by decide +kernel
theorem dX9_trueFor_27 : decode cX9_trueFor 27 = .ok (.ifCond .ne 17, 3) := by decide +kernel
theorem dX9_trueFor_30 : decode cX9_trueFor 30 = .ok (.iload_n 2, 1) := by decide +kernel
theorem dX9_trueFor_31 : decode cX9_trueFor 31 = .ok (.iload 4, 2) := by decide +kernel
theorem dX9_trueFor_33 : decode cX9_trueFor 33 = .ok (.iand, 1) := by decide +kernel
theorem dX9_trueFor_34 : decode cX9_trueFor 34 = .ok (.ifCond .ne 10, 3) := by decide +kernel
theorem dX9_trueFor_37 : decode cX9_trueFor 37 = .ok (.iload_n 3, 1) := by decide +kernel
theorem dX9_trueFor_38 : decode cX9_trueFor 38 = .ok (.iconst 1, 1) := by decide +kernel
theorem dX9_trueFor_39 : decode cX9_trueFor 39 = .ok (.iload 4, 2) := by decide +kernel
theorem dX9_trueFor_41 : decode cX9_trueFor 41 = .ok (.ishl, 1) := by decide +kernel
theorem dX9_trueFor_42 : decode cX9_trueFor 42 = .ok (.ior, 1) := by decide +kernel
theorem dX9_trueFor_43 : decode cX9_trueFor 43 = .ok (.istore_n 3, 1) := by decide +kernel
theorem dX9_trueFor_44 : decode cX9_trueFor 44 = .ok (.iinc 4 1, 3) := by decide +kernel
theorem dX9_trueFor_47 : decode cX9_trueFor 47 = .ok (.goto (-42), 3) := by decide +kernel
theorem dX9_trueFor_50 : decode cX9_trueFor 50 = .ok (.iload_n 3, 1) := by decide +kernel
theorem dX9_trueFor_51 : decode cX9_trueFor 51 = .ok (.ireturn, 1) := by decide +kernel
set_option maxRecDepth 20000 in
theorem ggX9_culprit_X9_rightSet : GoodIn wsX9_culprit wsX9_rightSet := goodIn_r _ [6, 7, 8, 9, 10, 5, 11, 12, 13, 14, 15, 16, 17, 18, 19, 20, 21, 22, 23, 24, 25, 26, 27, 28, 29, 30, 31, 32, 33, 34, 35, 36, 37, 38, 39, 40, 41, 42, 43, 44, 45, 46, 47, 48, 49, 50, 51, 52, 53, 54, 55, 56, 57, 58, 59, 60, 61, 62, 63, 64, 65, 66, 67, 68, 69, 70, 71, 72, 73, 74, 75, 76, 77, 78, 79, 80, 81, 82, 83, 84, 85, 86, 87, 88, 89, 90, 91, 92, 93, 94, 95, 96, 97, 98, 99, 111, 112, 113, 114, 115, 116, 117, 118, 119, 120, 121, 122, 123, 124, 125, 126, 127, 128, 129, 130, 131, 132, 133, 134] (by decide +kernel) (by decide +kernel)
set_option maxRecDepth 20000 in
theorem gX9_culprit_X9_rightSet : GoodIn wsX9_culprit (wsV RX9 191 RX9 yX9_rightSet wsX9_rightSet) := goodIn_app (goodIn_of _ (by decide +kernel)) ggX9_culprit_X9_rightSet
set_option maxRecDepth 20000 in
theorem ggX9_culprit_X9_trueFor : GoodIn wsX9_culprit wsX9_trueFor := goodIn_r _ [103, 19, 20, 21, 5, 22, 23, 24, 25, 26, 27, 28, 29, 30, 31, 32, 111, 112, 113, 114, 115, 116, 117, 118, 119, 120, 121, 122, 123, 124, 125, 126, 127, 128, 129, 130, 131, 132, 133, 134] (by decide +kernel) (by decide +kernel)
set_option maxRecDepth 20000 in
theorem gX9_culprit_X9_trueFor : GoodIn wsX9_culprit (wsV RX9 194 RX9 yX9_trueFor wsX9_trueFor) := goodIn_app (goodIn_of _ (by decide +kernel)) ggX9_culprit_X9_trueFor
set_option maxRecDepth 20000 in
theorem ggX9_culprit_J6_bitCount_0f7a4 : GoodIn wsX9_culprit wsJ6_bitCount_0f7a4 := goodIn_r _ [107, 108, 109, 110] (by decide +kernel) (by decide +kernel)
set_option maxRecDepth 20000 in
theorem gX9_culprit_J6_bitCount_0f7a4 : GoodIn wsX9_culprit (va_wsS RX9 197 yJ6_bitCount_0f7a4 wsJ6_bitCount_0f7a4) := goodIn_app (goodIn_of _ (by decide +kernel)) ggX9_culprit_J6_bitCount_0f7a4
theorem dX9_culprit_0 : decode cX9_culprit 0 = .ok (.aload_n 0, 1) := by decide +kernel
theorem dX9_culprit_1 : decode cX9_culprit 1 = .ok (.iconst 0, 1) := by decide +kernel
theorem dX9_culprit_2 : decode cX9_culprit 2 = .ok (.putfield 71, 3) := by decide +kernel
theorem dX9_culprit_5 : decode cX9_culprit 5 = .ok (.aload_n 0, 1) := by decide +kernel
theorem dX9_culprit_6 : decode cX9_culprit 6 = .ok (.invokevirtual 191, 3) := by decide +kernel
theorem dX9_culprit_9 : decode cX9_culprit 9 = .ok (.istore_n 1, 1) := by decide +kernel
theorem dX9_culprit_10 : decode cX9_culprit 10 = .ok (.iconst (-1), 1) := by decide +kernel
theorem dX9_culprit_11 : decode cX9_culprit 11 = .ok (.istore_n 2, 1) := by decide +kernel
theorem dX9_culprit_12 : decode cX9_culprit 12 = .ok (.iconst 0, 1) := by decide +kernel
theorem dX9_culprit_13 : decode cX9_culprit 13 = .ok (.istore_n 3, 1) := by decide +kernel
theorem dX9_culprit_14 : decode cX9_culprit 14 = .ok (.iload_n 3, 1) := by decide +kernel
theorem dX9_culprit_15 : decode cX9_culprit 15 = .ok (.sipush 256, 3) := by decide +kernel
theorem dX9_culprit_18 : decode cX9_culprit 18 = .ok (.if_icmp .ge 72, 3) := by decide +kernel
theorem dX9_culprit_21 : decode cX9_culprit 21 = .ok (.iload_n 3, 1) := by decide +kernel
theorem dX9_culprit_22 : decode cX9_culprit 22 = .ok (.bipush 16, 2) := by decide +kernel
theorem dX9_culprit_24 : decode cX9_culprit 24 = .ok (.idiv, 1) := by decide +kernel
theorem dX9_culprit_25 : decode cX9_culprit 25 = .ok (.istore 4, 2) := by decide +kernel
theorem dX9_culprit_27 : decode cX9_culprit 27 = .ok (.iload_n 3, 1) := by decide +kernel
theorem dX9_culprit_28 : decode cX9_culprit 28 = .ok (.bipush 16, 2) := by decide +kernel
theorem dX9_culprit_30 : decode cX9_culprit 30 = .ok (.irem, 1) := by decide +kernel
theorem dX9_culprit_31 : decode cX9_culprit 31 = .ok (.istore 5, 2) := by decide +kernel
theorem dX9_culprit_33 : decode cX9_culprit 33 = .ok (.aload_n 0, 1) := by decide +kernel
theorem dX9_culprit_34 : decode cX9_culprit 34 = .ok (.iload 4, 2) := by decide +kernel
theorem dX9_culprit_36 : decode cX9_culprit 36 = .ok (.iload 5, 2) := by decide +kernel
theorem dX9_culprit_38 : decode cX9_culprit 38 = .ok (.invokevirtual 194, 3) := by decide +kernel
theorem dX9_culprit_41 : decode cX9_culprit 41 = .ok (.istore 6, 2) := by decide +kernel
theorem dX9_culprit_43 : decode cX9_culprit 43 = .ok (.iload 4, 2) := by decide +kernel
theorem dX9_culprit_45 : decode cX9_culprit 45 = .ok (.iload 5, 2) := by decide +kernel
theorem dX9_culprit_47 : decode cX9_culprit 47 = .ok (.iand, 1) := by decide +kernel
theorem dX9_culprit_48 : decode cX9_culprit 48 = .ok (.ifCond .ne 36, 3) := by decide +kernel
theorem dX9_culprit_51 : decode cX9_culprit 51 = .ok (.iload 6, 2) := by decide +kernel
theorem dX9_culprit_53 : decode cX9_culprit 53 = .ok (.ifCond .eq 31, 3) := by decide +kernel
theorem dX9_culprit_56 : decode cX9_culprit 56 = .ok (.iload 6, 2) := by decide +kernel
theorem dX9_culprit_58 : decode cX9_culprit 58 = .ok (.iload_n 1, 1) := by decide +kernel
theorem dX9_culprit_59 : decode cX9_culprit 59 = .ok (.iand, 1) := by decide +kernel
theorem dX9_culprit_60 : decode cX9_culprit 60 = .ok (.ifCond .eq 6, 3) := by decide +kernel
theorem dX9_culprit_63 : decode cX9_culprit 63 = .ok (.goto 21, 3) := by decide +kernel
theorem dX9_culprit_66 : decode cX9_culprit 66 = .ok (.iload_n 2, 1) := by decide +kernel
theorem dX9_culprit_67 : decode cX9_culprit 67 = .ok (.iconst (-1), 1) := by decide +kernel
theorem dX9_culprit_68 : decode cX9_culprit 68 = .ok (.if_icmp .eq 14, 3) := by decide +kernel
theorem dX9_culprit_71 : decode cX9_culprit 71 = .ok (.iload_n 3, 1) := by decide +kernel
theorem dX9_culprit_72 : decode cX9_culprit 72 = .ok (.invokestatic 197, 3) := by decide +kernel
theorem dX9_culprit_75 : decode cX9_culprit 75 = .ok (.iload_n 2, 1) := by decide +kernel
theorem dX9_culprit_76 : decode cX9_culprit 76 = .ok (.invokestatic 197, 3) := by decide +kernel
theorem dX9_culprit_79 : decode cX9_culprit 79 = .ok (.if_icmp .ge 5, 3) := by decide +kernel
theorem dX9_culprit_82 : decode cX9_culprit 82 = .ok (.iload_n 3, 1) := by decide +kernel
theorem dX9_culprit_83 : decode cX9_culprit 83 = .ok (.istore_n 2, 1) := by decide +kernel
theorem dX9_culprit_84 : decode cX9_culprit 84 = .ok (.iinc 3 1, 3) := by decide +kernel
theorem dX9_culprit_87 : decode cX9_culprit 87 = .ok (.goto (-73), 3) := by decide +kernel
theorem dX9_culprit_90 : decode cX9_culprit 90 = .ok (.iload_n 2, 1) := by decide +kernel
theorem dX9_culprit_91 : decode cX9_culprit 91 = .ok (.ireturn, 1) := by decide +kernel
set_option maxRecDepth 20000 in
theorem ggX9_share_X9_allProducts : GoodIn wsX9_share wsX9_allProducts := goodIn_r _ [6, 7, 8, 9, 5, 10, 11, 12, 13, 14, 15, 16, 17, 18, 19, 20, 107, 108, 109, 110, 111, 112, 113, 114, 115, 116, 117, 118, 119, 120, 121, 122, 123, 124, 125, 126, 127, 128, 129, 130] (by decide +kernel) (by decide +kernel)
set_option maxRecDepth 20000 in
theorem gX9_share_X9_allProducts : GoodIn wsX9_share (wsV RX9 104 RX9 yX9_allProducts wsX9_allProducts) := goodIn_app (goodIn_of _ (by decide +kernel)) ggX9_share_X9_allProducts
set_option maxRecDepth 20000 in
theorem ggX9_share_J6_bitCount_0f7a4 : GoodIn wsX9_share wsJ6_bitCount_0f7a4 := goodIn_r _ [24, 25, 26, 27] (by decide +kernel) (by decide +kernel)
set_option maxRecDepth 20000 in
theorem gX9_share_J6_bitCount_0f7a4 : GoodIn wsX9_share (va_wsS RX9 197 yJ6_bitCount_0f7a4 wsJ6_bitCount_0f7a4) := goodIn_app (goodIn_of _ (by decide +kernel)) ggX9_share_J6_bitCount_0f7a4
set_option maxRecDepth 20000 in
theorem ggX9_share_X9_rightSet : GoodIn wsX9_share wsX9_rightSet := goodIn_r _ [31, 32, 33, 34, 35, 5, 36, 37, 38, 39, 40, 41, 42, 43, 7, 8, 9, 10, 11, 12, 13, 14, 15, 16, 17, 18, 19, 20, 44, 45, 46, 47, 48, 49, 50, 51, 52, 53, 54, 55, 56, 57, 58, 59, 60, 61, 62, 63, 64, 65, 66, 67, 68, 69, 70, 71, 72, 73, 74, 75, 76, 77, 78, 79, 80, 81, 82, 83, 84, 85, 86, 87, 88, 89, 90, 91, 92, 93, 94, 95, 96, 97, 98, 99, 100, 101, 102, 103, 104, 105, 106, 2, 3, 4, 6, 107, 108, 109, 110, 111, 112, 113, 114, 115, 116, 117, 118, 119, 120, 121, 122, 123, 124, 125, 126, 127, 128, 129, 130] (by decide +kernel) (by decide +kernel)
set_option maxRecDepth 20000 in
theorem gX9_share_X9_rightSet : GoodIn wsX9_share (wsV RX9 191 RX9 yX9_rightSet wsX9_rightSet) := goodIn_app (goodIn_of _ (by decide +kernel)) ggX9_share_X9_rightSet
theorem dX9_share_0 : decode cX9_share 0 = .ok (.aload_n 0, 1) := by decide +kernel
theorem dX9_share_1 : decode cX9_share 1 = .ok (.iconst 0, 1) := by decide +kernel
theorem dX9_share_2 : decode cX9_share 2 = .ok (.putfield 71, 3) := by decide +kernel
theorem dX9_share_5 : decode cX9_share 5 = .ok (.aload_n 0, 1) := by decide +kernel
theorem dX9_share_6 : decode cX9_share 6 = .ok (.invokevirtual 104, 3) := by decide +kernel
theorem dX9_share_9 : decode cX9_share 9 = .ok (.invokestatic 197, 3) := by decide +kernel
theorem dX9_share_12 : decode cX9_share 12 = .ok (.istore_n 1, 1) := by decide +kernel
theorem dX9_share_13 : decode cX9_share 13 = .ok (.iload_n 1, 1) := by decide +kernel
theorem dX9_share_14 : decode cX9_share 14 = .ok (.ifCond .ne 7, 3) := by decide +kernel
theorem dX9_share_17 : decode cX9_share 17 = .ok (.dconst 0, 1) := by decide +kernel
theorem dX9_share_18 : decode cX9_share 18 = .ok (.goto 14, 3) := by decide +kernel
theorem dX9_share_21 : decode cX9_share 21 = .ok (.aload_n 0, 1) := by decide +kernel
theorem dX9_share_22 : decode cX9_share 22 = .ok (.invokevirtual 191, 3) := by decide +kernel
theorem dX9_share_25 : decode cX9_share 25 = .ok (.invokestatic 197, 3) := by decide +kernel
theorem dX9_share_28 : decode cX9_share 28 = .ok (.i2d, 1) := by decide +kernel
theorem dX9_share_29 : decode cX9_share 29 = .ok (.iload_n 1, 1) := by decide +kernel
theorem dX9_share_30 : decode cX9_share 30 = .ok (.i2d, 1) := by decide +kernel
theorem dX9_share_31 : decode cX9_share 31 = .ok (.ddiv, 1) := by decide +kernel
theorem dX9_share_32 : decode cX9_share 32 = .ok (.dreturn, 1) := by decide +kernel
set_option maxRecDepth 20000 in
theorem ggX9_digest_X9_allProducts : GoodIn wsX9_digest wsX9_allProducts := goodIn_r _ [11, 12, 13, 14, 10, 15, 16, 17, 18, 19, 20, 21, 22, 23, 24, 25, 106, 107, 108, 109, 110, 111, 112, 113, 114, 115, 116, 117, 118, 119, 120, 121, 122, 123, 124, 125, 126, 127, 128, 129] (by decide +kernel) (by decide +kernel)
set_option maxRecDepth 20000 in
theorem gX9_digest_X9_allProducts : GoodIn wsX9_digest (wsV RX9 104 RX9 yX9_allProducts wsX9_allProducts) := goodIn_app (goodIn_of _ (by decide +kernel)) ggX9_digest_X9_allProducts
set_option maxRecDepth 20000 in
theorem ggX9_digest_X9_presenceOf : GoodIn wsX9_digest wsX9_presenceOf := goodIn_r _ [29, 12, 13, 14, 10, 15, 16, 17, 18, 19, 20, 21, 22, 23, 24, 25, 30, 31, 32, 33, 34, 35, 36, 37, 38, 39, 40, 41, 42, 43, 44, 106, 107, 108, 109, 110, 111, 112, 113, 114, 115, 116, 117, 118, 119, 120, 121, 122, 123, 124, 125, 126, 127, 128, 129] (by decide +kernel) (by decide +kernel)
set_option maxRecDepth 20000 in
theorem gX9_digest_X9_presenceOf : GoodIn wsX9_digest (wsV RX9 182 RX9 yX9_presenceOf wsX9_presenceOf) := goodIn_app (goodIn_of _ (by decide +kernel)) ggX9_digest_X9_presenceOf
set_option maxRecDepth 20000 in
theorem ggX9_digest_X9_countErrors : GoodIn wsX9_digest wsX9_countErrors := goodIn_r _ [48, 6, 49, 50, 51, 10, 52, 53, 5, 54, 37, 4, 38, 55, 12, 13, 14, 15, 16, 17, 18, 19, 20, 21, 22, 23, 24, 25, 56, 57, 58, 59, 34, 35, 36, 39, 40, 41, 42, 43, 44, 30, 31, 32, 33, 60, 61, 62, 63, 64, 65, 66, 67, 68, 69, 70, 71, 72, 73, 74, 75, 76, 77, 78, 79, 80, 81, 82, 83, 84, 85, 86, 87, 88, 89, 90, 91, 92, 93, 94, 95, 96, 97, 98, 99, 100, 101, 102, 103, 104, 105, 106, 107, 108, 109, 110, 111, 112, 113, 114, 115, 116, 117, 118, 119, 120, 121, 122, 123, 124, 125, 126, 127, 128, 129] (by decide +kernel) (by decide +kernel)
set_option maxRecDepth 20000 in
theorem gX9_digest_X9_countErrors : GoodIn wsX9_digest (wsV RX9 188 RX9 yX9_countErrors wsX9_countErrors) := goodIn_app (goodIn_of _ (by decide +kernel)) ggX9_digest_X9_countErrors
set_option maxRecDepth 20000 in
theorem ggX9_digest_X9_isProduct : GoodIn wsX9_digest wsX9_isProduct := goodIn_r _ [15, 16, 17, 18, 19, 20, 21, 10, 22, 23, 24, 25, 106, 107, 108, 109, 110, 111, 112, 113, 114, 115, 116, 117, 118, 119, 120, 121, 122, 123, 124, 125, 126, 127, 128, 129] (by decide +kernel) (by decide +kernel)
set_option maxRecDepth 20000 in
theorem gX9_digest_X9_isProduct : GoodIn wsX9_digest (wsV RX9 100 RX9 yX9_isProduct wsX9_isProduct) := goodIn_app (goodIn_of _ (by decide +kernel)) ggX9_digest_X9_isProduct
set_option maxRecDepth 20000 in
theorem ggX9_digest_X9_typeIn : GoodIn wsX9_digest wsX9_typeIn := goodIn_r _ [101, 54, 106, 107, 108, 109, 110, 111, 112, 113, 114, 115, 116, 117, 118, 119, 120, 121, 122, 123, 124, 125, 126, 127, 128, 129] (by decide +kernel) (by decide +kernel)
set_option maxRecDepth 20000 in
theorem gX9_digest_X9_typeIn : GoodIn wsX9_digest (wsV RX9 155 RX9 yX9_typeIn wsX9_typeIn) := goodIn_app (goodIn_of _ (by decide +kernel)) ggX9_digest_X9_typeIn
theorem dX9_digest_0 : decode cX9_digest 0 = .ok (.aload_n 0, 1) := by decide +kernel
theorem dX9_digest_1 : decode cX9_digest 1 = .ok (.iconst 0, 1) := by decide +kernel
theorem dX9_digest_2 : decode cX9_digest 2 = .ok (.putfield 71, 3) := by decide +kernel
theorem dX9_digest_5 : decode cX9_digest 5 = .ok (.ldc2_w 202, 3) := by decide +kernel
theorem dX9_digest_8 : decode cX9_digest 8 = .ok (.aload_n 0, 1) := by decide +kernel
theorem dX9_digest_9 : decode cX9_digest 9 = .ok (.invokevirtual 104, 3) := by decide +kernel
theorem dX9_digest_12 : decode cX9_digest 12 = .ok (.i2l, 1) := by decide +kernel
theorem dX9_digest_13 : decode cX9_digest 13 = .ok (.ladd, 1) := by decide +kernel
theorem dX9_digest_14 : decode cX9_digest 14 = .ok (.lstore_n 1, 1) := by decide +kernel
theorem dX9_digest_15 : decode cX9_digest 15 = .ok (.iconst 0, 1) := by decide +kernel
theorem dX9_digest_16 : decode cX9_digest 16 = .ok (.istore_n 3, 1) := by decide +kernel
theorem dX9_digest_17 : decode cX9_digest 17 = .ok (.iload_n 3, 1) := by decide +kernel
theorem dX9_digest_18 : decode cX9_digest 18 = .ok (.iconst 3, 1) := by decide +kernel
theorem dX9_digest_19 : decode cX9_digest 19 = .ok (.if_icmp .gt 23, 3) := by decide +kernel
theorem dX9_digest_22 : decode cX9_digest 22 = .ok (.lload_n 1, 1) := by decide +kernel
theorem dX9_digest_23 : decode cX9_digest 23 = .ok (.ldc2_w 204, 3) := by decide +kernel
theorem dX9_digest_26 : decode cX9_digest 26 = .ok (.lmul, 1) := by decide +kernel
theorem dX9_digest_27 : decode cX9_digest 27 = .ok (.aload_n 0, 1) := by decide +kernel
theorem dX9_digest_28 : decode cX9_digest 28 = .ok (.getfield 19, 3) := by decide +kernel
theorem dX9_digest_31 : decode cX9_digest 31 = .ok (.iload_n 3, 1) := by decide +kernel
theorem dX9_digest_32 : decode cX9_digest 32 = .ok (.iaload, 1) := by decide +kernel
theorem dX9_digest_33 : decode cX9_digest 33 = .ok (.i2l, 1) := by decide +kernel
theorem dX9_digest_34 : decode cX9_digest 34 = .ok (.ladd, 1) := by decide +kernel
theorem dX9_digest_35 : decode cX9_digest 35 = .ok (.lstore_n 1, 1) := by decide +kernel
theorem dX9_digest_36 : decode cX9_digest 36 = .ok (.iinc 3 1, 3) := by decide +kernel
theorem dX9_digest_39 : decode cX9_digest 39 = .ok (.goto (-22), 3) := by decide +kernel
theorem dX9_digest_42 : decode cX9_digest 42 = .ok (.lload_n 1, 1) := by decide +kernel
theorem dX9_digest_43 : decode cX9_digest 43 = .ok (.ldc2_w 204, 3) := by decide +kernel
theorem dX9_digest_46 : decode cX9_digest 46 = .ok (.lmul, 1) := by decide +kernel
theorem dX9_digest_47 : decode cX9_digest 47 = .ok (.aload_n 0, 1) := by decide +kernel
theorem dX9_digest_48 : decode cX9_digest 48 = .ok (.getfield 83, 3) := by decide +kernel
theorem dX9_digest_51 : decode cX9_digest 51 = .ok (.i2l, 1) := by decide +kernel
theorem dX9_digest_52 : decode cX9_digest 52 = .ok (.ladd, 1) := by decide +kernel
theorem dX9_digest_53 : decode cX9_digest 53 = .ok (.lstore_n 1, 1) := by decide +kernel
theorem dX9_digest_54 : decode cX9_digest 54 = .ok (.iconst 0, 1) := by decide +kernel
theorem dX9_digest_55 : decode cX9_digest 55 = .ok (.istore_n 3, 1) := by decide +kernel
theorem dX9_digest_56 : decode cX9_digest 56 = .ok (.iload_n 3, 1) := by decide +kernel
theorem dX9_digest_57 : decode cX9_digest 57 = .ok (.iconst 3, 1) := by decide +kernel
theorem dX9_digest_58 : decode cX9_digest 58 = .ok (.if_icmp .gt 44, 3) := by decide +kernel
theorem dX9_digest_61 : decode cX9_digest 61 = .ok (.iconst 0, 1) := by decide +kernel
theorem dX9_digest_62 : decode cX9_digest 62 = .ok (.istore 4, 2) := by decide +kernel
theorem dX9_digest_64 : decode cX9_digest 64 = .ok (.iload 4, 2) := by decide +kernel
theorem dX9_digest_66 : decode cX9_digest 66 = .ok (.aload_n 0, 1) := by decide +kernel
theorem dX9_digest_67 : decode cX9_digest 67 = .ok (.getfield 19, 3) := by decide +kernel
theorem dX9_digest_70 : decode cX9_digest 70 = .ok (.iload_n 3, 1) := by decide +kernel
theorem dX9_digest_71 : decode cX9_digest 71 = .ok (.iaload, 1) := by decide +kernel
theorem dX9_digest_72 : decode cX9_digest 72 = .ok (.if_icmp .ge 24, 3) := by decide +kernel
theorem dX9_digest_75 : decode cX9_digest 75 = .ok (.lload_n 1, 1) := by decide +kernel
theorem dX9_digest_76 : decode cX9_digest 76 = .ok (.ldc2_w 204, 3) := by decide +kernel
theorem dX9_digest_79 : decode cX9_digest 79 = .ok (.lmul, 1) := by decide +kernel
theorem dX9_digest_80 : decode cX9_digest 80 = .ok (.aload_n 0, 1) := by decide +kernel
theorem dX9_digest_81 : decode cX9_digest 81 = .ok (.iload_n 3, 1) := by decide +kernel
theorem dX9_digest_82 : decode cX9_digest 82 = .ok (.iload 4, 2) := by decide +kernel
theorem dX9_digest_84 : decode cX9_digest 84 = .ok (.invokevirtual 182, 3) := by decide +kernel
theorem dX9_digest_87 : decode cX9_digest 87 = .ok (.i2l, 1) := by decide +kernel
theorem dX9_digest_88 : decode cX9_digest 88 = .ok (.ladd, 1) := by decide +kernel
theorem dX9_digest_89 : decode cX9_digest 89 = .ok (.lstore_n 1, 1) := by decide +kernel
theorem dX9_digest_90 : decode cX9_digest 90 = .ok (.iinc 4 1, 3) := by decide +kernel
theorem dX9_digest_93 : decode cX9_digest 93 = .ok (.goto (-29), 3) := by decide +kernel
theorem dX9_digest_96 : decode cX9_digest 96 = .ok (.iinc 3 1, 3) := by decide +kernel
theorem dX9_digest_99 : decode cX9_digest 99 = .ok (.goto (-43), 3) := by decide +kernel
theorem dX9_digest_102 : decode cX9_digest 102 = .ok (.lload_n 1, 1) := by decide +kernel
theorem dX9_digest_103 : decode cX9_digest 103 = .ok (.ldc2_w 204, 3) := by decide +kernel
theorem dX9_digest_106 : decode cX9_digest 106 = .ok (.lmul, 1) := by decide +kernel
theorem dX9_digest_107 : decode cX9_digest 107 = .ok (.aload_n 0, 1) := by decide +kernel
theorem dX9_digest_108 : decode cX9_digest 108 = .ok (.invokevirtual 188, 3) := by decide +kernel
theorem dX9_digest_111 : decode cX9_digest 111 = .ok (.i2l, 1) := by decide +kernel
theorem dX9_digest_112 : decode cX9_digest 112 = .ok (.ladd, 1) := by decide +kernel
theorem dX9_digest_113 : decode cX9_digest 113 = .ok (.lstore_n 1, 1) := by decide +kernel
theorem dX9_digest_114 : decode cX9_digest 114 = .ok (.iconst 0, 1) := by decide +kernel
theorem dX9_digest_115 : decode cX9_digest 115 = .ok (.istore_n 3, 1) := by decide +kernel
theorem dX9_digest_116 : decode cX9_digest 116 = .ok (.iload_n 3, 1) := by decide +kernel
theorem dX9_digest_117 : decode cX9_digest 117 = .ok (.sipush 650, 3) := by decide +kernel
theorem dX9_digest_120 : decode cX9_digest 120 = .ok (.if_icmp .ge 52, 3) := by decide +kernel
theorem dX9_digest_123 : decode cX9_digest 123 = .ok (.aload_n 0, 1) := by decide +kernel
theorem dX9_digest_124 : decode cX9_digest 124 = .ok (.getfield 68, 3) := by decide +kernel
theorem dX9_digest_127 : decode cX9_digest 127 = .ok (.iload_n 3, 1) := by decide +kernel
theorem dX9_digest_128 : decode cX9_digest 128 = .ok (.iaload, 1) := by decide +kernel
theorem dX9_digest_129 : decode cX9_digest 129 = .ok (.ifCond .eq 37, 3) := by decide +kernel
theorem dX9_digest_132 : decode cX9_digest 132 = .ok (.lload_n 1, 1) := by decide +kernel
theorem dX9_digest_133 : decode cX9_digest 133 = .ok (.ldc2_w 204, 3) := by decide +kernel
theorem dX9_digest_136 : decode cX9_digest 136 = .ok (.lmul, 1) := by decide +kernel
theorem dX9_digest_137 : decode cX9_digest 137 = .ok (.iload_n 3, 1) := by decide +kernel
theorem dX9_digest_138 : decode cX9_digest 138 = .ok (.bipush 50, 2) := by decide +kernel
theorem dX9_digest_140 : decode cX9_digest 140 = .ok (.idiv, 1) := by decide +kernel
theorem dX9_digest_141 : decode cX9_digest 141 = .ok (.i2l, 1) := by decide +kernel
theorem dX9_digest_142 : decode cX9_digest 142 = .ok (.ladd, 1) := by decide +kernel
theorem dX9_digest_143 : decode cX9_digest 143 = .ok (.ldc2_w 204, 3) := by decide +kernel
theorem dX9_digest_146 : decode cX9_digest 146 = .ok (.lmul, 1) := by decide +kernel
theorem dX9_digest_147 : decode cX9_digest 147 = .ok (.iload_n 3, 1) := by decide +kernel
theorem dX9_digest_148 : decode cX9_digest 148 = .ok (.bipush 50, 2) := by decide +kernel
theorem dX9_digest_150 : decode cX9_digest 150 = .ok (.irem, 1) := by decide +kernel
theorem dX9_digest_151 : decode cX9_digest 151 = .ok (.i2l, 1) := by decide +kernel
theorem dX9_digest_152 : decode cX9_digest 152 = .ok (.ladd, 1) := by decide +kernel
theorem dX9_digest_153 : decode cX9_digest 153 = .ok (.ldc2_w 204, 3) := by decide +kernel
theorem dX9_digest_156 : decode cX9_digest 156 = .ok (.lmul, 1) := by decide +kernel
theorem dX9_digest_157 : decode cX9_digest 157 = .ok (.aload_n 0, 1) := by decide +kernel
theorem dX9_digest_158 : decode cX9_digest 158 = .ok (.getfield 68, 3) := by decide +kernel
theorem dX9_digest_161 : decode cX9_digest 161 = .ok (.iload_n 3, 1) := by decide +kernel
theorem dX9_digest_162 : decode cX9_digest 162 = .ok (.iaload, 1) := by decide +kernel
theorem dX9_digest_163 : decode cX9_digest 163 = .ok (.i2l, 1) := by decide +kernel
theorem dX9_digest_164 : decode cX9_digest 164 = .ok (.ladd, 1) := by decide +kernel
theorem dX9_digest_165 : decode cX9_digest 165 = .ok (.lstore_n 1, 1) := by decide +kernel
theorem dX9_digest_166 : decode cX9_digest 166 = .ok (.iinc 3 1, 3) := by decide +kernel
theorem dX9_digest_169 : decode cX9_digest 169 = .ok (.goto (-53), 3) := by decide +kernel
theorem dX9_digest_172 : decode cX9_digest 172 = .ok (.iconst 0, 1) := by decide +kernel
theorem dX9_digest_173 : decode cX9_digest 173 = .ok (.istore_n 3, 1) := by decide +kernel
theorem dX9_digest_174 : decode cX9_digest 174 = .ok (.iload_n 3, 1) := by decide +kernel
theorem dX9_digest_175 : decode cX9_digest 175 = .ok (.aload_n 0, 1) := by decide +kernel
theorem dX9_digest_176 : decode cX9_digest 176 = .ok (.getfield 83, 3) := by decide +kernel
theorem dX9_digest_179 : decode cX9_digest 179 = .ok (.if_icmp .ge 49, 3) := by decide +kernel
theorem dX9_digest_182 : decode cX9_digest 182 = .ok (.iconst 0, 1) := by decide +kernel
theorem dX9_digest_183 : decode cX9_digest 183 = .ok (.istore 4, 2) := by decide +kernel
theorem dX9_digest_185 : decode cX9_digest 185 = .ok (.iload 4, 2) := by decide +kernel
theorem dX9_digest_187 : decode cX9_digest 187 = .ok (.bipush 16, 2) := by decide +kernel
theorem dX9_digest_189 : decode cX9_digest 189 = .ok (.if_icmp .ge 33, 3) := by decide +kernel
theorem dX9_digest_192 : decode cX9_digest 192 = .ok (.aload_n 0, 1) := by decide +kernel
theorem dX9_digest_193 : decode cX9_digest 193 = .ok (.iload 4, 2) := by decide +kernel
theorem dX9_digest_195 : decode cX9_digest 195 = .ok (.invokevirtual 100, 3) := by decide +kernel
theorem dX9_digest_198 : decode cX9_digest 198 = .ok (.ifCond .eq 18, 3) := by decide +kernel
theorem dX9_digest_201 : decode cX9_digest 201 = .ok (.lload_n 1, 1) := by decide +kernel
theorem dX9_digest_202 : decode cX9_digest 202 = .ok (.ldc2_w 204, 3) := by decide +kernel
theorem dX9_digest_205 : decode cX9_digest 205 = .ok (.lmul, 1) := by decide +kernel
theorem dX9_digest_206 : decode cX9_digest 206 = .ok (.aload_n 0, 1) := by decide +kernel
theorem dX9_digest_207 : decode cX9_digest 207 = .ok (.iload_n 3, 1) := by decide +kernel
theorem dX9_digest_208 : decode cX9_digest 208 = .ok (.iload 4, 2) := by decide +kernel
theorem dX9_digest_210 : decode cX9_digest 210 = .ok (.invokevirtual 155, 3) := by decide +kernel
theorem dX9_digest_213 : decode cX9_digest 213 = .ok (.i2l, 1) := by decide +kernel
theorem dX9_digest_214 : decode cX9_digest 214 = .ok (.ladd, 1) := by decide +kernel
theorem dX9_digest_215 : decode cX9_digest 215 = .ok (.lstore_n 1, 1) := by decide +kernel
theorem dX9_digest_216 : decode cX9_digest 216 = .ok (.iinc 4 1, 3) := by decide +kernel
theorem dX9_digest_219 : decode cX9_digest 219 = .ok (.goto (-34), 3) := by decide +kernel
theorem dX9_digest_222 : decode cX9_digest 222 = .ok (.iinc 3 1, 3) := by decide +kernel
theorem dX9_digest_225 : decode cX9_digest 225 = .ok (.goto (-51), 3) := by decide +kernel
theorem dX9_digest_228 : decode cX9_digest 228 = .ok (.lload_n 1, 1) := by decide +kernel
theorem dX9_digest_229 : decode cX9_digest 229 = .ok (.lreturn, 1) := by decide +kernel
theorem dJ6_bitCount_0f7a4_0 : decode cJ6_bitCount_0f7a4 0 = .ok (.iload_n 0, 1) := by decide +kernel
theorem dJ6_bitCount_0f7a4_1 : decode cJ6_bitCount_0f7a4 1 = .ok (.iload_n 0, 1) := by decide +kernel
theorem dJ6_bitCount_0f7a4_2 : decode cJ6_bitCount_0f7a4 2 = .ok (.iconst 1, 1) := by decide +kernel
theorem dJ6_bitCount_0f7a4_3 : decode cJ6_bitCount_0f7a4 3 = .ok (.iushr, 1) := by decide +kernel
theorem dJ6_bitCount_0f7a4_4 : decode cJ6_bitCount_0f7a4 4 = .ok (.ldc_w 265, 3) := by decide +kernel
theorem dJ6_bitCount_0f7a4_7 : decode cJ6_bitCount_0f7a4 7 = .ok (.iand, 1) := by decide +kernel
theorem dJ6_bitCount_0f7a4_8 : decode cJ6_bitCount_0f7a4 8 = .ok (.isub, 1) := by decide +kernel
theorem dJ6_bitCount_0f7a4_9 : decode cJ6_bitCount_0f7a4 9 = .ok (.istore_n 0, 1) := by decide +kernel
theorem dJ6_bitCount_0f7a4_10 : decode cJ6_bitCount_0f7a4 10 = .ok (.iload_n 0, 1) := by decide +kernel
theorem dJ6_bitCount_0f7a4_11 : decode cJ6_bitCount_0f7a4 11 = .ok (.ldc_w 266, 3) := by decide +kernel
theorem dJ6_bitCount_0f7a4_14 : decode cJ6_bitCount_0f7a4 14 = .ok (.iand, 1) := by decide +kernel
theorem dJ6_bitCount_0f7a4_15 : decode cJ6_bitCount_0f7a4 15 = .ok (.iload_n 0, 1) := by decide +kernel
theorem dJ6_bitCount_0f7a4_16 : decode cJ6_bitCount_0f7a4 16 = .ok (.iconst 2, 1) := by decide +kernel
theorem dJ6_bitCount_0f7a4_17 : decode cJ6_bitCount_0f7a4 17 = .ok (.iushr, 1) := by decide +kernel
theorem dJ6_bitCount_0f7a4_18 : decode cJ6_bitCount_0f7a4 18 = .ok (.ldc_w 266, 3) := by decide +kernel
theorem dJ6_bitCount_0f7a4_21 : decode cJ6_bitCount_0f7a4 21 = .ok (.iand, 1) := by decide +kernel
theorem dJ6_bitCount_0f7a4_22 : decode cJ6_bitCount_0f7a4 22 = .ok (.iadd, 1) := by decide +kernel
theorem dJ6_bitCount_0f7a4_23 : decode cJ6_bitCount_0f7a4 23 = .ok (.istore_n 0, 1) := by decide +kernel
theorem dJ6_bitCount_0f7a4_24 : decode cJ6_bitCount_0f7a4 24 = .ok (.iload_n 0, 1) := by decide +kernel
theorem dJ6_bitCount_0f7a4_25 : decode cJ6_bitCount_0f7a4 25 = .ok (.iload_n 0, 1) := by decide +kernel
theorem dJ6_bitCount_0f7a4_26 : decode cJ6_bitCount_0f7a4 26 = .ok (.iconst 4, 1) := by decide +kernel
theorem dJ6_bitCount_0f7a4_27 : decode cJ6_bitCount_0f7a4 27 = .ok (.iushr, 1) := by decide +kernel
theorem dJ6_bitCount_0f7a4_28 : decode cJ6_bitCount_0f7a4 28 = .ok (.iadd, 1) := by decide +kernel
theorem dJ6_bitCount_0f7a4_29 : decode cJ6_bitCount_0f7a4 29 = .ok (.ldc_w 267, 3) := by decide +kernel
theorem dJ6_bitCount_0f7a4_32 : decode cJ6_bitCount_0f7a4 32 = .ok (.iand, 1) := by decide +kernel
theorem dJ6_bitCount_0f7a4_33 : decode cJ6_bitCount_0f7a4 33 = .ok (.istore_n 0, 1) := by decide +kernel
theorem dJ6_bitCount_0f7a4_34 : decode cJ6_bitCount_0f7a4 34 = .ok (.iload_n 0, 1) := by decide +kernel
theorem dJ6_bitCount_0f7a4_35 : decode cJ6_bitCount_0f7a4 35 = .ok (.iload_n 0, 1) := by decide +kernel
theorem dJ6_bitCount_0f7a4_36 : decode cJ6_bitCount_0f7a4 36 = .ok (.bipush 8, 2) := by decide +kernel
theorem dJ6_bitCount_0f7a4_38 : decode cJ6_bitCount_0f7a4 38 = .ok (.iushr, 1) := by decide +kernel
theorem dJ6_bitCount_0f7a4_39 : decode cJ6_bitCount_0f7a4 39 = .ok (.iadd, 1) := by decide +kernel
theorem dJ6_bitCount_0f7a4_40 : decode cJ6_bitCount_0f7a4 40 = .ok (.istore_n 0, 1) := by decide +kernel
theorem dJ6_bitCount_0f7a4_41 : decode cJ6_bitCount_0f7a4 41 = .ok (.iload_n 0, 1) := by decide +kernel
theorem dJ6_bitCount_0f7a4_42 : decode cJ6_bitCount_0f7a4 42 = .ok (.iload_n 0, 1) := by decide +kernel
theorem dJ6_bitCount_0f7a4_43 : decode cJ6_bitCount_0f7a4 43 = .ok (.bipush 16, 2) := by decide +kernel
theorem dJ6_bitCount_0f7a4_45 : decode cJ6_bitCount_0f7a4 45 = .ok (.iushr, 1) := by decide +kernel
theorem dJ6_bitCount_0f7a4_46 : decode cJ6_bitCount_0f7a4 46 = .ok (.iadd, 1) := by decide +kernel
theorem dJ6_bitCount_0f7a4_47 : decode cJ6_bitCount_0f7a4 47 = .ok (.istore_n 0, 1) := by decide +kernel
theorem dJ6_bitCount_0f7a4_48 : decode cJ6_bitCount_0f7a4 48 = .ok (.iload_n 0, 1) := by decide +kernel
theorem dJ6_bitCount_0f7a4_49 : decode cJ6_bitCount_0f7a4 49 = .ok (.bipush 63, 2) := by decide +kernel
theorem dJ6_bitCount_0f7a4_51 : decode cJ6_bitCount_0f7a4 51 = .ok (.iand, 1) := by decide +kernel
theorem dJ6_bitCount_0f7a4_52 : decode cJ6_bitCount_0f7a4 52 = .ok (.ireturn, 1) := by decide +kernel
set_option maxRecDepth 20000 in
theorem ggL_addRule_X8_addRule : GoodIn wsL_addRule wsX8_addRule := goodIn_ca (goodIn_ca (goodIn_r _ [7, 8, 9, 10, 11, 12, 13, 14, 6, 15, 16, 17, 18, 19, 20, 21, 22, 23, 24, 25, 26, 27, 28, 29, 30, 31, 32, 33, 34, 35, 36, 37, 38, 39, 40, 41, 42, 43] (by decide +kernel) (by decide +kernel)) (goodIn_sub (fun _ h => List.mem_cons_of_mem _ (List.mem_append_left _ (List.mem_append_right _ h))) (by decide +kernel))) (goodIn_sub (fun _ h => List.mem_cons_of_mem _ (List.mem_append_right _ h)) (by decide +kernel))
set_option maxRecDepth 20000 in
theorem gL_addRule_X8_addRule : GoodIn wsL_addRule (wsV RL 7 RX8 yX8_addRule wsX8_addRule) := goodIn_app (goodIn_of _ (by decide +kernel)) ggL_addRule_X8_addRule
theorem dL_addRule_0 : decode cL_addRule 0 = .ok (.aload 4, 2) := by decide +kernel
theorem dL_addRule_2 : decode cL_addRule 2 = .ok (.iconst 0, 1) := by decide +kernel
theorem dL_addRule_3 : decode cL_addRule 3 = .ok (.aload_n 0, 1) := by decide +kernel
theorem dL_addRule_4 : decode cL_addRule 4 = .ok (.iload_n 1, 1) := by decide +kernel
theorem dL_addRule_5 : decode cL_addRule 5 = .ok (.iload_n 2, 1) := by decide +kernel
theorem dL_addRule_6 : decode cL_addRule 6 = .ok (.iload_n 3, 1) := by decide +kernel
theorem dL_addRule_7 : decode cL_addRule 7 = .ok (.invokevirtual 7, 3) := by decide +kernel
theorem dL_addRule_10 : decode cL_addRule 10 = .ok (.i2l, 1) := by decide +kernel
theorem dL_addRule_11 : decode cL_addRule 11 = .ok (.lastore, 1) := by decide +kernel
theorem dL_addRule_12 : decode cL_addRule 12 = .ok (.goto 11, 3) := by decide +kernel
theorem dL_addRule_15 : decode cL_addRule 15 = .ok (.astore 5, 2) := by decide +kernel
theorem dL_addRule_17 : decode cL_addRule 17 = .ok (.iconst 1, 1) := by decide +kernel
theorem dL_addRule_18 : decode cL_addRule 18 = .ok (.ireturn, 1) := by decide +kernel
theorem dL_addRule_19 : decode cL_addRule 19 = .ok (.astore 5, 2) := by decide +kernel
theorem dL_addRule_21 : decode cL_addRule 21 = .ok (.iconst 2, 1) := by decide +kernel
theorem dL_addRule_22 : decode cL_addRule 22 = .ok (.ireturn, 1) := by decide +kernel
theorem dL_addRule_23 : decode cL_addRule 23 = .ok (.iconst 0, 1) := by decide +kernel
theorem dL_addRule_24 : decode cL_addRule 24 = .ok (.ireturn, 1) := by decide +kernel
set_option maxRecDepth 20000 in
theorem ggL_dropRule_X8_dropRule : GoodIn wsL_dropRule wsX8_dropRule := goodIn_ca (goodIn_r _ [6, 7, 8, 9, 10, 11, 12, 13, 14, 15, 16, 17, 18, 19, 20, 21, 22, 23, 24, 25, 26, 27] (by decide +kernel) (by decide +kernel)) (goodIn_sub (fun _ h => List.mem_cons_of_mem _ (List.mem_append_right _ h)) (by decide +kernel))
set_option maxRecDepth 20000 in
theorem gL_dropRule_X8_dropRule : GoodIn wsL_dropRule (wsV RL 17 RX8 yX8_dropRule wsX8_dropRule) := goodIn_app (goodIn_of _ (by decide +kernel)) ggL_dropRule_X8_dropRule
theorem dL_dropRule_0 : decode cL_dropRule 0 = .ok (.aload_n 1, 1) := by decide +kernel
theorem dL_dropRule_1 : decode cL_dropRule 1 = .ok (.iconst 0, 1) := by decide +kernel
theorem dL_dropRule_2 : decode cL_dropRule 2 = .ok (.aload_n 0, 1) := by decide +kernel
theorem dL_dropRule_3 : decode cL_dropRule 3 = .ok (.invokevirtual 17, 3) := by decide +kernel
theorem dL_dropRule_6 : decode cL_dropRule 6 = .ok (.i2l, 1) := by decide +kernel
theorem dL_dropRule_7 : decode cL_dropRule 7 = .ok (.lastore, 1) := by decide +kernel
theorem dL_dropRule_8 : decode cL_dropRule 8 = .ok (.goto 6, 3) := by decide +kernel
theorem dL_dropRule_11 : decode cL_dropRule 11 = .ok (.astore_n 2, 1) := by decide +kernel
theorem dL_dropRule_12 : decode cL_dropRule 12 = .ok (.iconst 1, 1) := by decide +kernel
theorem dL_dropRule_13 : decode cL_dropRule 13 = .ok (.ireturn, 1) := by decide +kernel
theorem dL_dropRule_14 : decode cL_dropRule 14 = .ok (.iconst 0, 1) := by decide +kernel
theorem dL_dropRule_15 : decode cL_dropRule 15 = .ok (.ireturn, 1) := by decide +kernel
set_option maxRecDepth 20000 in
theorem ggL_addClass_X8_addClass : GoodIn wsL_addClass wsX8_addClass := goodIn_ca (goodIn_ca (goodIn_r _ [7, 8, 9, 10, 11, 12, 13, 14, 15, 6, 16, 17, 18, 19, 20, 21, 22, 23, 24, 25, 26, 27, 28, 29, 30, 31, 32, 33, 34, 35, 36, 37, 38, 39, 40, 41, 42, 43, 44, 45, 46, 47, 48, 49, 50, 51, 52, 53, 54, 55, 56, 57, 58] (by decide +kernel) (by decide +kernel)) (goodIn_sub (fun _ h => List.mem_cons_of_mem _ (List.mem_append_left _ (List.mem_append_right _ h))) (by decide +kernel))) (goodIn_sub (fun _ h => List.mem_cons_of_mem _ (List.mem_append_right _ h)) (by decide +kernel))
set_option maxRecDepth 20000 in
theorem gL_addClass_X8_addClass : GoodIn wsL_addClass (wsV RL 21 RX8 yX8_addClass wsX8_addClass) := goodIn_app (goodIn_of _ (by decide +kernel)) ggL_addClass_X8_addClass
theorem dL_addClass_0 : decode cL_addClass 0 = .ok (.aload_n 3, 1) := by decide +kernel
theorem dL_addClass_1 : decode cL_addClass 1 = .ok (.iconst 0, 1) := by decide +kernel
theorem dL_addClass_2 : decode cL_addClass 2 = .ok (.aload_n 0, 1) := by decide +kernel
theorem dL_addClass_3 : decode cL_addClass 3 = .ok (.iload_n 1, 1) := by decide +kernel
theorem dL_addClass_4 : decode cL_addClass 4 = .ok (.iload_n 2, 1) := by decide +kernel
theorem dL_addClass_5 : decode cL_addClass 5 = .ok (.invokevirtual 21, 3) := by decide +kernel
theorem dL_addClass_8 : decode cL_addClass 8 = .ok (.i2l, 1) := by decide +kernel
theorem dL_addClass_9 : decode cL_addClass 9 = .ok (.lastore, 1) := by decide +kernel
theorem dL_addClass_10 : decode cL_addClass 10 = .ok (.goto 11, 3) := by decide +kernel
theorem dL_addClass_13 : decode cL_addClass 13 = .ok (.astore 4, 2) := by decide +kernel
theorem dL_addClass_15 : decode cL_addClass 15 = .ok (.iconst 1, 1) := by decide +kernel
theorem dL_addClass_16 : decode cL_addClass 16 = .ok (.ireturn, 1) := by decide +kernel
theorem dL_addClass_17 : decode cL_addClass 17 = .ok (.astore 4, 2) := by decide +kernel
theorem dL_addClass_19 : decode cL_addClass 19 = .ok (.iconst 2, 1) := by decide +kernel
theorem dL_addClass_20 : decode cL_addClass 20 = .ok (.ireturn, 1) := by decide +kernel
theorem dL_addClass_21 : decode cL_addClass 21 = .ok (.iconst 0, 1) := by decide +kernel
theorem dL_addClass_22 : decode cL_addClass 22 = .ok (.ireturn, 1) := by decide +kernel
set_option maxRecDepth 20000 in
theorem ggL_addLink_X8_addLink : GoodIn wsL_addLink wsX8_addLink := goodIn_ca (goodIn_ca (goodIn_ca (goodIn_r _ [8, 9, 10, 11, 12, 13, 14, 15, 16, 17, 18, 19, 20, 21, 22, 23, 24, 25, 7, 26, 27, 28, 29, 30, 31, 32, 33, 34, 35, 36, 37, 38, 39, 40, 41, 42, 43, 44, 45, 46, 47, 48, 49, 50, 51, 52, 53, 54, 55, 56, 57, 58, 59, 60, 61, 62, 63, 64, 65, 66, 67, 68, 69, 70, 71, 72, 73, 74, 75] (by decide +kernel) (by decide +kernel)) (goodIn_sub (fun _ h => List.mem_cons_of_mem _ (List.mem_append_left _ (List.mem_append_left _ (List.mem_append_right _ h)))) (by decide +kernel))) (goodIn_sub (fun _ h => List.mem_cons_of_mem _ (List.mem_append_left _ (List.mem_append_right _ h))) (by decide +kernel))) (goodIn_sub (fun _ h => List.mem_cons_of_mem _ (List.mem_append_right _ h)) (by decide +kernel))
set_option maxRecDepth 20000 in
theorem gL_addLink_X8_addLink : GoodIn wsL_addLink (wsV RL 25 RX8 yX8_addLink wsX8_addLink) := goodIn_app (goodIn_of _ (by decide +kernel)) ggL_addLink_X8_addLink
theorem dL_addLink_0 : decode cL_addLink 0 = .ok (.aload 5, 2) := by decide +kernel
theorem dL_addLink_2 : decode cL_addLink 2 = .ok (.iconst 0, 1) := by decide +kernel
theorem dL_addLink_3 : decode cL_addLink 3 = .ok (.aload_n 0, 1) := by decide +kernel
theorem dL_addLink_4 : decode cL_addLink 4 = .ok (.iload_n 1, 1) := by decide +kernel
theorem dL_addLink_5 : decode cL_addLink 5 = .ok (.iload_n 2, 1) := by decide +kernel
theorem dL_addLink_6 : decode cL_addLink 6 = .ok (.iload_n 3, 1) := by decide +kernel
theorem dL_addLink_7 : decode cL_addLink 7 = .ok (.iload 4, 2) := by decide +kernel
theorem dL_addLink_9 : decode cL_addLink 9 = .ok (.invokevirtual 25, 3) := by decide +kernel
theorem dL_addLink_12 : decode cL_addLink 12 = .ok (.i2l, 1) := by decide +kernel
theorem dL_addLink_13 : decode cL_addLink 13 = .ok (.lastore, 1) := by decide +kernel
theorem dL_addLink_14 : decode cL_addLink 14 = .ok (.goto 15, 3) := by decide +kernel
theorem dL_addLink_17 : decode cL_addLink 17 = .ok (.astore 6, 2) := by decide +kernel
theorem dL_addLink_19 : decode cL_addLink 19 = .ok (.iconst 1, 1) := by decide +kernel
theorem dL_addLink_20 : decode cL_addLink 20 = .ok (.ireturn, 1) := by decide +kernel
theorem dL_addLink_21 : decode cL_addLink 21 = .ok (.astore 6, 2) := by decide +kernel
theorem dL_addLink_23 : decode cL_addLink 23 = .ok (.iconst 2, 1) := by decide +kernel
theorem dL_addLink_24 : decode cL_addLink 24 = .ok (.ireturn, 1) := by decide +kernel
theorem dL_addLink_25 : decode cL_addLink 25 = .ok (.astore 6, 2) := by decide +kernel
theorem dL_addLink_27 : decode cL_addLink 27 = .ok (.iconst 3, 1) := by decide +kernel
theorem dL_addLink_28 : decode cL_addLink 28 = .ok (.ireturn, 1) := by decide +kernel
theorem dL_addLink_29 : decode cL_addLink 29 = .ok (.iconst 0, 1) := by decide +kernel
theorem dL_addLink_30 : decode cL_addLink 30 = .ok (.ireturn, 1) := by decide +kernel
set_option maxRecDepth 20000 in
theorem ggL_addField_X8_addField : GoodIn wsL_addField wsX8_addField := goodIn_ca (goodIn_ca (goodIn_ca (goodIn_r _ [8, 9, 10, 11, 12, 13, 14, 15, 16, 17, 18, 19, 20, 21, 22, 23, 24, 25, 7, 26, 27, 28, 29, 30, 31, 32, 33, 34, 35, 36, 37, 38, 39, 40, 41, 42, 43, 44, 45, 46, 47, 48, 49, 50, 51, 52, 53, 54, 55, 56, 57, 58, 59, 60, 61, 62, 63, 64, 65, 66, 67, 68, 69, 70, 71, 72, 73, 74, 75, 76, 77, 78, 79, 80, 81, 82, 83, 84, 85, 86, 87, 88, 89, 90, 91, 92, 93, 94, 95, 96, 97, 98, 99, 100, 101, 102, 103, 104] (by decide +kernel) (by decide +kernel)) (goodIn_sub (fun _ h => List.mem_cons_of_mem _ (List.mem_append_left _ (List.mem_append_left _ (List.mem_append_right _ h)))) (by decide +kernel))) (goodIn_sub (fun _ h => List.mem_cons_of_mem _ (List.mem_append_left _ (List.mem_append_right _ h))) (by decide +kernel))) (goodIn_sub (fun _ h => List.mem_cons_of_mem _ (List.mem_append_right _ h)) (by decide +kernel))
set_option maxRecDepth 20000 in
theorem gL_addField_X8_addField : GoodIn wsL_addField (wsV RL 31 RX8 yX8_addField wsX8_addField) := goodIn_app (goodIn_of _ (by decide +kernel)) ggL_addField_X8_addField
theorem dL_addField_0 : decode cL_addField 0 = .ok (.aload 6, 2) := by decide +kernel
theorem dL_addField_2 : decode cL_addField 2 = .ok (.iconst 0, 1) := by decide +kernel
theorem dL_addField_3 : decode cL_addField 3 = .ok (.aload_n 0, 1) := by decide +kernel
theorem dL_addField_4 : decode cL_addField 4 = .ok (.iload_n 1, 1) := by decide +kernel
theorem dL_addField_5 : decode cL_addField 5 = .ok (.iload_n 2, 1) := by decide +kernel
theorem dL_addField_6 : decode cL_addField 6 = .ok (.iload_n 3, 1) := by decide +kernel
theorem dL_addField_7 : decode cL_addField 7 = .ok (.iload 4, 2) := by decide +kernel
theorem dL_addField_9 : decode cL_addField 9 = .ok (.iload 5, 2) := by decide +kernel
theorem dL_addField_11 : decode cL_addField 11 = .ok (.invokevirtual 31, 3) := by decide +kernel
theorem dL_addField_14 : decode cL_addField 14 = .ok (.i2l, 1) := by decide +kernel
theorem dL_addField_15 : decode cL_addField 15 = .ok (.lastore, 1) := by decide +kernel
theorem dL_addField_16 : decode cL_addField 16 = .ok (.goto 15, 3) := by decide +kernel
theorem dL_addField_19 : decode cL_addField 19 = .ok (.astore 7, 2) := by decide +kernel
theorem dL_addField_21 : decode cL_addField 21 = .ok (.iconst 1, 1) := by decide +kernel
theorem dL_addField_22 : decode cL_addField 22 = .ok (.ireturn, 1) := by decide +kernel
theorem dL_addField_23 : decode cL_addField 23 = .ok (.astore 7, 2) := by decide +kernel
theorem dL_addField_25 : decode cL_addField 25 = .ok (.iconst 2, 1) := by decide +kernel
theorem dL_addField_26 : decode cL_addField 26 = .ok (.ireturn, 1) := by decide +kernel
theorem dL_addField_27 : decode cL_addField 27 = .ok (.astore 7, 2) := by decide +kernel
theorem dL_addField_29 : decode cL_addField 29 = .ok (.iconst 3, 1) := by decide +kernel
theorem dL_addField_30 : decode cL_addField 30 = .ok (.ireturn, 1) := by decide +kernel
theorem dL_addField_31 : decode cL_addField 31 = .ok (.iconst 0, 1) := by decide +kernel
theorem dL_addField_32 : decode cL_addField 32 = .ok (.ireturn, 1) := by decide +kernel
set_option maxRecDepth 20000 in
theorem ggL_addMethod_X8_addMethod : GoodIn wsL_addMethod wsX8_addMethod := goodIn_ca (goodIn_ca (goodIn_ca (goodIn_r _ [8, 9, 10, 11, 12, 13, 14, 15, 16, 17, 18, 19, 20, 21, 22, 23, 24, 25, 7, 26, 27, 28, 29, 30, 31, 32, 33, 34, 35, 36, 37, 38, 39, 40, 41, 42, 43, 44, 45, 46, 47, 48, 49, 50, 51, 52, 53, 54, 55, 56, 57, 58, 59, 60, 61, 62, 63, 64, 65, 66, 67, 68, 69, 70, 71, 72, 73, 74, 75, 76, 77, 78, 79, 80, 81, 82, 83, 84, 85, 86, 87, 88, 89, 90, 91, 92, 93, 94, 95, 96, 97, 98, 99, 100, 101, 102, 103, 104, 105, 106, 107, 108, 109] (by decide +kernel) (by decide +kernel)) (goodIn_sub (fun _ h => List.mem_cons_of_mem _ (List.mem_append_left _ (List.mem_append_left _ (List.mem_append_right _ h)))) (by decide +kernel))) (goodIn_sub (fun _ h => List.mem_cons_of_mem _ (List.mem_append_left _ (List.mem_append_right _ h))) (by decide +kernel))) (goodIn_sub (fun _ h => List.mem_cons_of_mem _ (List.mem_append_right _ h)) (by decide +kernel))
set_option maxRecDepth 20000 in
theorem gL_addMethod_X8_addMethod : GoodIn wsL_addMethod (wsV RL 35 RX8 yX8_addMethod wsX8_addMethod) := goodIn_app (goodIn_of _ (by decide +kernel)) ggL_addMethod_X8_addMethod
theorem dL_addMethod_0 : decode cL_addMethod 0 = .ok (.aload 8, 2) := by decide +kernel
theorem dL_addMethod_2 : decode cL_addMethod 2 = .ok (.iconst 0, 1) := by decide +kernel
theorem dL_addMethod_3 : decode cL_addMethod 3 = .ok (.aload_n 0, 1) := by decide +kernel
theorem dL_addMethod_4 : decode cL_addMethod 4 = .ok (.iload_n 1, 1) := by decide +kernel
theorem dL_addMethod_5 : decode cL_addMethod 5 = .ok (.iload_n 2, 1) := by decide +kernel
theorem dL_addMethod_6 : decode cL_addMethod 6 = .ok (.iload_n 3, 1) := by decide +kernel
theorem dL_addMethod_7 : decode cL_addMethod 7 = .ok (.iload 4, 2) := by decide +kernel
theorem dL_addMethod_9 : decode cL_addMethod 9 = .ok (.iload 5, 2) := by decide +kernel
theorem dL_addMethod_11 : decode cL_addMethod 11 = .ok (.iload 6, 2) := by decide +kernel
theorem dL_addMethod_13 : decode cL_addMethod 13 = .ok (.iload 7, 2) := by decide +kernel
theorem dL_addMethod_15 : decode cL_addMethod 15 = .ok (.invokevirtual 35, 3) := by decide +kernel
theorem dL_addMethod_18 : decode cL_addMethod 18 = .ok (.i2l, 1) := by decide +kernel
theorem dL_addMethod_19 : decode cL_addMethod 19 = .ok (.lastore, 1) := by decide +kernel
theorem dL_addMethod_20 : decode cL_addMethod 20 = .ok (.goto 15, 3) := by decide +kernel
theorem dL_addMethod_23 : decode cL_addMethod 23 = .ok (.astore 9, 2) := by decide +kernel
theorem dL_addMethod_25 : decode cL_addMethod 25 = .ok (.iconst 1, 1) := by decide +kernel
theorem dL_addMethod_26 : decode cL_addMethod 26 = .ok (.ireturn, 1) := by decide +kernel
theorem dL_addMethod_27 : decode cL_addMethod 27 = .ok (.astore 9, 2) := by decide +kernel
theorem dL_addMethod_29 : decode cL_addMethod 29 = .ok (.iconst 2, 1) := by decide +kernel
theorem dL_addMethod_30 : decode cL_addMethod 30 = .ok (.ireturn, 1) := by decide +kernel
theorem dL_addMethod_31 : decode cL_addMethod 31 = .ok (.astore 9, 2) := by decide +kernel
theorem dL_addMethod_33 : decode cL_addMethod 33 = .ok (.iconst 3, 1) := by decide +kernel
theorem dL_addMethod_34 : decode cL_addMethod 34 = .ok (.ireturn, 1) := by decide +kernel
theorem dL_addMethod_35 : decode cL_addMethod 35 = .ok (.iconst 0, 1) := by decide +kernel
theorem dL_addMethod_36 : decode cL_addMethod 36 = .ok (.ireturn, 1) := by decide +kernel
set_option maxRecDepth 20000 in
theorem ggL_addNew_X8_addNew : GoodIn wsL_addNew wsX8_addNew := goodIn_ca (goodIn_ca (goodIn_r _ [7, 8, 9, 10, 11, 12, 13, 14, 15, 16, 17, 18, 19, 20, 21, 22, 23, 24, 25, 26, 27, 28, 29, 30, 31, 32, 33, 34, 35, 36, 37, 38, 39, 40, 41, 42, 43, 44, 45, 46, 47, 48, 49, 50, 51, 52, 53, 54, 55, 56, 57, 58, 59, 60, 61, 62, 63, 64, 65, 66, 67, 68, 69, 70, 71, 72, 73, 74, 75, 76, 77, 78, 79, 80, 81, 82, 83, 84, 85, 86, 87, 88, 89, 90] (by decide +kernel) (by decide +kernel)) (goodIn_sub (fun _ h => List.mem_cons_of_mem _ (List.mem_append_left _ (List.mem_append_right _ h))) (by decide +kernel))) (goodIn_sub (fun _ h => List.mem_cons_of_mem _ (List.mem_append_right _ h)) (by decide +kernel))
set_option maxRecDepth 20000 in
theorem gL_addNew_X8_addNew : GoodIn wsL_addNew (wsV RL 39 RX8 yX8_addNew wsX8_addNew) := goodIn_app (goodIn_of _ (by decide +kernel)) ggL_addNew_X8_addNew
theorem dL_addNew_0 : decode cL_addNew 0 = .ok (.aload_n 3, 1) := by decide +kernel
theorem dL_addNew_1 : decode cL_addNew 1 = .ok (.iconst 0, 1) := by decide +kernel
theorem dL_addNew_2 : decode cL_addNew 2 = .ok (.aload_n 0, 1) := by decide +kernel
theorem dL_addNew_3 : decode cL_addNew 3 = .ok (.iload_n 1, 1) := by decide +kernel
theorem dL_addNew_4 : decode cL_addNew 4 = .ok (.iload_n 2, 1) := by decide +kernel
theorem dL_addNew_5 : decode cL_addNew 5 = .ok (.invokevirtual 39, 3) := by decide +kernel
theorem dL_addNew_8 : decode cL_addNew 8 = .ok (.i2l, 1) := by decide +kernel
theorem dL_addNew_9 : decode cL_addNew 9 = .ok (.lastore, 1) := by decide +kernel
theorem dL_addNew_10 : decode cL_addNew 10 = .ok (.goto 11, 3) := by decide +kernel
theorem dL_addNew_13 : decode cL_addNew 13 = .ok (.astore 4, 2) := by decide +kernel
theorem dL_addNew_15 : decode cL_addNew 15 = .ok (.iconst 1, 1) := by decide +kernel
theorem dL_addNew_16 : decode cL_addNew 16 = .ok (.ireturn, 1) := by decide +kernel
theorem dL_addNew_17 : decode cL_addNew 17 = .ok (.astore 4, 2) := by decide +kernel
theorem dL_addNew_19 : decode cL_addNew 19 = .ok (.iconst 2, 1) := by decide +kernel
theorem dL_addNew_20 : decode cL_addNew 20 = .ok (.ireturn, 1) := by decide +kernel
theorem dL_addNew_21 : decode cL_addNew 21 = .ok (.iconst 0, 1) := by decide +kernel
theorem dL_addNew_22 : decode cL_addNew 22 = .ok (.ireturn, 1) := by decide +kernel
set_option maxRecDepth 20000 in
theorem ggL_addPlain_X8_addPlain : GoodIn wsL_addPlain wsX8_addPlain := goodIn_ca (goodIn_ca (goodIn_r _ [7, 8, 9, 10, 11, 12, 13, 14, 15, 16, 17, 18, 19, 20, 21, 22, 23, 24, 25, 26, 27, 28, 29, 30, 31, 32, 33, 34, 35, 36, 37, 38, 39, 40, 41, 42, 43, 44, 45, 46, 47, 48, 49, 50, 51, 52, 53, 54, 55, 56, 57, 58, 59, 60, 61, 62, 63, 64, 65, 66, 67, 68, 69, 70, 71, 72, 73, 74, 75, 76, 77, 78, 79, 80, 81, 82, 83, 84, 85, 86, 87, 88] (by decide +kernel) (by decide +kernel)) (goodIn_sub (fun _ h => List.mem_cons_of_mem _ (List.mem_append_left _ (List.mem_append_right _ h))) (by decide +kernel))) (goodIn_sub (fun _ h => List.mem_cons_of_mem _ (List.mem_append_right _ h)) (by decide +kernel))
set_option maxRecDepth 20000 in
theorem gL_addPlain_X8_addPlain : GoodIn wsL_addPlain (wsV RL 42 RX8 yX8_addPlain wsX8_addPlain) := goodIn_app (goodIn_of _ (by decide +kernel)) ggL_addPlain_X8_addPlain
theorem dL_addPlain_0 : decode cL_addPlain 0 = .ok (.aload_n 3, 1) := by decide +kernel
theorem dL_addPlain_1 : decode cL_addPlain 1 = .ok (.iconst 0, 1) := by decide +kernel
theorem dL_addPlain_2 : decode cL_addPlain 2 = .ok (.aload_n 0, 1) := by decide +kernel
theorem dL_addPlain_3 : decode cL_addPlain 3 = .ok (.iload_n 1, 1) := by decide +kernel
theorem dL_addPlain_4 : decode cL_addPlain 4 = .ok (.iload_n 2, 1) := by decide +kernel
theorem dL_addPlain_5 : decode cL_addPlain 5 = .ok (.invokevirtual 42, 3) := by decide +kernel
theorem dL_addPlain_8 : decode cL_addPlain 8 = .ok (.i2l, 1) := by decide +kernel
theorem dL_addPlain_9 : decode cL_addPlain 9 = .ok (.lastore, 1) := by decide +kernel
theorem dL_addPlain_10 : decode cL_addPlain 10 = .ok (.goto 11, 3) := by decide +kernel
theorem dL_addPlain_13 : decode cL_addPlain 13 = .ok (.astore 4, 2) := by decide +kernel
theorem dL_addPlain_15 : decode cL_addPlain 15 = .ok (.iconst 1, 1) := by decide +kernel
theorem dL_addPlain_16 : decode cL_addPlain 16 = .ok (.ireturn, 1) := by decide +kernel
theorem dL_addPlain_17 : decode cL_addPlain 17 = .ok (.astore 4, 2) := by decide +kernel
theorem dL_addPlain_19 : decode cL_addPlain 19 = .ok (.iconst 2, 1) := by decide +kernel
theorem dL_addPlain_20 : decode cL_addPlain 20 = .ok (.ireturn, 1) := by decide +kernel
theorem dL_addPlain_21 : decode cL_addPlain 21 = .ok (.iconst 0, 1) := by decide +kernel
theorem dL_addPlain_22 : decode cL_addPlain 22 = .ok (.ireturn, 1) := by decide +kernel
set_option maxRecDepth 20000 in
theorem ggL_addArgument_X8_addArgument : GoodIn wsL_addArgument wsX8_addArgument := goodIn_ca (goodIn_ca (goodIn_r _ [7, 8, 9, 10, 11, 12, 13, 14, 15, 16, 17, 18, 19, 20, 21, 22, 23, 24, 25, 26, 27, 28, 29, 30, 31, 32, 33, 34, 35, 36, 37, 38, 39, 40, 41, 42, 43, 44, 45, 46, 47, 48, 49, 50, 51, 52, 53, 54, 55, 56, 57, 58, 59, 60, 61, 62, 63, 64, 65, 66, 67, 68, 69, 70, 71, 72, 73, 74, 75, 76, 77, 78, 79, 80, 81, 82, 83, 84, 85, 86, 87, 88, 89, 90, 91, 92, 93, 94] (by decide +kernel) (by decide +kernel)) (goodIn_sub (fun _ h => List.mem_cons_of_mem _ (List.mem_append_left _ (List.mem_append_right _ h))) (by decide +kernel))) (goodIn_sub (fun _ h => List.mem_cons_of_mem _ (List.mem_append_right _ h)) (by decide +kernel))
set_option maxRecDepth 20000 in
theorem gL_addArgument_X8_addArgument : GoodIn wsL_addArgument (wsV RL 46 RX8 yX8_addArgument wsX8_addArgument) := goodIn_app (goodIn_of _ (by decide +kernel)) ggL_addArgument_X8_addArgument
theorem dL_addArgument_0 : decode cL_addArgument 0 = .ok (.aload_n 3, 1) := by decide +kernel
theorem dL_addArgument_1 : decode cL_addArgument 1 = .ok (.iconst 0, 1) := by decide +kernel
theorem dL_addArgument_2 : decode cL_addArgument 2 = .ok (.aload_n 0, 1) := by decide +kernel
theorem dL_addArgument_3 : decode cL_addArgument 3 = .ok (.iload_n 1, 1) := by decide +kernel
theorem dL_addArgument_4 : decode cL_addArgument 4 = .ok (.iload_n 2, 1) := by decide +kernel
theorem dL_addArgument_5 : decode cL_addArgument 5 = .ok (.invokevirtual 46, 3) := by decide +kernel
theorem dL_addArgument_8 : decode cL_addArgument 8 = .ok (.i2l, 1) := by decide +kernel
theorem dL_addArgument_9 : decode cL_addArgument 9 = .ok (.lastore, 1) := by decide +kernel
theorem dL_addArgument_10 : decode cL_addArgument 10 = .ok (.goto 11, 3) := by decide +kernel
theorem dL_addArgument_13 : decode cL_addArgument 13 = .ok (.astore 4, 2) := by decide +kernel
theorem dL_addArgument_15 : decode cL_addArgument 15 = .ok (.iconst 1, 1) := by decide +kernel
theorem dL_addArgument_16 : decode cL_addArgument 16 = .ok (.ireturn, 1) := by decide +kernel
theorem dL_addArgument_17 : decode cL_addArgument 17 = .ok (.astore 4, 2) := by decide +kernel
theorem dL_addArgument_19 : decode cL_addArgument 19 = .ok (.iconst 2, 1) := by decide +kernel
theorem dL_addArgument_20 : decode cL_addArgument 20 = .ok (.ireturn, 1) := by decide +kernel
theorem dL_addArgument_21 : decode cL_addArgument 21 = .ok (.iconst 0, 1) := by decide +kernel
theorem dL_addArgument_22 : decode cL_addArgument 22 = .ok (.ireturn, 1) := by decide +kernel
set_option maxRecDepth 20000 in
theorem ggL_addFieldOf_X8_addFieldOf : GoodIn wsL_addFieldOf wsX8_addFieldOf := goodIn_ca (goodIn_ca (goodIn_ca (goodIn_r _ [8, 9, 10, 11, 12, 13, 14, 15, 16, 17, 18, 19, 20, 21, 22, 23, 24, 7, 25, 26, 27, 28, 29, 30, 31, 32, 33, 34, 35, 36, 37, 38, 39, 40, 41, 42, 43, 44, 45, 46, 47, 48, 49, 50, 51, 52, 53, 54, 55, 56, 57, 58, 59, 60, 61, 62, 63, 64, 65, 66, 67, 68, 69, 70, 71, 72, 73, 74, 75, 76, 77, 78] (by decide +kernel) (by decide +kernel)) (goodIn_sub (fun _ h => List.mem_cons_of_mem _ (List.mem_append_left _ (List.mem_append_left _ (List.mem_append_right _ h)))) (by decide +kernel))) (goodIn_sub (fun _ h => List.mem_cons_of_mem _ (List.mem_append_left _ (List.mem_append_right _ h))) (by decide +kernel))) (goodIn_sub (fun _ h => List.mem_cons_of_mem _ (List.mem_append_right _ h)) (by decide +kernel))
set_option maxRecDepth 20000 in
theorem gL_addFieldOf_X8_addFieldOf : GoodIn wsL_addFieldOf (wsV RL 49 RX8 yX8_addFieldOf wsX8_addFieldOf) := goodIn_app (goodIn_of _ (by decide +kernel)) ggL_addFieldOf_X8_addFieldOf
theorem dL_addFieldOf_0 : decode cL_addFieldOf 0 = .ok (.aload_n 3, 1) := by decide +kernel
theorem dL_addFieldOf_1 : decode cL_addFieldOf 1 = .ok (.iconst 0, 1) := by decide +kernel
theorem dL_addFieldOf_2 : decode cL_addFieldOf 2 = .ok (.aload_n 0, 1) := by decide +kernel
theorem dL_addFieldOf_3 : decode cL_addFieldOf 3 = .ok (.iload_n 1, 1) := by decide +kernel
theorem dL_addFieldOf_4 : decode cL_addFieldOf 4 = .ok (.iload_n 2, 1) := by decide +kernel
theorem dL_addFieldOf_5 : decode cL_addFieldOf 5 = .ok (.invokevirtual 49, 3) := by decide +kernel
theorem dL_addFieldOf_8 : decode cL_addFieldOf 8 = .ok (.i2l, 1) := by decide +kernel
theorem dL_addFieldOf_9 : decode cL_addFieldOf 9 = .ok (.lastore, 1) := by decide +kernel
theorem dL_addFieldOf_10 : decode cL_addFieldOf 10 = .ok (.goto 15, 3) := by decide +kernel
theorem dL_addFieldOf_13 : decode cL_addFieldOf 13 = .ok (.astore 4, 2) := by decide +kernel
theorem dL_addFieldOf_15 : decode cL_addFieldOf 15 = .ok (.iconst 1, 1) := by decide +kernel
theorem dL_addFieldOf_16 : decode cL_addFieldOf 16 = .ok (.ireturn, 1) := by decide +kernel
theorem dL_addFieldOf_17 : decode cL_addFieldOf 17 = .ok (.astore 4, 2) := by decide +kernel
theorem dL_addFieldOf_19 : decode cL_addFieldOf 19 = .ok (.iconst 2, 1) := by decide +kernel
theorem dL_addFieldOf_20 : decode cL_addFieldOf 20 = .ok (.ireturn, 1) := by decide +kernel
theorem dL_addFieldOf_21 : decode cL_addFieldOf 21 = .ok (.astore 4, 2) := by decide +kernel
theorem dL_addFieldOf_23 : decode cL_addFieldOf 23 = .ok (.iconst 3, 1) := by decide +kernel
theorem dL_addFieldOf_24 : decode cL_addFieldOf 24 = .ok (.ireturn, 1) := by decide +kernel
theorem dL_addFieldOf_25 : decode cL_addFieldOf 25 = .ok (.iconst 0, 1) := by decide +kernel
theorem dL_addFieldOf_26 : decode cL_addFieldOf 26 = .ok (.ireturn, 1) := by decide +kernel
set_option maxRecDepth 20000 in
theorem ggL_addCall_X8_addCall : GoodIn wsL_addCall wsX8_addCall := goodIn_ca (goodIn_ca (goodIn_ca (goodIn_r _ [8, 9, 10, 11, 12, 13, 14, 15, 16, 17, 18, 19, 20, 21, 22, 23, 24, 25, 26, 27, 28, 29, 7, 30, 31, 32, 33, 34, 35, 36, 37, 38, 39, 40, 41, 42, 43, 44, 45, 46, 47, 48, 49, 50, 51, 52, 53, 54, 55, 56, 57, 58, 59, 60, 61, 62, 63, 64, 65, 66, 67, 68, 69, 70, 71, 72, 73, 74, 75, 76, 77, 78, 79, 80, 81, 82, 83, 84, 85, 86, 87] (by decide +kernel) (by decide +kernel)) (goodIn_sub (fun _ h => List.mem_cons_of_mem _ (List.mem_append_left _ (List.mem_append_left _ (List.mem_append_right _ h)))) (by decide +kernel))) (goodIn_sub (fun _ h => List.mem_cons_of_mem _ (List.mem_append_left _ (List.mem_append_right _ h))) (by decide +kernel))) (goodIn_sub (fun _ h => List.mem_cons_of_mem _ (List.mem_append_right _ h)) (by decide +kernel))
set_option maxRecDepth 20000 in
theorem gL_addCall_X8_addCall : GoodIn wsL_addCall (wsV RL 52 RX8 yX8_addCall wsX8_addCall) := goodIn_app (goodIn_of _ (by decide +kernel)) ggL_addCall_X8_addCall
theorem dL_addCall_0 : decode cL_addCall 0 = .ok (.aload 5, 2) := by decide +kernel
theorem dL_addCall_2 : decode cL_addCall 2 = .ok (.iconst 0, 1) := by decide +kernel
theorem dL_addCall_3 : decode cL_addCall 3 = .ok (.aload_n 0, 1) := by decide +kernel
theorem dL_addCall_4 : decode cL_addCall 4 = .ok (.iload_n 1, 1) := by decide +kernel
theorem dL_addCall_5 : decode cL_addCall 5 = .ok (.iload_n 2, 1) := by decide +kernel
theorem dL_addCall_6 : decode cL_addCall 6 = .ok (.iload_n 3, 1) := by decide +kernel
theorem dL_addCall_7 : decode cL_addCall 7 = .ok (.iload 4, 2) := by decide +kernel
theorem dL_addCall_9 : decode cL_addCall 9 = .ok (.invokevirtual 52, 3) := by decide +kernel
theorem dL_addCall_12 : decode cL_addCall 12 = .ok (.i2l, 1) := by decide +kernel
theorem dL_addCall_13 : decode cL_addCall 13 = .ok (.lastore, 1) := by decide +kernel
theorem dL_addCall_14 : decode cL_addCall 14 = .ok (.goto 15, 3) := by decide +kernel
theorem dL_addCall_17 : decode cL_addCall 17 = .ok (.astore 6, 2) := by decide +kernel
theorem dL_addCall_19 : decode cL_addCall 19 = .ok (.iconst 1, 1) := by decide +kernel
theorem dL_addCall_20 : decode cL_addCall 20 = .ok (.ireturn, 1) := by decide +kernel
theorem dL_addCall_21 : decode cL_addCall 21 = .ok (.astore 6, 2) := by decide +kernel
theorem dL_addCall_23 : decode cL_addCall 23 = .ok (.iconst 2, 1) := by decide +kernel
theorem dL_addCall_24 : decode cL_addCall 24 = .ok (.ireturn, 1) := by decide +kernel
theorem dL_addCall_25 : decode cL_addCall 25 = .ok (.astore 6, 2) := by decide +kernel
theorem dL_addCall_27 : decode cL_addCall 27 = .ok (.iconst 3, 1) := by decide +kernel
theorem dL_addCall_28 : decode cL_addCall 28 = .ok (.ireturn, 1) := by decide +kernel
theorem dL_addCall_29 : decode cL_addCall 29 = .ok (.iconst 0, 1) := by decide +kernel
theorem dL_addCall_30 : decode cL_addCall 30 = .ok (.ireturn, 1) := by decide +kernel
set_option maxRecDepth 20000 in
theorem ggL_addResult_X8_addResult : GoodIn wsL_addResult wsX8_addResult := goodIn_ca (goodIn_ca (goodIn_ca (goodIn_r _ [8, 9, 10, 11, 12, 13, 14, 15, 16, 17, 18, 19, 20, 21, 22, 23, 24, 25, 7, 26, 27, 28, 29, 30, 31, 32, 33, 34, 35, 36, 37, 38, 39, 40, 41, 42, 43, 44, 45, 46, 47, 48, 49, 50, 51, 52, 53, 54, 55, 56, 57, 58, 59, 60, 61, 62, 63, 64, 65, 66, 67, 68, 69, 70, 71, 72, 73, 74, 75, 76, 77, 78, 79, 80, 81, 82, 83] (by decide +kernel) (by decide +kernel)) (goodIn_sub (fun _ h => List.mem_cons_of_mem _ (List.mem_append_left _ (List.mem_append_left _ (List.mem_append_right _ h)))) (by decide +kernel))) (goodIn_sub (fun _ h => List.mem_cons_of_mem _ (List.mem_append_left _ (List.mem_append_right _ h))) (by decide +kernel))) (goodIn_sub (fun _ h => List.mem_cons_of_mem _ (List.mem_append_right _ h)) (by decide +kernel))
set_option maxRecDepth 20000 in
theorem gL_addResult_X8_addResult : GoodIn wsL_addResult (wsV RL 55 RX8 yX8_addResult wsX8_addResult) := goodIn_app (goodIn_of _ (by decide +kernel)) ggL_addResult_X8_addResult
theorem dL_addResult_0 : decode cL_addResult 0 = .ok (.aload 4, 2) := by decide +kernel
theorem dL_addResult_2 : decode cL_addResult 2 = .ok (.iconst 0, 1) := by decide +kernel
theorem dL_addResult_3 : decode cL_addResult 3 = .ok (.aload_n 0, 1) := by decide +kernel
theorem dL_addResult_4 : decode cL_addResult 4 = .ok (.iload_n 1, 1) := by decide +kernel
theorem dL_addResult_5 : decode cL_addResult 5 = .ok (.iload_n 2, 1) := by decide +kernel
theorem dL_addResult_6 : decode cL_addResult 6 = .ok (.iload_n 3, 1) := by decide +kernel
theorem dL_addResult_7 : decode cL_addResult 7 = .ok (.invokevirtual 55, 3) := by decide +kernel
theorem dL_addResult_10 : decode cL_addResult 10 = .ok (.i2l, 1) := by decide +kernel
theorem dL_addResult_11 : decode cL_addResult 11 = .ok (.lastore, 1) := by decide +kernel
theorem dL_addResult_12 : decode cL_addResult 12 = .ok (.goto 15, 3) := by decide +kernel
theorem dL_addResult_15 : decode cL_addResult 15 = .ok (.astore 5, 2) := by decide +kernel
theorem dL_addResult_17 : decode cL_addResult 17 = .ok (.iconst 1, 1) := by decide +kernel
theorem dL_addResult_18 : decode cL_addResult 18 = .ok (.ireturn, 1) := by decide +kernel
theorem dL_addResult_19 : decode cL_addResult 19 = .ok (.astore 5, 2) := by decide +kernel
theorem dL_addResult_21 : decode cL_addResult 21 = .ok (.iconst 2, 1) := by decide +kernel
theorem dL_addResult_22 : decode cL_addResult 22 = .ok (.ireturn, 1) := by decide +kernel
theorem dL_addResult_23 : decode cL_addResult 23 = .ok (.astore 5, 2) := by decide +kernel
theorem dL_addResult_25 : decode cL_addResult 25 = .ok (.iconst 3, 1) := by decide +kernel
theorem dL_addResult_26 : decode cL_addResult 26 = .ok (.ireturn, 1) := by decide +kernel
theorem dL_addResult_27 : decode cL_addResult 27 = .ok (.iconst 0, 1) := by decide +kernel
theorem dL_addResult_28 : decode cL_addResult 28 = .ok (.ireturn, 1) := by decide +kernel
set_option maxRecDepth 20000 in
theorem ggL_setCondition_X8_setCondition : GoodIn wsL_setCondition wsX8_setCondition := goodIn_ca (goodIn_ca (goodIn_r _ [7, 8, 9, 10, 11, 12, 13, 14, 15, 16, 17, 18, 19, 20, 21, 22, 23, 24, 25, 26, 27, 28, 29, 30, 31, 32, 33, 34, 6, 35, 36, 37, 38, 39, 40, 41, 42, 43, 44, 45, 46, 47, 48, 49, 50, 51, 52, 53, 54, 55, 56, 57, 58, 59, 60, 61, 62, 63, 64, 65, 66, 67, 68, 69, 70, 71, 72, 73, 74, 75, 76, 77, 78, 79, 80, 81, 82, 83] (by decide +kernel) (by decide +kernel)) (goodIn_sub (fun _ h => List.mem_cons_of_mem _ (List.mem_append_left _ (List.mem_append_right _ h))) (by decide +kernel))) (goodIn_sub (fun _ h => List.mem_cons_of_mem _ (List.mem_append_right _ h)) (by decide +kernel))
set_option maxRecDepth 20000 in
theorem gL_setCondition_X8_setCondition : GoodIn wsL_setCondition (wsV RL 58 RX8 yX8_setCondition wsX8_setCondition) := goodIn_app (goodIn_of _ (by decide +kernel)) ggL_setCondition_X8_setCondition
theorem dL_setCondition_0 : decode cL_setCondition 0 = .ok (.aload 5, 2) := by decide +kernel
theorem dL_setCondition_2 : decode cL_setCondition 2 = .ok (.iconst 0, 1) := by decide +kernel
theorem dL_setCondition_3 : decode cL_setCondition 3 = .ok (.aload_n 0, 1) := by decide +kernel
theorem dL_setCondition_4 : decode cL_setCondition 4 = .ok (.iload_n 1, 1) := by decide +kernel
theorem dL_setCondition_5 : decode cL_setCondition 5 = .ok (.iload_n 2, 1) := by decide +kernel
theorem dL_setCondition_6 : decode cL_setCondition 6 = .ok (.iload_n 3, 1) := by decide +kernel
theorem dL_setCondition_7 : decode cL_setCondition 7 = .ok (.iload 4, 2) := by decide +kernel
theorem dL_setCondition_9 : decode cL_setCondition 9 = .ok (.invokevirtual 58, 3) := by decide +kernel
theorem dL_setCondition_12 : decode cL_setCondition 12 = .ok (.ifCond .eq 7, 3) := by decide +kernel
theorem dL_setCondition_15 : decode cL_setCondition 15 = .ok (.lconst 1, 1) := by decide +kernel
theorem dL_setCondition_16 : decode cL_setCondition 16 = .ok (.goto 4, 3) := by decide +kernel
theorem dL_setCondition_19 : decode cL_setCondition 19 = .ok (.lconst 0, 1) := by decide +kernel
theorem dL_setCondition_20 : decode cL_setCondition 20 = .ok (.lastore, 1) := by decide +kernel
theorem dL_setCondition_21 : decode cL_setCondition 21 = .ok (.goto 11, 3) := by decide +kernel
theorem dL_setCondition_24 : decode cL_setCondition 24 = .ok (.astore 6, 2) := by decide +kernel
theorem dL_setCondition_26 : decode cL_setCondition 26 = .ok (.iconst 1, 1) := by decide +kernel
theorem dL_setCondition_27 : decode cL_setCondition 27 = .ok (.ireturn, 1) := by decide +kernel
theorem dL_setCondition_28 : decode cL_setCondition 28 = .ok (.astore 6, 2) := by decide +kernel
theorem dL_setCondition_30 : decode cL_setCondition 30 = .ok (.iconst 2, 1) := by decide +kernel
theorem dL_setCondition_31 : decode cL_setCondition 31 = .ok (.ireturn, 1) := by decide +kernel
theorem dL_setCondition_32 : decode cL_setCondition 32 = .ok (.iconst 0, 1) := by decide +kernel
theorem dL_setCondition_33 : decode cL_setCondition 33 = .ok (.ireturn, 1) := by decide +kernel
set_option maxRecDepth 20000 in
theorem ggL_dropResult_X8_dropResult : GoodIn wsL_dropResult wsX8_dropResult := goodIn_ca (goodIn_r _ [6, 7, 8, 9, 10, 11, 12, 13, 14, 15, 16, 17, 18, 19, 20, 21, 22, 23, 24, 25, 26, 27, 28, 29, 30, 31, 32, 33, 34, 35, 36] (by decide +kernel) (by decide +kernel)) (goodIn_sub (fun _ h => List.mem_cons_of_mem _ (List.mem_append_right _ h)) (by decide +kernel))
set_option maxRecDepth 20000 in
theorem gL_dropResult_X8_dropResult : GoodIn wsL_dropResult (wsV RL 62 RX8 yX8_dropResult wsX8_dropResult) := goodIn_app (goodIn_of _ (by decide +kernel)) ggL_dropResult_X8_dropResult
theorem dL_dropResult_0 : decode cL_dropResult 0 = .ok (.aload_n 1, 1) := by decide +kernel
theorem dL_dropResult_1 : decode cL_dropResult 1 = .ok (.iconst 0, 1) := by decide +kernel
theorem dL_dropResult_2 : decode cL_dropResult 2 = .ok (.aload_n 0, 1) := by decide +kernel
theorem dL_dropResult_3 : decode cL_dropResult 3 = .ok (.invokevirtual 62, 3) := by decide +kernel
theorem dL_dropResult_6 : decode cL_dropResult 6 = .ok (.i2l, 1) := by decide +kernel
theorem dL_dropResult_7 : decode cL_dropResult 7 = .ok (.lastore, 1) := by decide +kernel
theorem dL_dropResult_8 : decode cL_dropResult 8 = .ok (.goto 6, 3) := by decide +kernel
theorem dL_dropResult_11 : decode cL_dropResult 11 = .ok (.astore_n 2, 1) := by decide +kernel
theorem dL_dropResult_12 : decode cL_dropResult 12 = .ok (.iconst 1, 1) := by decide +kernel
theorem dL_dropResult_13 : decode cL_dropResult 13 = .ok (.ireturn, 1) := by decide +kernel
theorem dL_dropResult_14 : decode cL_dropResult 14 = .ok (.iconst 0, 1) := by decide +kernel
theorem dL_dropResult_15 : decode cL_dropResult 15 = .ok (.ireturn, 1) := by decide +kernel
set_option maxRecDepth 20000 in
theorem ggL_count_X8_count : GoodIn wsL_count wsX8_count := goodIn_ca (goodIn_r _ [6, 7, 8, 9, 10, 11, 12, 13, 14, 15, 16, 17, 18, 19, 20, 21, 22, 23, 24, 25, 26, 27, 28, 29, 30, 31, 32, 33, 34, 35, 36, 37, 38, 39, 40, 41, 42, 43, 44, 45, 46, 47, 48, 49, 50, 51, 52, 53, 54, 55, 56, 57, 58, 59, 60, 61, 62, 63, 64, 65, 66] (by decide +kernel) (by decide +kernel)) (goodIn_sub (fun _ h => List.mem_cons_of_mem _ (List.mem_append_right _ h)) (by decide +kernel))
set_option maxRecDepth 20000 in
theorem gL_count_X8_count : GoodIn wsL_count (wsV RL 65 RX8 yX8_count wsX8_count) := goodIn_app (goodIn_of _ (by decide +kernel)) ggL_count_X8_count
theorem dL_count_0 : decode cL_count 0 = .ok (.aload_n 2, 1) := by decide +kernel
theorem dL_count_1 : decode cL_count 1 = .ok (.iconst 0, 1) := by decide +kernel
theorem dL_count_2 : decode cL_count 2 = .ok (.aload_n 0, 1) := by decide +kernel
theorem dL_count_3 : decode cL_count 3 = .ok (.iload_n 1, 1) := by decide +kernel
theorem dL_count_4 : decode cL_count 4 = .ok (.invokevirtual 65, 3) := by decide +kernel
theorem dL_count_7 : decode cL_count 7 = .ok (.i2l, 1) := by decide +kernel
theorem dL_count_8 : decode cL_count 8 = .ok (.lastore, 1) := by decide +kernel
theorem dL_count_9 : decode cL_count 9 = .ok (.goto 6, 3) := by decide +kernel
theorem dL_count_12 : decode cL_count 12 = .ok (.astore_n 3, 1) := by decide +kernel
theorem dL_count_13 : decode cL_count 13 = .ok (.iconst 1, 1) := by decide +kernel
theorem dL_count_14 : decode cL_count 14 = .ok (.ireturn, 1) := by decide +kernel
theorem dL_count_15 : decode cL_count 15 = .ok (.iconst 0, 1) := by decide +kernel
theorem dL_count_16 : decode cL_count 16 = .ok (.ireturn, 1) := by decide +kernel
set_option maxRecDepth 20000 in
theorem ggL_presence_X8_presence : GoodIn wsL_presence wsX8_presence := goodIn_ca (goodIn_r _ [6, 7, 8, 9, 10, 11, 12, 13, 14, 15, 16, 17, 18, 19, 20, 21, 22, 23, 24, 25, 26, 27, 28, 29, 30, 31, 32, 33, 34, 35, 36, 37, 38, 39, 40, 41, 42, 43, 44, 45, 46, 47, 48, 49, 50, 51, 52, 53, 54, 55, 56, 57, 58, 59, 60, 61, 62, 63, 64, 65, 66, 67, 68, 69, 70, 5, 71, 72, 73, 74, 75, 76, 77, 78, 79, 80, 81, 82, 83, 84, 85, 86, 87, 88, 89, 90, 91, 92, 93, 94, 95, 96, 97, 98, 99, 100, 101, 102, 103, 104, 105, 106, 107, 108, 109, 110, 111, 112, 113, 114, 115, 116, 117, 118, 119, 120, 121, 122, 123] (by decide +kernel) (by decide +kernel)) (goodIn_sub (fun _ h => List.mem_cons_of_mem _ (List.mem_append_right _ h)) (by decide +kernel))
set_option maxRecDepth 20000 in
theorem gL_presence_X8_presence : GoodIn wsL_presence (wsV RL 69 RX8 yX8_presence wsX8_presence) := goodIn_app (goodIn_of _ (by decide +kernel)) ggL_presence_X8_presence
theorem dL_presence_0 : decode cL_presence 0 = .ok (.aload_n 3, 1) := by decide +kernel
theorem dL_presence_1 : decode cL_presence 1 = .ok (.iconst 0, 1) := by decide +kernel
theorem dL_presence_2 : decode cL_presence 2 = .ok (.aload_n 0, 1) := by decide +kernel
theorem dL_presence_3 : decode cL_presence 3 = .ok (.iload_n 1, 1) := by decide +kernel
theorem dL_presence_4 : decode cL_presence 4 = .ok (.iload_n 2, 1) := by decide +kernel
theorem dL_presence_5 : decode cL_presence 5 = .ok (.invokevirtual 69, 3) := by decide +kernel
theorem dL_presence_8 : decode cL_presence 8 = .ok (.i2l, 1) := by decide +kernel
theorem dL_presence_9 : decode cL_presence 9 = .ok (.lastore, 1) := by decide +kernel
theorem dL_presence_10 : decode cL_presence 10 = .ok (.goto 7, 3) := by decide +kernel
theorem dL_presence_13 : decode cL_presence 13 = .ok (.astore 4, 2) := by decide +kernel
theorem dL_presence_15 : decode cL_presence 15 = .ok (.iconst 1, 1) := by decide +kernel
theorem dL_presence_16 : decode cL_presence 16 = .ok (.ireturn, 1) := by decide +kernel
theorem dL_presence_17 : decode cL_presence 17 = .ok (.iconst 0, 1) := by decide +kernel
theorem dL_presence_18 : decode cL_presence 18 = .ok (.ireturn, 1) := by decide +kernel
set_option maxRecDepth 20000 in
theorem ggL_parent_X8_parent : GoodIn wsL_parent wsX8_parent := goodIn_ca (goodIn_ca (goodIn_r _ [7, 8, 9, 10, 11, 12, 13, 14, 15, 16, 17, 18, 19, 20, 21, 22, 23, 6, 24, 25, 26, 27, 28, 29, 30, 31, 32, 33, 34, 35, 36, 37, 38, 39, 40, 41, 42, 43, 44, 45, 46, 47, 48, 49, 50, 51, 52, 53, 54, 55, 56, 57, 58, 59, 60, 61, 62, 63, 64, 65, 66, 67, 68, 69, 70, 71, 72, 73, 74, 75, 76, 77, 78, 79, 80, 81, 82, 83, 84, 85, 86, 87, 88, 89, 90, 91, 92, 93, 94, 95, 96, 97, 98, 99, 100, 101, 102, 103, 104, 105, 106, 107, 108, 109, 110, 111, 112, 113, 114, 115, 116, 117, 118, 119, 120, 121, 122, 123, 124, 125, 126, 127, 128, 129, 130, 131, 132, 133, 134, 135, 136, 137, 138, 139, 140, 141, 142, 143, 144, 145, 146, 147, 148, 149, 150, 151, 152, 153, 154, 155, 156, 157, 158, 159, 160, 161, 162, 163, 164, 165, 166, 167, 168, 169, 170, 171, 172, 173, 174, 175, 176, 177, 178, 179, 180, 181, 182, 183, 184, 185, 186, 187, 188, 189, 190, 191, 192, 193, 194, 195, 196, 197, 198, 199, 200, 201, 202, 203, 204, 205, 206, 207, 208, 209, 210, 211, 212, 213, 214, 215] (by decide +kernel) (by decide +kernel)) (goodIn_sub (fun _ h => List.mem_cons_of_mem _ (List.mem_append_left _ (List.mem_append_right _ h))) (by decide +kernel))) (goodIn_sub (fun _ h => List.mem_cons_of_mem _ (List.mem_append_right _ h)) (by decide +kernel))
set_option maxRecDepth 20000 in
theorem gL_parent_X8_parent : GoodIn wsL_parent (wsV RL 72 RX8 yX8_parent wsX8_parent) := goodIn_app (goodIn_of _ (by decide +kernel)) ggL_parent_X8_parent
theorem dL_parent_0 : decode cL_parent 0 = .ok (.aload_n 3, 1) := by decide +kernel
theorem dL_parent_1 : decode cL_parent 1 = .ok (.iconst 0, 1) := by decide +kernel
theorem dL_parent_2 : decode cL_parent 2 = .ok (.aload_n 0, 1) := by decide +kernel
theorem dL_parent_3 : decode cL_parent 3 = .ok (.iload_n 1, 1) := by decide +kernel
theorem dL_parent_4 : decode cL_parent 4 = .ok (.iload_n 2, 1) := by decide +kernel
theorem dL_parent_5 : decode cL_parent 5 = .ok (.invokevirtual 72, 3) := by decide +kernel
theorem dL_parent_8 : decode cL_parent 8 = .ok (.i2l, 1) := by decide +kernel
theorem dL_parent_9 : decode cL_parent 9 = .ok (.lastore, 1) := by decide +kernel
theorem dL_parent_10 : decode cL_parent 10 = .ok (.goto 11, 3) := by decide +kernel
theorem dL_parent_13 : decode cL_parent 13 = .ok (.astore 4, 2) := by decide +kernel
theorem dL_parent_15 : decode cL_parent 15 = .ok (.iconst 1, 1) := by decide +kernel
theorem dL_parent_16 : decode cL_parent 16 = .ok (.ireturn, 1) := by decide +kernel
theorem dL_parent_17 : decode cL_parent 17 = .ok (.astore 4, 2) := by decide +kernel
theorem dL_parent_19 : decode cL_parent 19 = .ok (.iconst 2, 1) := by decide +kernel
theorem dL_parent_20 : decode cL_parent 20 = .ok (.ireturn, 1) := by decide +kernel
theorem dL_parent_21 : decode cL_parent 21 = .ok (.iconst 0, 1) := by decide +kernel
theorem dL_parent_22 : decode cL_parent 22 = .ok (.ireturn, 1) := by decide +kernel
set_option maxRecDepth 20000 in
theorem ggL_isBelow_X8_isBelow : GoodIn wsL_isBelow wsX8_isBelow := goodIn_ca (goodIn_ca (goodIn_r _ [7, 8, 9, 10, 11, 12, 13, 14, 15, 16, 17, 18, 19, 20, 21, 22, 23, 6, 24, 25, 26, 27, 28, 29, 30, 31, 32, 33, 34, 35, 36, 37, 38, 39, 40, 41, 42, 43, 44, 45, 46, 47, 48, 49, 50, 51, 52, 53, 54, 55, 56, 57, 58, 59, 60, 61, 62, 63, 64, 65, 66, 67, 68, 69, 70, 71, 72, 73, 74, 75, 76, 77, 78, 79, 80, 81, 82, 83, 84, 85, 86, 87, 88, 89, 90, 91, 92, 93, 94, 95, 96, 97, 98, 99, 100, 101, 102, 103, 104, 105, 106, 107, 108, 109, 110, 111, 112, 113, 114, 115, 116, 117, 118, 119, 120, 121, 122, 123, 124, 125, 126, 127, 128, 129, 130, 131, 132, 133, 134, 135, 136, 137, 138, 139, 140, 141, 142, 143, 144, 145, 146, 147, 148, 149, 150, 151, 152, 153, 154, 155, 156, 157, 158, 159, 160, 161, 162, 163, 164, 165, 166, 167, 168, 169, 170, 171, 172, 173, 174, 175, 176, 177, 178, 179, 180, 181, 182, 183, 184, 185, 186, 187, 188, 189, 190, 191, 192, 193, 194, 195, 196, 197, 198, 199, 200, 201, 202, 203, 204, 205, 206, 207, 208, 209, 210, 211, 212, 213, 214, 215] (by decide +kernel) (by decide +kernel)) (goodIn_sub (fun _ h => List.mem_cons_of_mem _ (List.mem_append_left _ (List.mem_append_right _ h))) (by decide +kernel))) (goodIn_sub (fun _ h => List.mem_cons_of_mem _ (List.mem_append_right _ h)) (by decide +kernel))
set_option maxRecDepth 20000 in
theorem gL_isBelow_X8_isBelow : GoodIn wsL_isBelow (wsV RL 75 RX8 yX8_isBelow wsX8_isBelow) := goodIn_app (goodIn_of _ (by decide +kernel)) ggL_isBelow_X8_isBelow
theorem dL_isBelow_0 : decode cL_isBelow 0 = .ok (.aload 4, 2) := by decide +kernel
theorem dL_isBelow_2 : decode cL_isBelow 2 = .ok (.iconst 0, 1) := by decide +kernel
theorem dL_isBelow_3 : decode cL_isBelow 3 = .ok (.aload_n 0, 1) := by decide +kernel
theorem dL_isBelow_4 : decode cL_isBelow 4 = .ok (.iload_n 1, 1) := by decide +kernel
theorem dL_isBelow_5 : decode cL_isBelow 5 = .ok (.iload_n 2, 1) := by decide +kernel
theorem dL_isBelow_6 : decode cL_isBelow 6 = .ok (.iload_n 3, 1) := by decide +kernel
theorem dL_isBelow_7 : decode cL_isBelow 7 = .ok (.invokevirtual 75, 3) := by decide +kernel
theorem dL_isBelow_10 : decode cL_isBelow 10 = .ok (.ifCond .eq 7, 3) := by decide +kernel
theorem dL_isBelow_13 : decode cL_isBelow 13 = .ok (.lconst 1, 1) := by decide +kernel
theorem dL_isBelow_14 : decode cL_isBelow 14 = .ok (.goto 4, 3) := by decide +kernel
theorem dL_isBelow_17 : decode cL_isBelow 17 = .ok (.lconst 0, 1) := by decide +kernel
theorem dL_isBelow_18 : decode cL_isBelow 18 = .ok (.lastore, 1) := by decide +kernel
theorem dL_isBelow_19 : decode cL_isBelow 19 = .ok (.goto 11, 3) := by decide +kernel
theorem dL_isBelow_22 : decode cL_isBelow 22 = .ok (.astore 5, 2) := by decide +kernel
theorem dL_isBelow_24 : decode cL_isBelow 24 = .ok (.iconst 1, 1) := by decide +kernel
theorem dL_isBelow_25 : decode cL_isBelow 25 = .ok (.ireturn, 1) := by decide +kernel
theorem dL_isBelow_26 : decode cL_isBelow 26 = .ok (.astore 5, 2) := by decide +kernel
theorem dL_isBelow_28 : decode cL_isBelow 28 = .ok (.iconst 2, 1) := by decide +kernel
theorem dL_isBelow_29 : decode cL_isBelow 29 = .ok (.ireturn, 1) := by decide +kernel
theorem dL_isBelow_30 : decode cL_isBelow 30 = .ok (.iconst 0, 1) := by decide +kernel
theorem dL_isBelow_31 : decode cL_isBelow 31 = .ok (.ireturn, 1) := by decide +kernel
set_option maxRecDepth 20000 in
theorem ggL_find_X8_find : GoodIn wsL_find wsX8_find := goodIn_ca (goodIn_ca (goodIn_r _ [7, 8, 9, 10, 11, 12, 13, 14, 15, 16, 17, 18, 19, 20, 21, 22, 6, 23, 24, 25, 26, 27, 28, 29, 30, 31, 32, 33, 34, 35, 36, 37, 38, 39, 40, 41, 42, 43, 44, 45, 46, 47, 48, 49, 50, 51, 52, 53, 54, 55, 56, 57, 58, 59, 60, 61, 62, 63, 64, 65, 66, 67, 68, 69, 70, 71, 72, 73, 74, 75, 76, 77, 78, 79, 80, 81, 82, 83, 84, 85, 86, 87, 88, 89, 90, 91, 92, 93, 94, 95, 96, 97, 98, 99, 100, 101, 102, 103, 104, 105, 106, 107, 108, 109, 110, 111, 112, 113, 114, 115, 116, 117, 118, 119, 120, 121, 122, 123, 124, 125, 126, 127, 128, 129, 130, 131, 132, 133, 134, 135, 136, 137, 138, 139, 140, 141, 142, 143, 144, 145, 146, 147, 148, 149, 150, 151, 152, 153, 154, 155, 156, 157, 158, 159, 160, 161, 162, 163, 164, 165, 166, 167, 168, 169, 170, 171, 172, 173, 174, 175, 176, 177, 178, 179, 180, 181, 182, 183, 184, 185, 186, 187, 188, 189, 190, 191, 192, 193, 194, 195, 196, 197, 198, 199, 200, 201, 202, 203, 204, 205, 206, 207, 208, 209, 210, 211, 212, 213, 214, 215, 216, 217, 218] (by decide +kernel) (by decide +kernel)) (goodIn_sub (fun _ h => List.mem_cons_of_mem _ (List.mem_append_left _ (List.mem_append_right _ h))) (by decide +kernel))) (goodIn_sub (fun _ h => List.mem_cons_of_mem _ (List.mem_append_right _ h)) (by decide +kernel))
set_option maxRecDepth 20000 in
theorem gL_find_X8_find : GoodIn wsL_find (wsV RL 79 RX8 yX8_find wsX8_find) := goodIn_app (goodIn_of _ (by decide +kernel)) ggL_find_X8_find
theorem dL_find_0 : decode cL_find 0 = .ok (.aload 5, 2) := by decide +kernel
theorem dL_find_2 : decode cL_find 2 = .ok (.iconst 0, 1) := by decide +kernel
theorem dL_find_3 : decode cL_find 3 = .ok (.aload_n 0, 1) := by decide +kernel
theorem dL_find_4 : decode cL_find 4 = .ok (.iload_n 1, 1) := by decide +kernel
theorem dL_find_5 : decode cL_find 5 = .ok (.iload_n 2, 1) := by decide +kernel
theorem dL_find_6 : decode cL_find 6 = .ok (.iload_n 3, 1) := by decide +kernel
theorem dL_find_7 : decode cL_find 7 = .ok (.iload 4, 2) := by decide +kernel
theorem dL_find_9 : decode cL_find 9 = .ok (.invokevirtual 79, 3) := by decide +kernel
theorem dL_find_12 : decode cL_find 12 = .ok (.i2l, 1) := by decide +kernel
theorem dL_find_13 : decode cL_find 13 = .ok (.lastore, 1) := by decide +kernel
theorem dL_find_14 : decode cL_find 14 = .ok (.goto 11, 3) := by decide +kernel
theorem dL_find_17 : decode cL_find 17 = .ok (.astore 6, 2) := by decide +kernel
theorem dL_find_19 : decode cL_find 19 = .ok (.iconst 1, 1) := by decide +kernel
theorem dL_find_20 : decode cL_find 20 = .ok (.ireturn, 1) := by decide +kernel
theorem dL_find_21 : decode cL_find 21 = .ok (.astore 6, 2) := by decide +kernel
theorem dL_find_23 : decode cL_find 23 = .ok (.iconst 2, 1) := by decide +kernel
theorem dL_find_24 : decode cL_find 24 = .ok (.ireturn, 1) := by decide +kernel
theorem dL_find_25 : decode cL_find 25 = .ok (.iconst 0, 1) := by decide +kernel
theorem dL_find_26 : decode cL_find 26 = .ok (.ireturn, 1) := by decide +kernel
set_option maxRecDepth 20000 in
theorem ggL_typeOf_X8_typeOf : GoodIn wsL_typeOf wsX8_typeOf := goodIn_ca (goodIn_ca (goodIn_r _ [7, 8, 9, 10, 11, 12, 13, 14, 15, 16, 17, 18, 19, 20, 21, 22, 23, 6, 24, 25, 26, 27, 28, 29, 30, 31, 32, 33, 34, 35, 36, 37, 38, 39, 40, 41, 42, 43, 44, 45, 46, 47, 48, 49, 50, 51, 52, 53, 54, 55, 56, 57, 58, 59, 60, 61, 62, 63, 64, 65, 66, 67, 68, 69, 70, 71, 72, 73, 74, 75, 76, 77, 78, 79, 80, 81, 82, 83, 84, 85, 86, 87, 88, 89, 90, 91, 92, 93, 94, 95, 96, 97, 98, 99, 100, 101, 102, 103, 104, 105, 106, 107, 108, 109, 110, 111, 112, 113, 114, 115, 116, 117, 118, 119, 120, 121, 122, 123, 124, 125, 126, 127, 128, 129, 130, 131, 132, 133, 134, 135, 136, 137, 138, 139, 140, 141, 142, 143, 144, 145, 146, 147, 148, 149, 150, 151, 152, 153, 154, 155, 156, 157, 158, 159, 160, 161, 162, 163, 164, 165, 166, 167, 168, 169, 170, 171, 172, 173, 174, 175, 176, 177, 178, 179, 180, 181, 182, 183, 184, 185, 186, 187, 188, 189, 190, 191, 192, 193, 194, 195, 196, 197, 198, 199, 200, 201, 202, 203, 204, 205, 206, 207, 208, 209, 210, 211, 212, 213, 214, 215, 216, 217, 218, 219, 220, 221, 222, 223, 224, 225, 226, 227, 228, 229, 230, 231, 232, 233, 234, 235, 236, 237, 238, 239, 240, 241, 242, 243, 244, 245, 246, 247, 248, 249, 250, 251, 252, 253, 254, 255, 256, 257, 258, 259, 260, 261, 262, 263, 264, 265, 266, 267, 268, 269, 270, 271, 272, 273, 274, 275, 276, 277, 278, 279, 280, 281, 282, 283, 284, 285, 286, 287, 288, 289, 290, 291, 292, 293, 294, 295, 296, 297, 298, 299, 300, 301, 302, 303] (by decide +kernel) (by decide +kernel)) (goodIn_sub (fun _ h => List.mem_cons_of_mem _ (List.mem_append_left _ (List.mem_append_right _ h))) (by decide +kernel))) (goodIn_sub (fun _ h => List.mem_cons_of_mem _ (List.mem_append_right _ h)) (by decide +kernel))
set_option maxRecDepth 20000 in
theorem gL_typeOf_X8_typeOf : GoodIn wsL_typeOf (wsV RL 83 RX8 yX8_typeOf wsX8_typeOf) := goodIn_app (goodIn_of _ (by decide +kernel)) ggL_typeOf_X8_typeOf
theorem dL_typeOf_0 : decode cL_typeOf 0 = .ok (.aload_n 3, 1) := by decide +kernel
theorem dL_typeOf_1 : decode cL_typeOf 1 = .ok (.iconst 0, 1) := by decide +kernel
theorem dL_typeOf_2 : decode cL_typeOf 2 = .ok (.aload_n 0, 1) := by decide +kernel
theorem dL_typeOf_3 : decode cL_typeOf 3 = .ok (.iload_n 1, 1) := by decide +kernel
theorem dL_typeOf_4 : decode cL_typeOf 4 = .ok (.iload_n 2, 1) := by decide +kernel
theorem dL_typeOf_5 : decode cL_typeOf 5 = .ok (.invokevirtual 83, 3) := by decide +kernel
theorem dL_typeOf_8 : decode cL_typeOf 8 = .ok (.i2l, 1) := by decide +kernel
theorem dL_typeOf_9 : decode cL_typeOf 9 = .ok (.lastore, 1) := by decide +kernel
theorem dL_typeOf_10 : decode cL_typeOf 10 = .ok (.goto 11, 3) := by decide +kernel
theorem dL_typeOf_13 : decode cL_typeOf 13 = .ok (.astore 4, 2) := by decide +kernel
theorem dL_typeOf_15 : decode cL_typeOf 15 = .ok (.iconst 1, 1) := by decide +kernel
theorem dL_typeOf_16 : decode cL_typeOf 16 = .ok (.ireturn, 1) := by decide +kernel
theorem dL_typeOf_17 : decode cL_typeOf 17 = .ok (.astore 4, 2) := by decide +kernel
theorem dL_typeOf_19 : decode cL_typeOf 19 = .ok (.iconst 2, 1) := by decide +kernel
theorem dL_typeOf_20 : decode cL_typeOf 20 = .ok (.ireturn, 1) := by decide +kernel
theorem dL_typeOf_21 : decode cL_typeOf 21 = .ok (.iconst 0, 1) := by decide +kernel
theorem dL_typeOf_22 : decode cL_typeOf 22 = .ok (.ireturn, 1) := by decide +kernel
set_option maxRecDepth 20000 in
theorem ggL_error_X8_error : GoodIn wsL_error wsX8_error := goodIn_ca (goodIn_r _ [6, 7, 8, 9, 10, 11, 12, 5, 13, 14, 15, 16, 17, 18, 19, 20, 21, 22, 23, 24, 25, 26, 27, 28, 29, 30, 31, 32, 33, 34, 35, 36, 37, 38, 39, 40, 41, 42, 43, 44, 45, 46, 47, 48, 49, 50, 51, 52, 53, 54, 55, 56, 57, 58, 59, 60, 61, 62, 63, 64, 65, 66, 67, 68, 69, 70, 71, 72, 73, 74, 75, 76, 77, 78, 79, 80, 81, 82, 83, 84, 85, 86, 87, 88, 89, 90, 91, 92, 93, 94, 95, 96, 97, 98, 99, 100, 101, 102, 103, 104, 105, 106, 107, 108, 109, 110, 111, 112, 113, 114, 115, 116, 117, 118, 119, 120, 121, 122, 123, 124, 125, 126, 127, 128, 129, 130, 131, 132, 133, 134, 135, 136, 137, 138, 139, 140, 141, 142, 143, 144, 145, 146, 147, 148, 149, 150, 151, 152, 153, 154, 155, 156, 157, 158, 159, 160, 161, 162, 163, 164, 165, 166, 167, 168, 169, 170, 171, 172, 173, 174, 175, 176, 177, 178, 179, 180, 181, 182, 183, 184, 185, 186, 187, 188, 189, 190, 191, 192, 193, 194, 195, 196, 197, 198, 199, 200, 201, 202, 203, 204, 205, 206, 207, 208, 209, 210, 211, 212, 213, 214, 215, 216, 217, 218, 219, 220, 221, 222, 223, 224, 225, 226, 227, 228, 229, 230, 231, 232, 233, 234, 235, 236, 237, 238, 239, 240, 241, 242, 243, 244, 245, 246, 247, 248, 249, 250, 251, 252, 253, 254, 255, 256, 257, 258, 259, 260, 261, 262, 263, 264, 265, 266, 267, 268, 269, 270, 271, 272, 273, 274, 275, 276, 277, 278, 279, 280, 281, 282, 283, 284, 285, 286, 287, 288, 289, 290, 291, 292, 293, 294, 295, 296, 297, 298, 299, 300, 301, 302, 303, 304, 305, 306, 307, 308, 309, 310, 311, 312, 313, 314, 315, 316, 317, 318, 319, 320, 321, 322, 323, 324, 325, 326, 327, 328, 329, 330, 331, 332, 333, 334, 335, 336, 337, 338, 339, 340, 341, 342, 343, 344, 345, 346, 347, 348, 349, 350, 351, 352, 353, 354, 355, 356, 357, 358, 359, 360, 361, 362, 363, 364, 365, 366, 367, 368, 369, 370, 371, 372, 373, 374, 375, 376, 377, 378, 379, 380, 381, 382, 383, 384, 385, 386, 387, 388, 389, 390, 391, 392, 393, 394, 395, 396, 397, 398, 399, 400, 401, 402, 403, 404, 405, 406, 407, 408, 409, 410, 411, 412, 413] (by decide +kernel) (by decide +kernel)) (goodIn_sub (fun _ h => List.mem_cons_of_mem _ (List.mem_append_right _ h)) (by decide +kernel))
set_option maxRecDepth 20000 in
theorem gL_error_X8_error : GoodIn wsL_error (wsV RL 86 RX8 yX8_error wsX8_error) := goodIn_app (goodIn_of _ (by decide +kernel)) ggL_error_X8_error
theorem dL_error_0 : decode cL_error 0 = .ok (.aload_n 3, 1) := by decide +kernel
theorem dL_error_1 : decode cL_error 1 = .ok (.iconst 0, 1) := by decide +kernel
theorem dL_error_2 : decode cL_error 2 = .ok (.aload_n 0, 1) := by decide +kernel
theorem dL_error_3 : decode cL_error 3 = .ok (.iload_n 1, 1) := by decide +kernel
theorem dL_error_4 : decode cL_error 4 = .ok (.iload_n 2, 1) := by decide +kernel
theorem dL_error_5 : decode cL_error 5 = .ok (.invokevirtual 86, 3) := by decide +kernel
theorem dL_error_8 : decode cL_error 8 = .ok (.i2l, 1) := by decide +kernel
theorem dL_error_9 : decode cL_error 9 = .ok (.lastore, 1) := by decide +kernel
theorem dL_error_10 : decode cL_error 10 = .ok (.goto 7, 3) := by decide +kernel
theorem dL_error_13 : decode cL_error 13 = .ok (.astore 4, 2) := by decide +kernel
theorem dL_error_15 : decode cL_error 15 = .ok (.iconst 1, 1) := by decide +kernel
theorem dL_error_16 : decode cL_error 16 = .ok (.ireturn, 1) := by decide +kernel
theorem dL_error_17 : decode cL_error 17 = .ok (.iconst 0, 1) := by decide +kernel
theorem dL_error_18 : decode cL_error 18 = .ok (.ireturn, 1) := by decide +kernel
set_option maxRecDepth 20000 in
theorem ggL_errorsIn_X8_errorsIn : GoodIn wsL_errorsIn wsX8_errorsIn := goodIn_ca (goodIn_r _ [6, 7, 8, 9, 10, 11, 12, 5, 13, 14, 15, 16, 17, 18, 19, 20, 21, 22, 23, 24, 25, 26, 27, 28, 29, 30, 31, 32, 33, 34, 35, 36, 37, 38, 39, 40, 41, 42, 43, 44, 45, 46, 47, 48, 49, 50, 51, 52, 53, 54, 55, 56, 57, 58, 59, 60, 61, 62, 63, 64, 65, 66, 67, 68, 69, 70, 71, 72, 73, 74, 75, 76, 77, 78, 79, 80, 81, 82, 83, 84, 85, 86, 87, 88, 89, 90, 91, 92, 93, 94, 95, 96, 97, 98, 99, 100, 101, 102, 103, 104, 105, 106, 107, 108, 109, 110, 111, 112, 113, 114, 115, 116, 117, 118, 119, 120, 121, 122, 123, 124, 125, 126, 127, 128, 129, 130, 131, 132, 133, 134, 135, 136, 137, 138, 139, 140, 141, 142, 143, 144, 145, 146, 147, 148, 149, 150, 151, 152, 153, 154, 155, 156, 157, 158, 159, 160, 161, 162, 163, 164, 165, 166, 167, 168, 169, 170, 171, 172, 173, 174, 175, 176, 177, 178, 179, 180, 181, 182, 183, 184, 185, 186, 187, 188, 189, 190, 191, 192, 193, 194, 195, 196, 197, 198, 199, 200, 201, 202, 203, 204, 205, 206, 207, 208, 209, 210, 211, 212, 213, 214, 215, 216, 217, 218, 219, 220, 221, 222, 223, 224, 225, 226, 227, 228, 229, 230, 231, 232, 233, 234, 235, 236, 237, 238, 239, 240, 241, 242, 243, 244, 245, 246, 247, 248, 249, 250, 251, 252, 253, 254, 255, 256, 257, 258, 259, 260, 261, 262, 263, 264, 265, 266, 267, 268, 269, 270, 271, 272, 273, 274, 275, 276, 277, 278, 279, 280, 281, 282, 283, 284, 285, 286, 287, 288, 289, 290, 291, 292, 293, 294, 295, 296, 297, 298, 299, 300, 301, 302, 303, 304, 305, 306, 307, 308, 309, 310, 311, 312, 313, 314, 315, 316, 317, 318, 319, 320, 321, 322, 323, 324, 325, 326, 327, 328, 329, 330, 331, 332, 333, 334, 335, 336, 337, 338, 339, 340, 341, 342, 343, 344, 345, 346, 347, 348, 349, 350, 351, 352, 353, 354, 355, 356, 357, 358, 359, 360, 361, 362, 363, 364, 365, 366, 367, 368, 369, 370, 371, 372, 373, 374, 375, 376, 377, 378, 379, 380, 381, 382, 383, 384, 385, 386, 387, 388, 389, 390, 391, 392, 393, 394, 395, 396, 397, 398, 399, 400, 401, 402, 403, 404, 405, 406, 407, 408, 409, 410] (by decide +kernel) (by decide +kernel)) (goodIn_sub (fun _ h => List.mem_cons_of_mem _ (List.mem_append_right _ h)) (by decide +kernel))
set_option maxRecDepth 20000 in
theorem gL_errorsIn_X8_errorsIn : GoodIn wsL_errorsIn (wsV RL 89 RX8 yX8_errorsIn wsX8_errorsIn) := goodIn_app (goodIn_of _ (by decide +kernel)) ggL_errorsIn_X8_errorsIn
theorem dL_errorsIn_0 : decode cL_errorsIn 0 = .ok (.aload_n 2, 1) := by decide +kernel
theorem dL_errorsIn_1 : decode cL_errorsIn 1 = .ok (.iconst 0, 1) := by decide +kernel
theorem dL_errorsIn_2 : decode cL_errorsIn 2 = .ok (.aload_n 0, 1) := by decide +kernel
theorem dL_errorsIn_3 : decode cL_errorsIn 3 = .ok (.iload_n 1, 1) := by decide +kernel
theorem dL_errorsIn_4 : decode cL_errorsIn 4 = .ok (.invokevirtual 89, 3) := by decide +kernel
theorem dL_errorsIn_7 : decode cL_errorsIn 7 = .ok (.i2l, 1) := by decide +kernel
theorem dL_errorsIn_8 : decode cL_errorsIn 8 = .ok (.lastore, 1) := by decide +kernel
theorem dL_errorsIn_9 : decode cL_errorsIn 9 = .ok (.goto 6, 3) := by decide +kernel
theorem dL_errorsIn_12 : decode cL_errorsIn 12 = .ok (.astore_n 3, 1) := by decide +kernel
theorem dL_errorsIn_13 : decode cL_errorsIn 13 = .ok (.iconst 1, 1) := by decide +kernel
theorem dL_errorsIn_14 : decode cL_errorsIn 14 = .ok (.ireturn, 1) := by decide +kernel
theorem dL_errorsIn_15 : decode cL_errorsIn 15 = .ok (.iconst 0, 1) := by decide +kernel
theorem dL_errorsIn_16 : decode cL_errorsIn 16 = .ok (.ireturn, 1) := by decide +kernel
