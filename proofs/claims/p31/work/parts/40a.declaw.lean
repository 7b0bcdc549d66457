theorem dL_law_0 : decode cL_law 0 = .ok (.new 20, 3) := by decide +kernel
theorem dL_law_3 : decode cL_law 3 = .ok (.dup, 1) := by decide +kernel
theorem dL_law_4 : decode cL_law 4 = .ok (.invokespecial 66, 3) := by decide +kernel
theorem dL_law_7 : decode cL_law 7 = .ok (.astore_n 1, 1) := by decide +kernel
theorem dL_law_8 : decode cL_law 8 = .ok (.bipush 6, 2) := by decide +kernel
theorem dL_law_10 : decode cL_law 10 = .ok (.newarray .int, 2) := by decide +kernel
theorem dL_law_12 : decode cL_law 12 = .ok (.astore_n 2, 1) := by decide +kernel
theorem dL_law_13 : decode cL_law 13 = .ok (.bipush 12, 2) := by decide +kernel
theorem dL_law_15 : decode cL_law 15 = .ok (.newarray .int, 2) := by decide +kernel
theorem dL_law_17 : decode cL_law 17 = .ok (.astore_n 3, 1) := by decide +kernel
theorem dL_law_18 : decode cL_law 18 = .ok (.bipush 8, 2) := by decide +kernel
theorem dL_law_20 : decode cL_law 20 = .ok (.newarray .int, 2) := by decide +kernel
theorem dL_law_22 : decode cL_law 22 = .ok (.astore 4, 2) := by decide +kernel
theorem dL_law_24 : decode cL_law 24 = .ok (.bipush 15, 2) := by decide +kernel
theorem dL_law_26 : decode cL_law 26 = .ok (.newarray .int, 2) := by decide +kernel
theorem dL_law_28 : decode cL_law 28 = .ok (.astore 5, 2) := by decide +kernel
theorem dL_law_30 : decode cL_law 30 = .ok (.bipush 56, 2) := by decide +kernel
theorem dL_law_32 : decode cL_law 32 = .ok (.newarray .int, 2) := by decide +kernel
theorem dL_law_34 : decode cL_law 34 = .ok (.astore 6, 2) := by decide +kernel
theorem dL_law_36 : decode cL_law 36 = .ok (.bipush 96, 2) := by decide +kernel
theorem dL_law_38 : decode cL_law 38 = .ok (.newarray .int, 2) := by decide +kernel
theorem dL_law_40 : decode cL_law 40 = .ok (.astore 7, 2) := by decide +kernel
theorem dL_law_42 : decode cL_law 42 = .ok (.bipush 12, 2) := by decide +kernel
theorem dL_law_44 : decode cL_law 44 = .ok (.newarray .int, 2) := by decide +kernel
theorem dL_law_46 : decode cL_law 46 = .ok (.astore 8, 2) := by decide +kernel
theorem dL_law_48 : decode cL_law 48 = .ok (.aload_n 1, 1) := by decide +kernel
theorem dL_law_49 : decode cL_law 49 = .ok (.aload_n 0, 1) := by decide +kernel
theorem dL_law_50 : decode cL_law 50 = .ok (.iconst 0, 1) := by decide +kernel
theorem dL_law_51 : decode cL_law 51 = .ok (.aload_n 2, 1) := by decide +kernel
theorem dL_law_52 : decode cL_law 52 = .ok (.aload_n 3, 1) := by decide +kernel
theorem dL_law_53 : decode cL_law 53 = .ok (.aload 4, 2) := by decide +kernel
theorem dL_law_55 : decode cL_law 55 = .ok (.aload 5, 2) := by decide +kernel
theorem dL_law_57 : decode cL_law 57 = .ok (.aload 6, 2) := by decide +kernel
theorem dL_law_59 : decode cL_law 59 = .ok (.aload 7, 2) := by decide +kernel
theorem dL_law_61 : decode cL_law 61 = .ok (.aload 8, 2) := by decide +kernel
theorem dL_law_63 : decode cL_law 63 = .ok (.invokestatic 67, 3) := by decide +kernel
theorem dL_law_66 : decode cL_law 66 = .ok (.ifCond .ne 5, 3) := by decide +kernel
theorem dL_law_69 : decode cL_law 69 = .ok (.iconst 0, 1) := by decide +kernel
theorem dL_law_70 : decode cL_law 70 = .ok (.ireturn, 1) := by decide +kernel
theorem dL_law_71 : decode cL_law 71 = .ok (.aload_n 0, 1) := by decide +kernel
theorem dL_law_72 : decode cL_law 72 = .ok (.bipush 15, 2) := by decide +kernel
theorem dL_law_74 : decode cL_law 74 = .ok (.invokestatic 15, 3) := by decide +kernel
theorem dL_law_77 : decode cL_law 77 = .ok (.bipush 16, 2) := by decide +kernel
theorem dL_law_79 : decode cL_law 79 = .ok (.invokestatic 9, 3) := by decide +kernel
theorem dL_law_82 : decode cL_law 82 = .ok (.istore 9, 2) := by decide +kernel
theorem dL_law_84 : decode cL_law 84 = .ok (.iconst 0, 1) := by decide +kernel
theorem dL_law_85 : decode cL_law 85 = .ok (.istore 10, 2) := by decide +kernel
theorem dL_law_87 : decode cL_law 87 = .ok (.iload 10, 2) := by decide +kernel
theorem dL_law_89 : decode cL_law 89 = .ok (.iconst 4, 1) := by decide +kernel
theorem dL_law_90 : decode cL_law 90 = .ok (.if_icmp .ge 714, 3) := by decide +kernel
theorem dL_law_93 : decode cL_law 93 = .ok (.iload 9, 2) := by decide +kernel
theorem dL_law_95 : decode cL_law 95 = .ok (.iload 10, 2) := by decide +kernel
theorem dL_law_97 : decode cL_law 97 = .ok (.iconst 5, 1) := by decide +kernel
theorem dL_law_98 : decode cL_law 98 = .ok (.imul, 1) := by decide +kernel
theorem dL_law_99 : decode cL_law 99 = .ok (.ixor, 1) := by decide +kernel
theorem dL_law_100 : decode cL_law 100 = .ok (.istore 11, 2) := by decide +kernel
theorem dL_law_102 : decode cL_law 102 = .ok (.iload 11, 2) := by decide +kernel
theorem dL_law_104 : decode cL_law 104 = .ok (.aload_n 2, 1) := by decide +kernel
theorem dL_law_105 : decode cL_law 105 = .ok (.aload_n 3, 1) := by decide +kernel
theorem dL_law_106 : decode cL_law 106 = .ok (.invokestatic 71, 3) := by decide +kernel
theorem dL_law_109 : decode cL_law 109 = .ok (.ifCond .ne 6, 3) := by decide +kernel
theorem dL_law_112 : decode cL_law 112 = .ok (.goto 686, 3) := by decide +kernel
theorem dL_law_115 : decode cL_law 115 = .ok (.new 20, 3) := by decide +kernel
theorem dL_law_118 : decode cL_law 118 = .ok (.dup, 1) := by decide +kernel
theorem dL_law_119 : decode cL_law 119 = .ok (.invokespecial 66, 3) := by decide +kernel
theorem dL_law_122 : decode cL_law 122 = .ok (.astore 12, 2) := by decide +kernel
theorem dL_law_124 : decode cL_law 124 = .ok (.iconst 0, 1) := by decide +kernel
theorem dL_law_125 : decode cL_law 125 = .ok (.istore 13, 2) := by decide +kernel
theorem dL_law_127 : decode cL_law 127 = .ok (.iload 13, 2) := by decide +kernel
theorem dL_law_129 : decode cL_law 129 = .ok (.iconst 4, 1) := by decide +kernel
theorem dL_law_130 : decode cL_law 130 = .ok (.if_icmp .ge 28, 3) := by decide +kernel
theorem dL_law_133 : decode cL_law 133 = .ok (.aload 12, 2) := by decide +kernel
theorem dL_law_135 : decode cL_law 135 = .ok (.iconst 1, 1) := by decide +kernel
theorem dL_law_136 : decode cL_law 136 = .ok (.iload 13, 2) := by decide +kernel
theorem dL_law_138 : decode cL_law 138 = .ok (.iload 13, 2) := by decide +kernel
theorem dL_law_140 : decode cL_law 140 = .ok (.invokevirtual 19, 3) := by decide +kernel
theorem dL_law_143 : decode cL_law 143 = .ok (.iload 13, 2) := by decide +kernel
theorem dL_law_145 : decode cL_law 145 = .ok (.iconst 1, 1) := by decide +kernel
theorem dL_law_146 : decode cL_law 146 = .ok (.iadd, 1) := by decide +kernel
theorem dL_law_147 : decode cL_law 147 = .ok (.if_icmp .eq 5, 3) := by decide +kernel
theorem dL_law_150 : decode cL_law 150 = .ok (.iconst 0, 1) := by decide +kernel
theorem dL_law_151 : decode cL_law 151 = .ok (.ireturn, 1) := by decide +kernel
theorem dL_law_152 : decode cL_law 152 = .ok (.iinc 13 1, 3) := by decide +kernel
theorem dL_law_155 : decode cL_law 155 = .ok (.goto (-28), 3) := by decide +kernel
theorem dL_law_158 : decode cL_law 158 = .ok (.aload 12, 2) := by decide +kernel
theorem dL_law_160 : decode cL_law 160 = .ok (.invokevirtual 75, 3) := by decide +kernel
theorem dL_law_163 : decode cL_law 163 = .ok (.iconst 1, 1) := by decide +kernel
theorem dL_law_164 : decode cL_law 164 = .ok (.if_icmp .eq 5, 3) := by decide +kernel
theorem dL_law_167 : decode cL_law 167 = .ok (.iconst 0, 1) := by decide +kernel
theorem dL_law_168 : decode cL_law 168 = .ok (.ireturn, 1) := by decide +kernel
theorem dL_law_169 : decode cL_law 169 = .ok (.iconst 0, 1) := by decide +kernel
theorem dL_law_170 : decode cL_law 170 = .ok (.istore 13, 2) := by decide +kernel
theorem dL_law_172 : decode cL_law 172 = .ok (.iload 13, 2) := by decide +kernel
theorem dL_law_174 : decode cL_law 174 = .ok (.aload_n 2, 1) := by decide +kernel
theorem dL_law_175 : decode cL_law 175 = .ok (.iconst 1, 1) := by decide +kernel
theorem dL_law_176 : decode cL_law 176 = .ok (.iaload, 1) := by decide +kernel
theorem dL_law_177 : decode cL_law 177 = .ok (.if_icmp .ge 34, 3) := by decide +kernel
theorem dL_law_180 : decode cL_law 180 = .ok (.aload 12, 2) := by decide +kernel
theorem dL_law_182 : decode cL_law 182 = .ok (.aload 4, 2) := by decide +kernel
theorem dL_law_184 : decode cL_law 184 = .ok (.iload 13, 2) := by decide +kernel
theorem dL_law_186 : decode cL_law 186 = .ok (.iaload, 1) := by decide +kernel
theorem dL_law_187 : decode cL_law 187 = .ok (.iload 11, 2) := by decide +kernel
theorem dL_law_189 : decode cL_law 189 = .ok (.invokestatic 79, 3) := by decide +kernel
theorem dL_law_192 : decode cL_law 192 = .ok (.ifCond .eq 7, 3) := by decide +kernel
theorem dL_law_195 : decode cL_law 195 = .ok (.iconst 0, 1) := by decide +kernel
theorem dL_law_196 : decode cL_law 196 = .ok (.goto 4, 3) := by decide +kernel
theorem dL_law_199 : decode cL_law 199 = .ok (.iconst 1, 1) := by decide +kernel
theorem dL_law_200 : decode cL_law 200 = .ok (.iconst 0, 1) := by decide +kernel
theorem dL_law_201 : decode cL_law 201 = .ok (.invokevirtual 29, 3) := by decide +kernel
theorem dL_law_204 : decode cL_law 204 = .ok (.pop, 1) := by decide +kernel
theorem dL_law_205 : decode cL_law 205 = .ok (.iinc 13 1, 3) := by decide +kernel
theorem dL_law_208 : decode cL_law 208 = .ok (.goto (-36), 3) := by decide +kernel
theorem dL_law_211 : decode cL_law 211 = .ok (.iconst 0, 1) := by decide +kernel
theorem dL_law_212 : decode cL_law 212 = .ok (.istore 13, 2) := by decide +kernel
theorem dL_law_214 : decode cL_law 214 = .ok (.iload 13, 2) := by decide +kernel
theorem dL_law_216 : decode cL_law 216 = .ok (.aload_n 2, 1) := by decide +kernel
theorem dL_law_217 : decode cL_law 217 = .ok (.iconst 2, 1) := by decide +kernel
theorem dL_law_218 : decode cL_law 218 = .ok (.iaload, 1) := by decide +kernel
theorem dL_law_219 : decode cL_law 219 = .ok (.if_icmp .ge 54, 3) := by decide +kernel
theorem dL_law_222 : decode cL_law 222 = .ok (.aload 12, 2) := by decide +kernel
theorem dL_law_224 : decode cL_law 224 = .ok (.aload 5, 2) := by decide +kernel
theorem dL_law_226 : decode cL_law 226 = .ok (.iconst 3, 1) := by decide +kernel
theorem dL_law_227 : decode cL_law 227 = .ok (.iload 13, 2) := by decide +kernel
theorem dL_law_229 : decode cL_law 229 = .ok (.imul, 1) := by decide +kernel
theorem dL_law_230 : decode cL_law 230 = .ok (.iaload, 1) := by decide +kernel
theorem dL_law_231 : decode cL_law 231 = .ok (.aload 5, 2) := by decide +kernel
theorem dL_law_233 : decode cL_law 233 = .ok (.iconst 3, 1) := by decide +kernel
theorem dL_law_234 : decode cL_law 234 = .ok (.iload 13, 2) := by decide +kernel
theorem dL_law_236 : decode cL_law 236 = .ok (.imul, 1) := by decide +kernel
theorem dL_law_237 : decode cL_law 237 = .ok (.iconst 1, 1) := by decide +kernel
theorem dL_law_238 : decode cL_law 238 = .ok (.iadd, 1) := by decide +kernel
theorem dL_law_239 : decode cL_law 239 = .ok (.iaload, 1) := by decide +kernel
theorem dL_law_240 : decode cL_law 240 = .ok (.aload 5, 2) := by decide +kernel
theorem dL_law_242 : decode cL_law 242 = .ok (.iconst 3, 1) := by decide +kernel
theorem dL_law_243 : decode cL_law 243 = .ok (.iload 13, 2) := by decide +kernel
theorem dL_law_245 : decode cL_law 245 = .ok (.imul, 1) := by decide +kernel
theorem dL_law_246 : decode cL_law 246 = .ok (.iconst 2, 1) := by decide +kernel
theorem dL_law_247 : decode cL_law 247 = .ok (.iadd, 1) := by decide +kernel
theorem dL_law_248 : decode cL_law 248 = .ok (.iaload, 1) := by decide +kernel
theorem dL_law_249 : decode cL_law 249 = .ok (.iload 11, 2) := by decide +kernel
theorem dL_law_251 : decode cL_law 251 = .ok (.invokestatic 79, 3) := by decide +kernel
theorem dL_law_254 : decode cL_law 254 = .ok (.ifCond .eq 7, 3) := by decide +kernel
theorem dL_law_257 : decode cL_law 257 = .ok (.iconst 0, 1) := by decide +kernel
theorem dL_law_258 : decode cL_law 258 = .ok (.goto 4, 3) := by decide +kernel
theorem dL_law_261 : decode cL_law 261 = .ok (.iconst 1, 1) := by decide +kernel
theorem dL_law_262 : decode cL_law 262 = .ok (.iconst 0, 1) := by decide +kernel
theorem dL_law_263 : decode cL_law 263 = .ok (.invokevirtual 32, 3) := by decide +kernel
theorem dL_law_266 : decode cL_law 266 = .ok (.pop, 1) := by decide +kernel
theorem dL_law_267 : decode cL_law 267 = .ok (.iinc 13 1, 3) := by decide +kernel
theorem dL_law_270 : decode cL_law 270 = .ok (.goto (-56), 3) := by decide +kernel
theorem dL_law_273 : decode cL_law 273 = .ok (.iconst 0, 1) := by decide +kernel
theorem dL_law_274 : decode cL_law 274 = .ok (.istore 13, 2) := by decide +kernel
theorem dL_law_276 : decode cL_law 276 = .ok (.iload 13, 2) := by decide +kernel
theorem dL_law_278 : decode cL_law 278 = .ok (.aload_n 2, 1) := by decide +kernel
theorem dL_law_279 : decode cL_law 279 = .ok (.iconst 3, 1) := by decide +kernel
theorem dL_law_280 : decode cL_law 280 = .ok (.iaload, 1) := by decide +kernel
theorem dL_law_281 : decode cL_law 281 = .ok (.if_icmp .ge 123, 3) := by decide +kernel
theorem dL_law_284 : decode cL_law 284 = .ok (.bipush 7, 2) := by decide +kernel
theorem dL_law_286 : decode cL_law 286 = .ok (.iload 13, 2) := by decide +kernel
theorem dL_law_288 : decode cL_law 288 = .ok (.imul, 1) := by decide +kernel
theorem dL_law_289 : decode cL_law 289 = .ok (.istore 14, 2) := by decide +kernel
theorem dL_law_291 : decode cL_law 291 = .ok (.aload 6, 2) := by decide +kernel
theorem dL_law_293 : decode cL_law 293 = .ok (.iload 14, 2) := by decide +kernel
theorem dL_law_295 : decode cL_law 295 = .ok (.bipush 6, 2) := by decide +kernel
theorem dL_law_297 : decode cL_law 297 = .ok (.iadd, 1) := by decide +kernel
theorem dL_law_298 : decode cL_law 298 = .ok (.iaload, 1) := by decide +kernel
theorem dL_law_299 : decode cL_law 299 = .ok (.iload 11, 2) := by decide +kernel
theorem dL_law_301 : decode cL_law 301 = .ok (.invokestatic 79, 3) := by decide +kernel
theorem dL_law_304 : decode cL_law 304 = .ok (.ifCond .eq 7, 3) := by decide +kernel
theorem dL_law_307 : decode cL_law 307 = .ok (.iconst 0, 1) := by decide +kernel
