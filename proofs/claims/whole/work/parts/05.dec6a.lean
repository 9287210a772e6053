theorem dX6_init_0 : decode cX6_init 0 = .ok (.aload_n 0, 1) := by decide +kernel
theorem dX6_init_1 : decode cX6_init 1 = .ok (.invokespecial 1, 3) := by decide +kernel
theorem dX6_init_4 : decode cX6_init 4 = .ok (.aload_n 0, 1) := by decide +kernel
theorem dX6_init_5 : decode cX6_init 5 = .ok (.sipush 132, 3) := by decide +kernel
theorem dX6_init_8 : decode cX6_init 8 = .ok (.newarray .int, 2) := by decide +kernel
theorem dX6_init_10 : decode cX6_init 10 = .ok (.putfield 7, 3) := by decide +kernel
theorem dX6_init_13 : decode cX6_init 13 = .ok (.aload_n 0, 1) := by decide +kernel
theorem dX6_init_14 : decode cX6_init 14 = .ok (.bipush 22, 2) := by decide +kernel
theorem dX6_init_16 : decode cX6_init 16 = .ok (.newarray .int, 2) := by decide +kernel
theorem dX6_init_18 : decode cX6_init 18 = .ok (.putfield 13, 3) := by decide +kernel
theorem dX6_init_21 : decode cX6_init 21 = .ok (.aload_n 0, 1) := by decide +kernel
theorem dX6_init_22 : decode cX6_init 22 = .ok (.sipush 160, 3) := by decide +kernel
theorem dX6_init_25 : decode cX6_init 25 = .ok (.newarray .int, 2) := by decide +kernel
theorem dX6_init_27 : decode cX6_init 27 = .ok (.putfield 16, 3) := by decide +kernel
theorem dX6_init_30 : decode cX6_init 30 = .ok (.aload_n 0, 1) := by decide +kernel
theorem dX6_init_31 : decode cX6_init 31 = .ok (.bipush 6, 2) := by decide +kernel
theorem dX6_init_33 : decode cX6_init 33 = .ok (.newarray .int, 2) := by decide +kernel
theorem dX6_init_35 : decode cX6_init 35 = .ok (.dup, 1) := by decide +kernel
theorem dX6_init_36 : decode cX6_init 36 = .ok (.iconst 0, 1) := by decide +kernel
theorem dX6_init_37 : decode cX6_init 37 = .ok (.iconst 0, 1) := by decide +kernel
theorem dX6_init_38 : decode cX6_init 38 = .ok (.iastore, 1) := by decide +kernel
theorem dX6_init_39 : decode cX6_init 39 = .ok (.dup, 1) := by decide +kernel
theorem dX6_init_40 : decode cX6_init 40 = .ok (.iconst 1, 1) := by decide +kernel
theorem dX6_init_41 : decode cX6_init 41 = .ok (.iconst 5, 1) := by decide +kernel
theorem dX6_init_42 : decode cX6_init 42 = .ok (.iastore, 1) := by decide +kernel
theorem dX6_init_43 : decode cX6_init 43 = .ok (.dup, 1) := by decide +kernel
theorem dX6_init_44 : decode cX6_init 44 = .ok (.iconst 2, 1) := by decide +kernel
theorem dX6_init_45 : decode cX6_init 45 = .ok (.bipush 10, 2) := by decide +kernel
theorem dX6_init_47 : decode cX6_init 47 = .ok (.iastore, 1) := by decide +kernel
theorem dX6_init_48 : decode cX6_init 48 = .ok (.dup, 1) := by decide +kernel
theorem dX6_init_49 : decode cX6_init 49 = .ok (.iconst 3, 1) := by decide +kernel
theorem dX6_init_50 : decode cX6_init 50 = .ok (.bipush 14, 2) := by decide +kernel
theorem dX6_init_52 : decode cX6_init 52 = .ok (.iastore, 1) := by decide +kernel
theorem dX6_init_53 : decode cX6_init 53 = .ok (.dup, 1) := by decide +kernel
theorem dX6_init_54 : decode cX6_init 54 = .ok (.iconst 4, 1) := by decide +kernel
theorem dX6_init_55 : decode cX6_init 55 = .ok (.bipush 18, 2) := by decide +kernel
theorem dX6_init_57 : decode cX6_init 57 = .ok (.iastore, 1) := by decide +kernel
theorem dX6_init_58 : decode cX6_init 58 = .ok (.dup, 1) := by decide +kernel
theorem dX6_init_59 : decode cX6_init 59 = .ok (.iconst 5, 1) := by decide +kernel
theorem dX6_init_60 : decode cX6_init 60 = .ok (.bipush 23, 2) := by decide +kernel
theorem dX6_init_62 : decode cX6_init 62 = .ok (.iastore, 1) := by decide +kernel
theorem dX6_init_63 : decode cX6_init 63 = .ok (.putfield 19, 3) := by decide +kernel
theorem dX6_init_66 : decode cX6_init 66 = .ok (.aload_n 0, 1) := by decide +kernel
theorem dX6_init_67 : decode cX6_init 67 = .ok (.bipush 23, 2) := by decide +kernel
theorem dX6_init_69 : decode cX6_init 69 = .ok (.newarray .int, 2) := by decide +kernel
theorem dX6_init_71 : decode cX6_init 71 = .ok (.dup, 1) := by decide +kernel
theorem dX6_init_72 : decode cX6_init 72 = .ok (.iconst 0, 1) := by decide +kernel
theorem dX6_init_73 : decode cX6_init 73 = .ok (.bipush 112, 2) := by decide +kernel
theorem dX6_init_75 : decode cX6_init 75 = .ok (.iastore, 1) := by decide +kernel
theorem dX6_init_76 : decode cX6_init 76 = .ok (.dup, 1) := by decide +kernel
theorem dX6_init_77 : decode cX6_init 77 = .ok (.iconst 1, 1) := by decide +kernel
theorem dX6_init_78 : decode cX6_init 78 = .ok (.bipush 108, 2) := by decide +kernel
theorem dX6_init_80 : decode cX6_init 80 = .ok (.iastore, 1) := by decide +kernel
theorem dX6_init_81 : decode cX6_init 81 = .ok (.dup, 1) := by decide +kernel
theorem dX6_init_82 : decode cX6_init 82 = .ok (.iconst 2, 1) := by decide +kernel
theorem dX6_init_83 : decode cX6_init 83 = .ok (.bipush 97, 2) := by decide +kernel
theorem dX6_init_85 : decode cX6_init 85 = .ok (.iastore, 1) := by decide +kernel
theorem dX6_init_86 : decode cX6_init 86 = .ok (.dup, 1) := by decide +kernel
theorem dX6_init_87 : decode cX6_init 87 = .ok (.iconst 3, 1) := by decide +kernel
theorem dX6_init_88 : decode cX6_init 88 = .ok (.bipush 105, 2) := by decide +kernel
theorem dX6_init_90 : decode cX6_init 90 = .ok (.iastore, 1) := by decide +kernel
theorem dX6_init_91 : decode cX6_init 91 = .ok (.dup, 1) := by decide +kernel
theorem dX6_init_92 : decode cX6_init 92 = .ok (.iconst 4, 1) := by decide +kernel
theorem dX6_init_93 : decode cX6_init 93 = .ok (.bipush 110, 2) := by decide +kernel
theorem dX6_init_95 : decode cX6_init 95 = .ok (.iastore, 1) := by decide +kernel
theorem dX6_init_96 : decode cX6_init 96 = .ok (.dup, 1) := by decide +kernel
theorem dX6_init_97 : decode cX6_init 97 = .ok (.iconst 5, 1) := by decide +kernel
theorem dX6_init_98 : decode cX6_init 98 = .ok (.bipush 104, 2) := by decide +kernel
theorem dX6_init_100 : decode cX6_init 100 = .ok (.iastore, 1) := by decide +kernel
theorem dX6_init_101 : decode cX6_init 101 = .ok (.dup, 1) := by decide +kernel
theorem dX6_init_102 : decode cX6_init 102 = .ok (.bipush 6, 2) := by decide +kernel
theorem dX6_init_104 : decode cX6_init 104 = .ok (.bipush 97, 2) := by decide +kernel
theorem dX6_init_106 : decode cX6_init 106 = .ok (.iastore, 1) := by decide +kernel
theorem dX6_init_107 : decode cX6_init 107 = .ok (.dup, 1) := by decide +kernel
theorem dX6_init_108 : decode cX6_init 108 = .ok (.bipush 7, 2) := by decide +kernel
theorem dX6_init_110 : decode cX6_init 110 = .ok (.bipush 115, 2) := by decide +kernel
theorem dX6_init_112 : decode cX6_init 112 = .ok (.iastore, 1) := by decide +kernel
theorem dX6_init_113 : decode cX6_init 113 = .ok (.dup, 1) := by decide +kernel
theorem dX6_init_114 : decode cX6_init 114 = .ok (.bipush 8, 2) := by decide +kernel
theorem dX6_init_116 : decode cX6_init 116 = .ok (.bipush 116, 2) := by decide +kernel
theorem dX6_init_118 : decode cX6_init 118 = .ok (.iastore, 1) := by decide +kernel
theorem dX6_init_119 : decode cX6_init 119 = .ok (.dup, 1) := by decide +kernel
theorem dX6_init_120 : decode cX6_init 120 = .ok (.bipush 9, 2) := by decide +kernel
theorem dX6_init_122 : decode cX6_init 122 = .ok (.bipush 121, 2) := by decide +kernel
theorem dX6_init_124 : decode cX6_init 124 = .ok (.iastore, 1) := by decide +kernel
theorem dX6_init_125 : decode cX6_init 125 = .ok (.dup, 1) := by decide +kernel
theorem dX6_init_126 : decode cX6_init 126 = .ok (.bipush 10, 2) := by decide +kernel
theorem dX6_init_128 : decode cX6_init 128 = .ok (.bipush 98, 2) := by decide +kernel
theorem dX6_init_130 : decode cX6_init 130 = .ok (.iastore, 1) := by decide +kernel
theorem dX6_init_131 : decode cX6_init 131 = .ok (.dup, 1) := by decide +kernel
theorem dX6_init_132 : decode cX6_init 132 = .ok (.bipush 11, 2) := by decide +kernel
theorem dX6_init_134 : decode cX6_init 134 = .ok (.bipush 97, 2) := by decide +kernel
theorem dX6_init_136 : decode cX6_init 136 = .ok (.iastore, 1) := by decide +kernel
theorem dX6_init_137 : decode cX6_init 137 = .ok (.dup, 1) := by decide +kernel
theorem dX6_init_138 : decode cX6_init 138 = .ok (.bipush 12, 2) := by decide +kernel
theorem dX6_init_140 : decode cX6_init 140 = .ok (.bipush 99, 2) := by decide +kernel
theorem dX6_init_142 : decode cX6_init 142 = .ok (.iastore, 1) := by decide +kernel
theorem dX6_init_143 : decode cX6_init 143 = .ok (.dup, 1) := by decide +kernel
theorem dX6_init_144 : decode cX6_init 144 = .ok (.bipush 13, 2) := by decide +kernel
theorem dX6_init_146 : decode cX6_init 146 = .ok (.bipush 107, 2) := by decide +kernel
theorem dX6_init_148 : decode cX6_init 148 = .ok (.iastore, 1) := by decide +kernel
theorem dX6_init_149 : decode cX6_init 149 = .ok (.dup, 1) := by decide +kernel
theorem dX6_init_150 : decode cX6_init 150 = .ok (.bipush 14, 2) := by decide +kernel
theorem dX6_init_152 : decode cX6_init 152 = .ok (.bipush 108, 2) := by decide +kernel
theorem dX6_init_154 : decode cX6_init 154 = .ok (.iastore, 1) := by decide +kernel
theorem dX6_init_155 : decode cX6_init 155 = .ok (.dup, 1) := by decide +kernel
theorem dX6_init_156 : decode cX6_init 156 = .ok (.bipush 15, 2) := by decide +kernel
theorem dX6_init_158 : decode cX6_init 158 = .ok (.bipush 97, 2) := by decide +kernel
theorem dX6_init_160 : decode cX6_init 160 = .ok (.iastore, 1) := by decide +kernel
theorem dX6_init_161 : decode cX6_init 161 = .ok (.dup, 1) := by decide +kernel
theorem dX6_init_162 : decode cX6_init 162 = .ok (.bipush 16, 2) := by decide +kernel
theorem dX6_init_164 : decode cX6_init 164 = .ok (.bipush 116, 2) := by decide +kernel
theorem dX6_init_166 : decode cX6_init 166 = .ok (.iastore, 1) := by decide +kernel
theorem dX6_init_167 : decode cX6_init 167 = .ok (.dup, 1) := by decide +kernel
theorem dX6_init_168 : decode cX6_init 168 = .ok (.bipush 17, 2) := by decide +kernel
theorem dX6_init_170 : decode cX6_init 170 = .ok (.bipush 101, 2) := by decide +kernel
theorem dX6_init_172 : decode cX6_init 172 = .ok (.iastore, 1) := by decide +kernel
theorem dX6_init_173 : decode cX6_init 173 = .ok (.dup, 1) := by decide +kernel
theorem dX6_init_174 : decode cX6_init 174 = .ok (.bipush 18, 2) := by decide +kernel
theorem dX6_init_176 : decode cX6_init 176 = .ok (.bipush 99, 2) := by decide +kernel
theorem dX6_init_178 : decode cX6_init 178 = .ok (.iastore, 1) := by decide +kernel
theorem dX6_init_179 : decode cX6_init 179 = .ok (.dup, 1) := by decide +kernel
theorem dX6_init_180 : decode cX6_init 180 = .ok (.bipush 19, 2) := by decide +kernel
theorem dX6_init_182 : decode cX6_init 182 = .ok (.bipush 111, 2) := by decide +kernel
theorem dX6_init_184 : decode cX6_init 184 = .ok (.iastore, 1) := by decide +kernel
theorem dX6_init_185 : decode cX6_init 185 = .ok (.dup, 1) := by decide +kernel
theorem dX6_init_186 : decode cX6_init 186 = .ok (.bipush 20, 2) := by decide +kernel
theorem dX6_init_188 : decode cX6_init 188 = .ok (.bipush 117, 2) := by decide +kernel
theorem dX6_init_190 : decode cX6_init 190 = .ok (.iastore, 1) := by decide +kernel
theorem dX6_init_191 : decode cX6_init 191 = .ok (.dup, 1) := by decide +kernel
theorem dX6_init_192 : decode cX6_init 192 = .ok (.bipush 21, 2) := by decide +kernel
theorem dX6_init_194 : decode cX6_init 194 = .ok (.bipush 110, 2) := by decide +kernel
theorem dX6_init_196 : decode cX6_init 196 = .ok (.iastore, 1) := by decide +kernel
theorem dX6_init_197 : decode cX6_init 197 = .ok (.dup, 1) := by decide +kernel
theorem dX6_init_198 : decode cX6_init 198 = .ok (.bipush 22, 2) := by decide +kernel
theorem dX6_init_200 : decode cX6_init 200 = .ok (.bipush 116, 2) := by decide +kernel
theorem dX6_init_202 : decode cX6_init 202 = .ok (.iastore, 1) := by decide +kernel
theorem dX6_init_203 : decode cX6_init 203 = .ok (.putfield 22, 3) := by decide +kernel
theorem dX6_init_206 : decode cX6_init 206 = .ok (.aload_n 0, 1) := by decide +kernel
theorem dX6_init_207 : decode cX6_init 207 = .ok (.bipush 12, 2) := by decide +kernel
theorem dX6_init_209 : decode cX6_init 209 = .ok (.newarray .int, 2) := by decide +kernel
theorem dX6_init_211 : decode cX6_init 211 = .ok (.putfield 25, 3) := by decide +kernel
theorem dX6_init_214 : decode cX6_init 214 = .ok (.aload_n 0, 1) := by decide +kernel
theorem dX6_init_215 : decode cX6_init 215 = .ok (.sipush 2613, 3) := by decide +kernel
theorem dX6_init_218 : decode cX6_init 218 = .ok (.newarray .int, 2) := by decide +kernel
theorem dX6_init_220 : decode cX6_init 220 = .ok (.putfield 28, 3) := by decide +kernel
theorem dX6_init_223 : decode cX6_init 223 = .ok (.aload_n 0, 1) := by decide +kernel
theorem dX6_init_224 : decode cX6_init 224 = .ok (.iconst 2, 1) := by decide +kernel
theorem dX6_init_225 : decode cX6_init 225 = .ok (.newarray .boolean, 2) := by decide +kernel
theorem dX6_init_227 : decode cX6_init 227 = .ok (.putfield 31, 3) := by decide +kernel
theorem dX6_init_230 : decode cX6_init 230 = .ok (.aload_n 0, 1) := by decide +kernel
theorem dX6_init_231 : decode cX6_init 231 = .ok (.iconst 4, 1) := by decide +kernel
theorem dX6_init_232 : decode cX6_init 232 = .ok (.newarray .int, 2) := by decide +kernel
theorem dX6_init_234 : decode cX6_init 234 = .ok (.dup, 1) := by decide +kernel
theorem dX6_init_235 : decode cX6_init 235 = .ok (.iconst 0, 1) := by decide +kernel
theorem dX6_init_236 : decode cX6_init 236 = .ok (.bipush (-4), 2) := by decide +kernel
theorem dX6_init_238 : decode cX6_init 238 = .ok (.iastore, 1) := by decide +kernel
theorem dX6_init_239 : decode cX6_init 239 = .ok (.dup, 1) := by decide +kernel
theorem dX6_init_240 : decode cX6_init 240 = .ok (.iconst 1, 1) := by decide +kernel
theorem dX6_init_241 : decode cX6_init 241 = .ok (.bipush (-4), 2) := by decide +kernel
theorem dX6_init_243 : decode cX6_init 243 = .ok (.iastore, 1) := by decide +kernel
theorem dX6_init_244 : decode cX6_init 244 = .ok (.dup, 1) := by decide +kernel
theorem dX6_init_245 : decode cX6_init 245 = .ok (.iconst 2, 1) := by decide +kernel
theorem dX6_init_246 : decode cX6_init 246 = .ok (.bipush (-4), 2) := by decide +kernel
theorem dX6_init_248 : decode cX6_init 248 = .ok (.iastore, 1) := by decide +kernel
theorem dX6_init_249 : decode cX6_init 249 = .ok (.dup, 1) := by decide +kernel
theorem dX6_init_250 : decode cX6_init 250 = .ok (.iconst 3, 1) := by decide +kernel
theorem dX6_init_251 : decode cX6_init 251 = .ok (.bipush (-4), 2) := by decide +kernel
theorem dX6_init_253 : decode cX6_init 253 = .ok (.iastore, 1) := by decide +kernel
theorem dX6_init_254 : decode cX6_init 254 = .ok (.putfield 35, 3) := by decide +kernel
theorem dX6_init_257 : decode cX6_init 257 = .ok (.aload_n 0, 1) := by decide +kernel
theorem dX6_init_258 : decode cX6_init 258 = .ok (.iconst 4, 1) := by decide +kernel
theorem dX6_init_259 : decode cX6_init 259 = .ok (.newarray .int, 2) := by decide +kernel
theorem dX6_init_261 : decode cX6_init 261 = .ok (.putfield 38, 3) := by decide +kernel
theorem dX6_init_264 : decode cX6_init 264 = .ok (.aload_n 0, 1) := by decide +kernel
theorem dX6_init_265 : decode cX6_init 265 = .ok (.sipush 160, 3) := by decide +kernel
theorem dX6_init_268 : decode cX6_init 268 = .ok (.newarray .int, 2) := by decide +kernel
theorem dX6_init_270 : decode cX6_init 270 = .ok (.putfield 41, 3) := by decide +kernel
theorem dX6_init_273 : decode cX6_init 273 = .ok (.return_, 1) := by decide +kernel
theorem dX6_in_0 : decode cX6_in 0 = .ok (.lload_n 0, 1) := by decide +kernel
theorem dX6_in_1 : decode cX6_in 1 = .ok (.lload_n 2, 1) := by decide +kernel
theorem dX6_in_2 : decode cX6_in 2 = .ok (.lcmp, 1) := by decide +kernel
theorem dX6_in_3 : decode cX6_in 3 = .ok (.ifCond .lt 14, 3) := by decide +kernel
theorem dX6_in_6 : decode cX6_in 6 = .ok (.lload_n 0, 1) := by decide +kernel
theorem dX6_in_7 : decode cX6_in 7 = .ok (.lload 4, 2) := by decide +kernel
theorem dX6_in_9 : decode cX6_in 9 = .ok (.lcmp, 1) := by decide +kernel
theorem dX6_in_10 : decode cX6_in 10 = .ok (.ifCond .gt 7, 3) := by decide +kernel
theorem dX6_in_13 : decode cX6_in 13 = .ok (.iconst 1, 1) := by decide +kernel
theorem dX6_in_14 : decode cX6_in 14 = .ok (.goto 4, 3) := by decide +kernel
theorem dX6_in_17 : decode cX6_in 17 = .ok (.iconst 0, 1) := by decide +kernel
theorem dX6_in_18 : decode cX6_in 18 = .ok (.ireturn, 1) := by decide +kernel
theorem dX6_feed_0 : decode cX6_feed 0 = .ok (.iload_n 1, 1) := by decide +kernel
theorem dX6_feed_1 : decode cX6_feed 1 = .ok (.i2l, 1) := by decide +kernel
theorem dX6_feed_2 : decode cX6_feed 2 = .ok (.lconst 0, 1) := by decide +kernel
theorem dX6_feed_3 : decode cX6_feed 3 = .ok (.ldc2_w 44, 3) := by decide +kernel
theorem dX6_feed_6 : decode cX6_feed 6 = .ok (.invokestatic 46, 3) := by decide +kernel
theorem dX6_feed_9 : decode cX6_feed 9 = .ok (.ifCond .ne 5, 3) := by decide +kernel
theorem dX6_feed_12 : decode cX6_feed 12 = .ok (.iconst (-1), 1) := by decide +kernel
theorem dX6_feed_13 : decode cX6_feed 13 = .ok (.ireturn, 1) := by decide +kernel
theorem dX6_feed_14 : decode cX6_feed 14 = .ok (.aload_n 0, 1) := by decide +kernel
theorem dX6_feed_15 : decode cX6_feed 15 = .ok (.getfield 50, 3) := by decide +kernel
theorem dX6_feed_18 : decode cX6_feed 18 = .ok (.sipush 160, 3) := by decide +kernel
theorem dX6_feed_21 : decode cX6_feed 21 = .ok (.if_icmp .ne 6, 3) := by decide +kernel
theorem dX6_feed_24 : decode cX6_feed 24 = .ok (.bipush (-3), 2) := by decide +kernel
theorem dX6_feed_26 : decode cX6_feed 26 = .ok (.ireturn, 1) := by decide +kernel
theorem dX6_feed_27 : decode cX6_feed 27 = .ok (.aload_n 0, 1) := by decide +kernel
theorem dX6_feed_28 : decode cX6_feed 28 = .ok (.getfield 16, 3) := by decide +kernel
theorem dX6_feed_31 : decode cX6_feed 31 = .ok (.aload_n 0, 1) := by decide +kernel
theorem dX6_feed_32 : decode cX6_feed 32 = .ok (.getfield 50, 3) := by decide +kernel
theorem dX6_feed_35 : decode cX6_feed 35 = .ok (.iload_n 1, 1) := by decide +kernel
theorem dX6_feed_36 : decode cX6_feed 36 = .ok (.iastore, 1) := by decide +kernel
theorem dX6_feed_37 : decode cX6_feed 37 = .ok (.aload_n 0, 1) := by decide +kernel
theorem dX6_feed_38 : decode cX6_feed 38 = .ok (.dup, 1) := by decide +kernel
theorem dX6_feed_39 : decode cX6_feed 39 = .ok (.getfield 50, 3) := by decide +kernel
theorem dX6_feed_42 : decode cX6_feed 42 = .ok (.iconst 1, 1) := by decide +kernel
theorem dX6_feed_43 : decode cX6_feed 43 = .ok (.iadd, 1) := by decide +kernel
theorem dX6_feed_44 : decode cX6_feed 44 = .ok (.putfield 50, 3) := by decide +kernel
theorem dX6_feed_47 : decode cX6_feed 47 = .ok (.aload_n 0, 1) := by decide +kernel
theorem dX6_feed_48 : decode cX6_feed 48 = .ok (.getfield 50, 3) := by decide +kernel
theorem dX6_feed_51 : decode cX6_feed 51 = .ok (.ireturn, 1) := by decide +kernel
theorem dX6_end_0 : decode cX6_end 0 = .ok (.iload_n 1, 1) := by decide +kernel
theorem dX6_end_1 : decode cX6_end 1 = .ok (.i2l, 1) := by decide +kernel
theorem dX6_end_2 : decode cX6_end 2 = .ok (.lconst 0, 1) := by decide +kernel
theorem dX6_end_3 : decode cX6_end 3 = .ok (.aload_n 0, 1) := by decide +kernel
theorem dX6_end_4 : decode cX6_end 4 = .ok (.getfield 50, 3) := by decide +kernel
theorem dX6_end_7 : decode cX6_end 7 = .ok (.i2l, 1) := by decide +kernel
theorem dX6_end_8 : decode cX6_end 8 = .ok (.invokestatic 46, 3) := by decide +kernel
theorem dX6_end_11 : decode cX6_end 11 = .ok (.ifCond .ne 5, 3) := by decide +kernel
theorem dX6_end_14 : decode cX6_end 14 = .ok (.iconst (-1), 1) := by decide +kernel
theorem dX6_end_15 : decode cX6_end 15 = .ok (.ireturn, 1) := by decide +kernel
theorem dX6_end_16 : decode cX6_end 16 = .ok (.aload_n 0, 1) := by decide +kernel
theorem dX6_end_17 : decode cX6_end 17 = .ok (.getfield 50, 3) := by decide +kernel
theorem dX6_end_20 : decode cX6_end 20 = .ok (.istore_n 2, 1) := by decide +kernel
theorem dX6_end_21 : decode cX6_end 21 = .ok (.aload_n 0, 1) := by decide +kernel
theorem dX6_end_22 : decode cX6_end 22 = .ok (.iload_n 1, 1) := by decide +kernel
theorem dX6_end_23 : decode cX6_end 23 = .ok (.putfield 50, 3) := by decide +kernel
theorem dX6_end_26 : decode cX6_end 26 = .ok (.iload_n 2, 1) := by decide +kernel
theorem dX6_end_27 : decode cX6_end 27 = .ok (.ireturn, 1) := by decide +kernel
theorem dX6_byteAt_0 : decode cX6_byteAt 0 = .ok (.iload_n 1, 1) := by decide +kernel
theorem dX6_byteAt_1 : decode cX6_byteAt 1 = .ok (.aload_n 0, 1) := by decide +kernel
theorem dX6_byteAt_2 : decode cX6_byteAt 2 = .ok (.getfield 50, 3) := by decide +kernel
theorem dX6_byteAt_5 : decode cX6_byteAt 5 = .ok (.if_icmp .ge 12, 3) := by decide +kernel
theorem dX6_byteAt_8 : decode cX6_byteAt 8 = .ok (.aload_n 0, 1) := by decide +kernel
theorem dX6_byteAt_9 : decode cX6_byteAt 9 = .ok (.getfield 16, 3) := by decide +kernel
theorem dX6_byteAt_12 : decode cX6_byteAt 12 = .ok (.iload_n 1, 1) := by decide +kernel
theorem dX6_byteAt_13 : decode cX6_byteAt 13 = .ok (.iaload, 1) := by decide +kernel
theorem dX6_byteAt_14 : decode cX6_byteAt 14 = .ok (.goto 5, 3) := by decide +kernel
theorem dX6_byteAt_17 : decode cX6_byteAt 17 = .ok (.bipush (-4), 2) := by decide +kernel
theorem dX6_byteAt_19 : decode cX6_byteAt 19 = .ok (.ireturn, 1) := by decide +kernel
theorem dX6_fails_0 : decode cX6_fails 0 = .ok (.aload_n 0, 1) := by decide +kernel
theorem dX6_fails_1 : decode cX6_fails 1 = .ok (.getfield 54, 3) := by decide +kernel
theorem dX6_fails_4 : decode cX6_fails 4 = .ok (.ifCond .ne 16, 3) := by decide +kernel
theorem dX6_fails_7 : decode cX6_fails 7 = .ok (.aload_n 0, 1) := by decide +kernel
theorem dX6_fails_8 : decode cX6_fails 8 = .ok (.iload_n 1, 1) := by decide +kernel
theorem dX6_fails_9 : decode cX6_fails 9 = .ok (.putfield 54, 3) := by decide +kernel
theorem dX6_fails_12 : decode cX6_fails 12 = .ok (.aload_n 0, 1) := by decide +kernel
theorem dX6_fails_13 : decode cX6_fails 13 = .ok (.aload_n 0, 1) := by decide +kernel
theorem dX6_fails_14 : decode cX6_fails 14 = .ok (.getfield 57, 3) := by decide +kernel
theorem dX6_fails_17 : decode cX6_fails 17 = .ok (.putfield 60, 3) := by decide +kernel
theorem dX6_fails_20 : decode cX6_fails 20 = .ok (.return_, 1) := by decide +kernel
theorem dX6_nameHere_0 : decode cX6_nameHere 0 = .ok (.iconst 0, 1) := by decide +kernel
theorem dX6_nameHere_1 : decode cX6_nameHere 1 = .ok (.istore_n 1, 1) := by decide +kernel
theorem dX6_nameHere_2 : decode cX6_nameHere 2 = .ok (.iload_n 1, 1) := by decide +kernel
theorem dX6_nameHere_3 : decode cX6_nameHere 3 = .ok (.iconst 5, 1) := by decide +kernel
theorem dX6_nameHere_4 : decode cX6_nameHere 4 = .ok (.if_icmp .ge 113, 3) := by decide +kernel
theorem dX6_nameHere_7 : decode cX6_nameHere 7 = .ok (.aload_n 0, 1) := by decide +kernel
theorem dX6_nameHere_8 : decode cX6_nameHere 8 = .ok (.getfield 63, 3) := by decide +kernel
theorem dX6_nameHere_11 : decode cX6_nameHere 11 = .ok (.iconst 1, 1) := by decide +kernel
theorem dX6_nameHere_12 : decode cX6_nameHere 12 = .ok (.if_icmp .ne 105, 3) := by decide +kernel
theorem dX6_nameHere_15 : decode cX6_nameHere 15 = .ok (.aload_n 0, 1) := by decide +kernel
theorem dX6_nameHere_16 : decode cX6_nameHere 16 = .ok (.getfield 66, 3) := by decide +kernel
theorem dX6_nameHere_19 : decode cX6_nameHere 19 = .ok (.aload_n 0, 1) := by decide +kernel
theorem dX6_nameHere_20 : decode cX6_nameHere 20 = .ok (.getfield 57, 3) := by decide +kernel
theorem dX6_nameHere_23 : decode cX6_nameHere 23 = .ok (.isub, 1) := by decide +kernel
theorem dX6_nameHere_24 : decode cX6_nameHere 24 = .ok (.aload_n 0, 1) := by decide +kernel
theorem dX6_nameHere_25 : decode cX6_nameHere 25 = .ok (.getfield 19, 3) := by decide +kernel
theorem dX6_nameHere_28 : decode cX6_nameHere 28 = .ok (.iload_n 1, 1) := by decide +kernel
theorem dX6_nameHere_29 : decode cX6_nameHere 29 = .ok (.iconst 1, 1) := by decide +kernel
theorem dX6_nameHere_30 : decode cX6_nameHere 30 = .ok (.iadd, 1) := by decide +kernel
theorem dX6_nameHere_31 : decode cX6_nameHere 31 = .ok (.iaload, 1) := by decide +kernel
theorem dX6_nameHere_32 : decode cX6_nameHere 32 = .ok (.aload_n 0, 1) := by decide +kernel
theorem dX6_nameHere_33 : decode cX6_nameHere 33 = .ok (.getfield 19, 3) := by decide +kernel
theorem dX6_nameHere_36 : decode cX6_nameHere 36 = .ok (.iload_n 1, 1) := by decide +kernel
theorem dX6_nameHere_37 : decode cX6_nameHere 37 = .ok (.iaload, 1) := by decide +kernel
theorem dX6_nameHere_38 : decode cX6_nameHere 38 = .ok (.isub, 1) := by decide +kernel
theorem dX6_nameHere_39 : decode cX6_nameHere 39 = .ok (.if_icmp .ne 7, 3) := by decide +kernel
theorem dX6_nameHere_42 : decode cX6_nameHere 42 = .ok (.iconst 1, 1) := by decide +kernel
theorem dX6_nameHere_43 : decode cX6_nameHere 43 = .ok (.goto 4, 3) := by decide +kernel
theorem dX6_nameHere_46 : decode cX6_nameHere 46 = .ok (.iconst 0, 1) := by decide +kernel
theorem dX6_nameHere_47 : decode cX6_nameHere 47 = .ok (.istore_n 2, 1) := by decide +kernel
theorem dX6_nameHere_48 : decode cX6_nameHere 48 = .ok (.iconst 0, 1) := by decide +kernel
theorem dX6_nameHere_49 : decode cX6_nameHere 49 = .ok (.istore_n 3, 1) := by decide +kernel
theorem dX6_nameHere_50 : decode cX6_nameHere 50 = .ok (.iload_n 2, 1) := by decide +kernel
theorem dX6_nameHere_51 : decode cX6_nameHere 51 = .ok (.ifCond .eq 54, 3) := by decide +kernel
theorem dX6_nameHere_54 : decode cX6_nameHere 54 = .ok (.iload_n 3, 1) := by decide +kernel
theorem dX6_nameHere_55 : decode cX6_nameHere 55 = .ok (.aload_n 0, 1) := by decide +kernel
theorem dX6_nameHere_56 : decode cX6_nameHere 56 = .ok (.getfield 66, 3) := by decide +kernel
theorem dX6_nameHere_59 : decode cX6_nameHere 59 = .ok (.aload_n 0, 1) := by decide +kernel
theorem dX6_nameHere_60 : decode cX6_nameHere 60 = .ok (.getfield 57, 3) := by decide +kernel
theorem dX6_nameHere_63 : decode cX6_nameHere 63 = .ok (.isub, 1) := by decide +kernel
theorem dX6_nameHere_64 : decode cX6_nameHere 64 = .ok (.if_icmp .ge 41, 3) := by decide +kernel
theorem dX6_nameHere_67 : decode cX6_nameHere 67 = .ok (.aload_n 0, 1) := by decide +kernel
theorem dX6_nameHere_68 : decode cX6_nameHere 68 = .ok (.aload_n 0, 1) := by decide +kernel
theorem dX6_nameHere_69 : decode cX6_nameHere 69 = .ok (.getfield 57, 3) := by decide +kernel
theorem dX6_nameHere_72 : decode cX6_nameHere 72 = .ok (.iload_n 3, 1) := by decide +kernel
theorem dX6_nameHere_73 : decode cX6_nameHere 73 = .ok (.iadd, 1) := by decide +kernel
theorem dX6_nameHere_74 : decode cX6_nameHere 74 = .ok (.invokevirtual 69, 3) := by decide +kernel
theorem dX6_nameHere_77 : decode cX6_nameHere 77 = .ok (.aload_n 0, 1) := by decide +kernel
theorem dX6_nameHere_78 : decode cX6_nameHere 78 = .ok (.getfield 22, 3) := by decide +kernel
theorem dX6_nameHere_81 : decode cX6_nameHere 81 = .ok (.aload_n 0, 1) := by decide +kernel
theorem dX6_nameHere_82 : decode cX6_nameHere 82 = .ok (.getfield 19, 3) := by decide +kernel
theorem dX6_nameHere_85 : decode cX6_nameHere 85 = .ok (.iload_n 1, 1) := by decide +kernel
theorem dX6_nameHere_86 : decode cX6_nameHere 86 = .ok (.iaload, 1) := by decide +kernel
theorem dX6_nameHere_87 : decode cX6_nameHere 87 = .ok (.iload_n 3, 1) := by decide +kernel
theorem dX6_nameHere_88 : decode cX6_nameHere 88 = .ok (.iadd, 1) := by decide +kernel
theorem dX6_nameHere_89 : decode cX6_nameHere 89 = .ok (.iaload, 1) := by decide +kernel
theorem dX6_nameHere_90 : decode cX6_nameHere 90 = .ok (.if_icmp .ne 7, 3) := by decide +kernel
theorem dX6_nameHere_93 : decode cX6_nameHere 93 = .ok (.iconst 1, 1) := by decide +kernel
theorem dX6_nameHere_94 : decode cX6_nameHere 94 = .ok (.goto 4, 3) := by decide +kernel
theorem dX6_nameHere_97 : decode cX6_nameHere 97 = .ok (.iconst 0, 1) := by decide +kernel
theorem dX6_nameHere_98 : decode cX6_nameHere 98 = .ok (.istore_n 2, 1) := by decide +kernel
theorem dX6_nameHere_99 : decode cX6_nameHere 99 = .ok (.iinc 3 1, 3) := by decide +kernel
theorem dX6_nameHere_102 : decode cX6_nameHere 102 = .ok (.goto (-52), 3) := by decide +kernel
theorem dX6_nameHere_105 : decode cX6_nameHere 105 = .ok (.iload_n 2, 1) := by decide +kernel
theorem dX6_nameHere_106 : decode cX6_nameHere 106 = .ok (.ifCond .eq 5, 3) := by decide +kernel
theorem dX6_nameHere_109 : decode cX6_nameHere 109 = .ok (.iload_n 1, 1) := by decide +kernel
theorem dX6_nameHere_110 : decode cX6_nameHere 110 = .ok (.ireturn, 1) := by decide +kernel
theorem dX6_nameHere_111 : decode cX6_nameHere 111 = .ok (.iinc 1 1, 3) := by decide +kernel
theorem dX6_nameHere_114 : decode cX6_nameHere 114 = .ok (.goto (-112), 3) := by decide +kernel
theorem dX6_nameHere_117 : decode cX6_nameHere 117 = .ok (.bipush (-4), 2) := by decide +kernel
theorem dX6_nameHere_119 : decode cX6_nameHere 119 = .ok (.ireturn, 1) := by decide +kernel
theorem dX6_step_0 : decode cX6_step 0 = .ok (.aload_n 0, 1) := by decide +kernel
theorem dX6_step_1 : decode cX6_step 1 = .ok (.getfield 54, 3) := by decide +kernel
theorem dX6_step_4 : decode cX6_step 4 = .ok (.ifCond .le 4, 3) := by decide +kernel
theorem dX6_step_7 : decode cX6_step 7 = .ok (.return_, 1) := by decide +kernel
theorem dX6_step_8 : decode cX6_step 8 = .ok (.aload_n 0, 1) := by decide +kernel
theorem dX6_step_9 : decode cX6_step 9 = .ok (.aload_n 0, 1) := by decide +kernel
theorem dX6_step_10 : decode cX6_step 10 = .ok (.getfield 66, 3) := by decide +kernel
theorem dX6_step_13 : decode cX6_step 13 = .ok (.invokevirtual 69, 3) := by decide +kernel
theorem dX6_step_16 : decode cX6_step 16 = .ok (.bipush 32, 2) := by decide +kernel
theorem dX6_step_18 : decode cX6_step 18 = .ok (.if_icmp .ne 16, 3) := by decide +kernel
theorem dX6_step_21 : decode cX6_step 21 = .ok (.aload_n 0, 1) := by decide +kernel
theorem dX6_step_22 : decode cX6_step 22 = .ok (.dup, 1) := by decide +kernel
theorem dX6_step_23 : decode cX6_step 23 = .ok (.getfield 66, 3) := by decide +kernel
theorem dX6_step_26 : decode cX6_step 26 = .ok (.iconst 1, 1) := by decide +kernel
theorem dX6_step_27 : decode cX6_step 27 = .ok (.iadd, 1) := by decide +kernel
theorem dX6_step_28 : decode cX6_step 28 = .ok (.putfield 66, 3) := by decide +kernel
theorem dX6_step_31 : decode cX6_step 31 = .ok (.goto (-23), 3) := by decide +kernel
theorem dX6_step_34 : decode cX6_step 34 = .ok (.aload_n 0, 1) := by decide +kernel
theorem dX6_step_35 : decode cX6_step 35 = .ok (.aload_n 0, 1) := by decide +kernel
theorem dX6_step_36 : decode cX6_step 36 = .ok (.getfield 66, 3) := by decide +kernel
theorem dX6_step_39 : decode cX6_step 39 = .ok (.putfield 57, 3) := by decide +kernel
theorem dX6_step_42 : decode cX6_step 42 = .ok (.aload_n 0, 1) := by decide +kernel
theorem dX6_step_43 : decode cX6_step 43 = .ok (.aload_n 0, 1) := by decide +kernel
theorem dX6_step_44 : decode cX6_step 44 = .ok (.getfield 66, 3) := by decide +kernel
theorem dX6_step_47 : decode cX6_step 47 = .ok (.invokevirtual 69, 3) := by decide +kernel
theorem dX6_step_50 : decode cX6_step 50 = .ok (.istore_n 1, 1) := by decide +kernel
theorem dX6_step_51 : decode cX6_step 51 = .ok (.aload_n 0, 1) := by decide +kernel
theorem dX6_step_52 : decode cX6_step 52 = .ok (.iconst 0, 1) := by decide +kernel
theorem dX6_step_53 : decode cX6_step 53 = .ok (.putfield 73, 3) := by decide +kernel
theorem dX6_step_56 : decode cX6_step 56 = .ok (.iload_n 1, 1) := by decide +kernel
theorem dX6_step_57 : decode cX6_step 57 = .ok (.bipush (-4), 2) := by decide +kernel
theorem dX6_step_59 : decode cX6_step 59 = .ok (.if_icmp .ne 11, 3) := by decide +kernel
theorem dX6_step_62 : decode cX6_step 62 = .ok (.aload_n 0, 1) := by decide +kernel
theorem dX6_step_63 : decode cX6_step 63 = .ok (.iconst 0, 1) := by decide +kernel
theorem dX6_step_64 : decode cX6_step 64 = .ok (.putfield 63, 3) := by decide +kernel
theorem dX6_step_67 : decode cX6_step 67 = .ok (.goto 202, 3) := by decide +kernel
theorem dX6_step_70 : decode cX6_step 70 = .ok (.iload_n 1, 1) := by decide +kernel
theorem dX6_step_71 : decode cX6_step 71 = .ok (.i2l, 1) := by decide +kernel
theorem dX6_step_72 : decode cX6_step 72 = .ok (.ldc2_w 76, 3) := by decide +kernel
theorem dX6_step_75 : decode cX6_step 75 = .ok (.ldc2_w 78, 3) := by decide +kernel
theorem dX6_step_78 : decode cX6_step 78 = .ok (.invokestatic 46, 3) := by decide +kernel
theorem dX6_step_81 : decode cX6_step 81 = .ok (.ifCond .eq 45, 3) := by decide +kernel
theorem dX6_step_84 : decode cX6_step 84 = .ok (.aload_n 0, 1) := by decide +kernel
theorem dX6_step_85 : decode cX6_step 85 = .ok (.aload_n 0, 1) := by decide +kernel
theorem dX6_step_86 : decode cX6_step 86 = .ok (.getfield 66, 3) := by decide +kernel
theorem dX6_step_89 : decode cX6_step 89 = .ok (.invokevirtual 69, 3) := by decide +kernel
theorem dX6_step_92 : decode cX6_step 92 = .ok (.i2l, 1) := by decide +kernel
theorem dX6_step_93 : decode cX6_step 93 = .ok (.ldc2_w 76, 3) := by decide +kernel
theorem dX6_step_96 : decode cX6_step 96 = .ok (.ldc2_w 78, 3) := by decide +kernel
theorem dX6_step_99 : decode cX6_step 99 = .ok (.invokestatic 46, 3) := by decide +kernel
theorem dX6_step_102 : decode cX6_step 102 = .ok (.ifCond .eq 16, 3) := by decide +kernel
theorem dX6_step_105 : decode cX6_step 105 = .ok (.aload_n 0, 1) := by decide +kernel
theorem dX6_step_106 : decode cX6_step 106 = .ok (.dup, 1) := by decide +kernel
theorem dX6_step_107 : decode cX6_step 107 = .ok (.getfield 66, 3) := by decide +kernel
theorem dX6_step_110 : decode cX6_step 110 = .ok (.iconst 1, 1) := by decide +kernel
theorem dX6_step_111 : decode cX6_step 111 = .ok (.iadd, 1) := by decide +kernel
theorem dX6_step_112 : decode cX6_step 112 = .ok (.putfield 66, 3) := by decide +kernel
theorem dX6_step_115 : decode cX6_step 115 = .ok (.goto (-31), 3) := by decide +kernel
theorem dX6_step_118 : decode cX6_step 118 = .ok (.aload_n 0, 1) := by decide +kernel
theorem dX6_step_119 : decode cX6_step 119 = .ok (.iconst 1, 1) := by decide +kernel
theorem dX6_step_120 : decode cX6_step 120 = .ok (.putfield 63, 3) := by decide +kernel
theorem dX6_step_123 : decode cX6_step 123 = .ok (.goto 146, 3) := by decide +kernel
theorem dX6_step_126 : decode cX6_step 126 = .ok (.iload_n 1, 1) := by decide +kernel
theorem dX6_step_127 : decode cX6_step 127 = .ok (.i2l, 1) := by decide +kernel
theorem dX6_step_128 : decode cX6_step 128 = .ok (.ldc2_w 80, 3) := by decide +kernel
theorem dX6_step_131 : decode cX6_step 131 = .ok (.ldc2_w 82, 3) := by decide +kernel
theorem dX6_step_134 : decode cX6_step 134 = .ok (.invokestatic 46, 3) := by decide +kernel
theorem dX6_step_137 : decode cX6_step 137 = .ok (.ifCond .eq 106, 3) := by decide +kernel
theorem dX6_step_140 : decode cX6_step 140 = .ok (.aload_n 0, 1) := by decide +kernel
theorem dX6_step_141 : decode cX6_step 141 = .ok (.aload_n 0, 1) := by decide +kernel
theorem dX6_step_142 : decode cX6_step 142 = .ok (.getfield 66, 3) := by decide +kernel
theorem dX6_step_145 : decode cX6_step 145 = .ok (.invokevirtual 69, 3) := by decide +kernel
theorem dX6_step_148 : decode cX6_step 148 = .ok (.i2l, 1) := by decide +kernel
theorem dX6_step_149 : decode cX6_step 149 = .ok (.ldc2_w 80, 3) := by decide +kernel
theorem dX6_step_152 : decode cX6_step 152 = .ok (.ldc2_w 82, 3) := by decide +kernel
theorem dX6_step_155 : decode cX6_step 155 = .ok (.invokestatic 46, 3) := by decide +kernel
theorem dX6_step_158 : decode cX6_step 158 = .ok (.ifCond .eq 59, 3) := by decide +kernel
theorem dX6_step_161 : decode cX6_step 161 = .ok (.aload_n 0, 1) := by decide +kernel
theorem dX6_step_162 : decode cX6_step 162 = .ok (.aload_n 0, 1) := by decide +kernel
theorem dX6_step_163 : decode cX6_step 163 = .ok (.getfield 66, 3) := by decide +kernel
theorem dX6_step_166 : decode cX6_step 166 = .ok (.aload_n 0, 1) := by decide +kernel
theorem dX6_step_167 : decode cX6_step 167 = .ok (.getfield 57, 3) := by decide +kernel
theorem dX6_step_170 : decode cX6_step 170 = .ok (.isub, 1) := by decide +kernel
theorem dX6_step_171 : decode cX6_step 171 = .ok (.iconst 2, 1) := by decide +kernel
theorem dX6_step_172 : decode cX6_step 172 = .ok (.if_icmp .ge 25, 3) := by decide +kernel
theorem dX6_step_175 : decode cX6_step 175 = .ok (.bipush 10, 2) := by decide +kernel
theorem dX6_step_177 : decode cX6_step 177 = .ok (.aload_n 0, 1) := by decide +kernel
theorem dX6_step_178 : decode cX6_step 178 = .ok (.getfield 73, 3) := by decide +kernel
theorem dX6_step_181 : decode cX6_step 181 = .ok (.imul, 1) := by decide +kernel
theorem dX6_step_182 : decode cX6_step 182 = .ok (.aload_n 0, 1) := by decide +kernel
theorem dX6_step_183 : decode cX6_step 183 = .ok (.aload_n 0, 1) := by decide +kernel
theorem dX6_step_184 : decode cX6_step 184 = .ok (.getfield 66, 3) := by decide +kernel
theorem dX6_step_187 : decode cX6_step 187 = .ok (.invokevirtual 69, 3) := by decide +kernel
theorem dX6_step_190 : decode cX6_step 190 = .ok (.iadd, 1) := by decide +kernel
theorem dX6_step_191 : decode cX6_step 191 = .ok (.bipush 48, 2) := by decide +kernel
theorem dX6_step_193 : decode cX6_step 193 = .ok (.isub, 1) := by decide +kernel
theorem dX6_step_194 : decode cX6_step 194 = .ok (.goto 7, 3) := by decide +kernel
theorem dX6_step_197 : decode cX6_step 197 = .ok (.aload_n 0, 1) := by decide +kernel
theorem dX6_step_198 : decode cX6_step 198 = .ok (.getfield 73, 3) := by decide +kernel
theorem dX6_step_201 : decode cX6_step 201 = .ok (.putfield 73, 3) := by decide +kernel
theorem dX6_step_204 : decode cX6_step 204 = .ok (.aload_n 0, 1) := by decide +kernel
theorem dX6_step_205 : decode cX6_step 205 = .ok (.dup, 1) := by decide +kernel
theorem dX6_step_206 : decode cX6_step 206 = .ok (.getfield 66, 3) := by decide +kernel
theorem dX6_step_209 : decode cX6_step 209 = .ok (.iconst 1, 1) := by decide +kernel
theorem dX6_step_210 : decode cX6_step 210 = .ok (.iadd, 1) := by decide +kernel
theorem dX6_step_211 : decode cX6_step 211 = .ok (.putfield 66, 3) := by decide +kernel
theorem dX6_step_214 : decode cX6_step 214 = .ok (.goto (-74), 3) := by decide +kernel
theorem dX6_step_217 : decode cX6_step 217 = .ok (.aload_n 0, 1) := by decide +kernel
theorem dX6_step_218 : decode cX6_step 218 = .ok (.iconst 2, 1) := by decide +kernel
theorem dX6_step_219 : decode cX6_step 219 = .ok (.putfield 63, 3) := by decide +kernel
theorem dX6_step_222 : decode cX6_step 222 = .ok (.aload_n 0, 1) := by decide +kernel
theorem dX6_step_223 : decode cX6_step 223 = .ok (.getfield 66, 3) := by decide +kernel
theorem dX6_step_226 : decode cX6_step 226 = .ok (.aload_n 0, 1) := by decide +kernel
theorem dX6_step_227 : decode cX6_step 227 = .ok (.getfield 57, 3) := by decide +kernel
theorem dX6_step_230 : decode cX6_step 230 = .ok (.isub, 1) := by decide +kernel
theorem dX6_step_231 : decode cX6_step 231 = .ok (.iconst 2, 1) := by decide +kernel
theorem dX6_step_232 : decode cX6_step 232 = .ok (.if_icmp .le 37, 3) := by decide +kernel
theorem dX6_step_235 : decode cX6_step 235 = .ok (.aload_n 0, 1) := by decide +kernel
theorem dX6_step_236 : decode cX6_step 236 = .ok (.iconst 1, 1) := by decide +kernel
theorem dX6_step_237 : decode cX6_step 237 = .ok (.invokevirtual 84, 3) := by decide +kernel
theorem dX6_step_240 : decode cX6_step 240 = .ok (.goto 29, 3) := by decide +kernel
theorem dX6_step_243 : decode cX6_step 243 = .ok (.aload_n 0, 1) := by decide +kernel
theorem dX6_step_244 : decode cX6_step 244 = .ok (.iconst 3, 1) := by decide +kernel
theorem dX6_step_245 : decode cX6_step 245 = .ok (.putfield 63, 3) := by decide +kernel
theorem dX6_step_248 : decode cX6_step 248 = .ok (.aload_n 0, 1) := by decide +kernel
theorem dX6_step_249 : decode cX6_step 249 = .ok (.dup, 1) := by decide +kernel
theorem dX6_step_250 : decode cX6_step 250 = .ok (.getfield 66, 3) := by decide +kernel
theorem dX6_step_253 : decode cX6_step 253 = .ok (.iconst 1, 1) := by decide +kernel
theorem dX6_step_254 : decode cX6_step 254 = .ok (.iadd, 1) := by decide +kernel
theorem dX6_step_255 : decode cX6_step 255 = .ok (.putfield 66, 3) := by decide +kernel
theorem dX6_step_258 : decode cX6_step 258 = .ok (.iload_n 1, 1) := by decide +kernel
theorem dX6_step_259 : decode cX6_step 259 = .ok (.bipush 59, 2) := by decide +kernel
theorem dX6_step_261 : decode cX6_step 261 = .ok (.if_icmp .eq 8, 3) := by decide +kernel
theorem dX6_step_264 : decode cX6_step 264 = .ok (.aload_n 0, 1) := by decide +kernel
theorem dX6_step_265 : decode cX6_step 265 = .ok (.iconst 1, 1) := by decide +kernel
theorem dX6_step_266 : decode cX6_step 266 = .ok (.invokevirtual 84, 3) := by decide +kernel
theorem dX6_step_269 : decode cX6_step 269 = .ok (.return_, 1) := by decide +kernel
theorem dX6_number_0 : decode cX6_number 0 = .ok (.aload_n 0, 1) := by decide +kernel
theorem dX6_number_1 : decode cX6_number 1 = .ok (.getfield 54, 3) := by decide +kernel
theorem dX6_number_4 : decode cX6_number 4 = .ok (.ifCond .ne 16, 3) := by decide +kernel
theorem dX6_number_7 : decode cX6_number 7 = .ok (.aload_n 0, 1) := by decide +kernel
theorem dX6_number_8 : decode cX6_number 8 = .ok (.getfield 63, 3) := by decide +kernel
theorem dX6_number_11 : decode cX6_number 11 = .ok (.iconst 2, 1) := by decide +kernel
theorem dX6_number_12 : decode cX6_number 12 = .ok (.if_icmp .eq 8, 3) := by decide +kernel
theorem dX6_number_15 : decode cX6_number 15 = .ok (.aload_n 0, 1) := by decide +kernel
theorem dX6_number_16 : decode cX6_number 16 = .ok (.iconst 2, 1) := by decide +kernel
theorem dX6_number_17 : decode cX6_number 17 = .ok (.invokevirtual 84, 3) := by decide +kernel
theorem dX6_number_20 : decode cX6_number 20 = .ok (.aload_n 0, 1) := by decide +kernel
theorem dX6_number_21 : decode cX6_number 21 = .ok (.getfield 54, 3) := by decide +kernel
theorem dX6_number_24 : decode cX6_number 24 = .ok (.ifCond .ne 23, 3) := by decide +kernel
theorem dX6_number_27 : decode cX6_number 27 = .ok (.aload_n 0, 1) := by decide +kernel
theorem dX6_number_28 : decode cX6_number 28 = .ok (.getfield 73, 3) := by decide +kernel
theorem dX6_number_31 : decode cX6_number 31 = .ok (.i2l, 1) := by decide +kernel
theorem dX6_number_32 : decode cX6_number 32 = .ok (.iload_n 1, 1) := by decide +kernel
theorem dX6_number_33 : decode cX6_number 33 = .ok (.i2l, 1) := by decide +kernel
theorem dX6_number_34 : decode cX6_number 34 = .ok (.iload_n 2, 1) := by decide +kernel
theorem dX6_number_35 : decode cX6_number 35 = .ok (.i2l, 1) := by decide +kernel
theorem dX6_number_36 : decode cX6_number 36 = .ok (.invokestatic 46, 3) := by decide +kernel
theorem dX6_number_39 : decode cX6_number 39 = .ok (.ifCond .ne 8, 3) := by decide +kernel
theorem dX6_number_42 : decode cX6_number 42 = .ok (.aload_n 0, 1) := by decide +kernel
theorem dX6_number_43 : decode cX6_number 43 = .ok (.iconst 3, 1) := by decide +kernel
theorem dX6_number_44 : decode cX6_number 44 = .ok (.invokevirtual 84, 3) := by decide +kernel
theorem dX6_number_47 : decode cX6_number 47 = .ok (.aload_n 0, 1) := by decide +kernel
theorem dX6_number_48 : decode cX6_number 48 = .ok (.getfield 54, 3) := by decide +kernel
theorem dX6_number_51 : decode cX6_number 51 = .ok (.ifCond .ne 10, 3) := by decide +kernel
theorem dX6_number_54 : decode cX6_number 54 = .ok (.aload_n 0, 1) := by decide +kernel
theorem dX6_number_55 : decode cX6_number 55 = .ok (.getfield 73, 3) := by decide +kernel
theorem dX6_number_58 : decode cX6_number 58 = .ok (.goto 4, 3) := by decide +kernel
theorem dX6_number_61 : decode cX6_number 61 = .ok (.iload_n 1, 1) := by decide +kernel
theorem dX6_number_62 : decode cX6_number 62 = .ok (.istore_n 3, 1) := by decide +kernel
theorem dX6_number_63 : decode cX6_number 63 = .ok (.aload_n 0, 1) := by decide +kernel
theorem dX6_number_64 : decode cX6_number 64 = .ok (.invokevirtual 88, 3) := by decide +kernel
theorem dX6_number_67 : decode cX6_number 67 = .ok (.iload_n 3, 1) := by decide +kernel
theorem dX6_number_68 : decode cX6_number 68 = .ok (.ireturn, 1) := by decide +kernel
theorem dX6_readMore_0 : decode cX6_readMore 0 = .ok (.iload_n 1, 1) := by decide +kernel
theorem dX6_readMore_1 : decode cX6_readMore 1 = .ok (.iconst 4, 1) := by decide +kernel
theorem dX6_readMore_2 : decode cX6_readMore 2 = .ok (.if_icmp .ne 18, 3) := by decide +kernel
theorem dX6_readMore_5 : decode cX6_readMore 5 = .ok (.aload_n 0, 1) := by decide +kernel
theorem dX6_readMore_6 : decode cX6_readMore 6 = .ok (.getfield 13, 3) := by decide +kernel
theorem dX6_readMore_9 : decode cX6_readMore 9 = .ok (.bipush 21, 2) := by decide +kernel
theorem dX6_readMore_11 : decode cX6_readMore 11 = .ok (.aload_n 0, 1) := by decide +kernel
theorem dX6_readMore_12 : decode cX6_readMore 12 = .ok (.iconst 0, 1) := by decide +kernel
theorem dX6_readMore_13 : decode cX6_readMore 13 = .ok (.bipush 99, 2) := by decide +kernel
theorem dX6_readMore_15 : decode cX6_readMore 15 = .ok (.invokevirtual 91, 3) := by decide +kernel
theorem dX6_readMore_18 : decode cX6_readMore 18 = .ok (.iastore, 1) := by decide +kernel
theorem dX6_readMore_19 : decode cX6_readMore 19 = .ok (.return_, 1) := by decide +kernel
theorem dX6_readMore_20 : decode cX6_readMore 20 = .ok (.aload_n 0, 1) := by decide +kernel
theorem dX6_readMore_21 : decode cX6_readMore 21 = .ok (.getfield 13, 3) := by decide +kernel
theorem dX6_readMore_24 : decode cX6_readMore 24 = .ok (.bipush 20, 2) := by decide +kernel
theorem dX6_readMore_26 : decode cX6_readMore 26 = .ok (.iaload, 1) := by decide +kernel
theorem dX6_readMore_27 : decode cX6_readMore 27 = .ok (.istore_n 2, 1) := by decide +kernel
theorem dX6_readMore_28 : decode cX6_readMore 28 = .ok (.aload_n 0, 1) := by decide +kernel
theorem dX6_readMore_29 : decode cX6_readMore 29 = .ok (.iconst 2, 1) := by decide +kernel
theorem dX6_readMore_30 : decode cX6_readMore 30 = .ok (.bipush 12, 2) := by decide +kernel
theorem dX6_readMore_32 : decode cX6_readMore 32 = .ok (.invokevirtual 91, 3) := by decide +kernel
theorem dX6_readMore_35 : decode cX6_readMore 35 = .ok (.istore_n 3, 1) := by decide +kernel
theorem dX6_readMore_36 : decode cX6_readMore 36 = .ok (.aload_n 0, 1) := by decide +kernel
theorem dX6_readMore_37 : decode cX6_readMore 37 = .ok (.getfield 13, 3) := by decide +kernel
theorem dX6_readMore_40 : decode cX6_readMore 40 = .ok (.iload_n 2, 1) := by decide +kernel
theorem dX6_readMore_41 : decode cX6_readMore 41 = .ok (.iload_n 1, 1) := by decide +kernel
theorem dX6_readMore_42 : decode cX6_readMore 42 = .ok (.iastore, 1) := by decide +kernel
theorem dX6_readMore_43 : decode cX6_readMore 43 = .ok (.aload_n 0, 1) := by decide +kernel
theorem dX6_readMore_44 : decode cX6_readMore 44 = .ok (.getfield 13, 3) := by decide +kernel
theorem dX6_readMore_47 : decode cX6_readMore 47 = .ok (.iconst 5, 1) := by decide +kernel
theorem dX6_readMore_48 : decode cX6_readMore 48 = .ok (.iload_n 2, 1) := by decide +kernel
theorem dX6_readMore_49 : decode cX6_readMore 49 = .ok (.iadd, 1) := by decide +kernel
theorem dX6_readMore_50 : decode cX6_readMore 50 = .ok (.iload_n 3, 1) := by decide +kernel
theorem dX6_readMore_51 : decode cX6_readMore 51 = .ok (.iastore, 1) := by decide +kernel
theorem dX6_readMore_52 : decode cX6_readMore 52 = .ok (.aload_n 0, 1) := by decide +kernel
theorem dX6_readMore_53 : decode cX6_readMore 53 = .ok (.getfield 13, 3) := by decide +kernel
theorem dX6_readMore_56 : decode cX6_readMore 56 = .ok (.bipush 10, 2) := by decide +kernel
theorem dX6_readMore_58 : decode cX6_readMore 58 = .ok (.iload_n 2, 1) := by decide +kernel
theorem dX6_readMore_59 : decode cX6_readMore 59 = .ok (.iadd, 1) := by decide +kernel
theorem dX6_readMore_60 : decode cX6_readMore 60 = .ok (.aload_n 0, 1) := by decide +kernel
theorem dX6_readMore_61 : decode cX6_readMore 61 = .ok (.iconst 0, 1) := by decide +kernel
theorem dX6_readMore_62 : decode cX6_readMore 62 = .ok (.iload_n 3, 1) := by decide +kernel
theorem dX6_readMore_63 : decode cX6_readMore 63 = .ok (.iconst 1, 1) := by decide +kernel
theorem dX6_readMore_64 : decode cX6_readMore 64 = .ok (.isub, 1) := by decide +kernel
theorem dX6_readMore_65 : decode cX6_readMore 65 = .ok (.invokevirtual 91, 3) := by decide +kernel
theorem dX6_readMore_68 : decode cX6_readMore 68 = .ok (.iastore, 1) := by decide +kernel
theorem dX6_readMore_69 : decode cX6_readMore 69 = .ok (.aload_n 0, 1) := by decide +kernel
theorem dX6_readMore_70 : decode cX6_readMore 70 = .ok (.getfield 54, 3) := by decide +kernel
theorem dX6_readMore_73 : decode cX6_readMore 73 = .ok (.ifCond .ne 31, 3) := by decide +kernel
theorem dX6_readMore_76 : decode cX6_readMore 76 = .ok (.aload_n 0, 1) := by decide +kernel
theorem dX6_readMore_77 : decode cX6_readMore 77 = .ok (.getfield 63, 3) := by decide +kernel
theorem dX6_readMore_80 : decode cX6_readMore 80 = .ok (.iconst 2, 1) := by decide +kernel
theorem dX6_readMore_81 : decode cX6_readMore 81 = .ok (.if_icmp .ne 23, 3) := by decide +kernel
theorem dX6_readMore_84 : decode cX6_readMore 84 = .ok (.aload_n 0, 1) := by decide +kernel
theorem dX6_readMore_85 : decode cX6_readMore 85 = .ok (.getfield 13, 3) := by decide +kernel
theorem dX6_readMore_88 : decode cX6_readMore 88 = .ok (.bipush 15, 2) := by decide +kernel
theorem dX6_readMore_90 : decode cX6_readMore 90 = .ok (.iload_n 2, 1) := by decide +kernel
theorem dX6_readMore_91 : decode cX6_readMore 91 = .ok (.iadd, 1) := by decide +kernel
theorem dX6_readMore_92 : decode cX6_readMore 92 = .ok (.aload_n 0, 1) := by decide +kernel
theorem dX6_readMore_93 : decode cX6_readMore 93 = .ok (.iconst 0, 1) := by decide +kernel
theorem dX6_readMore_94 : decode cX6_readMore 94 = .ok (.iload_n 3, 1) := by decide +kernel
theorem dX6_readMore_95 : decode cX6_readMore 95 = .ok (.iconst 1, 1) := by decide +kernel
theorem dX6_readMore_96 : decode cX6_readMore 96 = .ok (.isub, 1) := by decide +kernel
theorem dX6_readMore_97 : decode cX6_readMore 97 = .ok (.invokevirtual 91, 3) := by decide +kernel
theorem dX6_readMore_100 : decode cX6_readMore 100 = .ok (.bipush 12, 2) := by decide +kernel
theorem dX6_readMore_102 : decode cX6_readMore 102 = .ok (.isub, 1) := by decide +kernel
theorem dX6_readMore_103 : decode cX6_readMore 103 = .ok (.iastore, 1) := by decide +kernel
theorem dX6_readMore_104 : decode cX6_readMore 104 = .ok (.aload_n 0, 1) := by decide +kernel
theorem dX6_readMore_105 : decode cX6_readMore 105 = .ok (.getfield 13, 3) := by decide +kernel
theorem dX6_readMore_108 : decode cX6_readMore 108 = .ok (.bipush 20, 2) := by decide +kernel
theorem dX6_readMore_110 : decode cX6_readMore 110 = .ok (.dup2, 1) := by decide +kernel
theorem dX6_readMore_111 : decode cX6_readMore 111 = .ok (.iaload, 1) := by decide +kernel
theorem dX6_readMore_112 : decode cX6_readMore 112 = .ok (.iconst 1, 1) := by decide +kernel
theorem dX6_readMore_113 : decode cX6_readMore 113 = .ok (.iadd, 1) := by decide +kernel
theorem dX6_readMore_114 : decode cX6_readMore 114 = .ok (.iastore, 1) := by decide +kernel
theorem dX6_readMore_115 : decode cX6_readMore 115 = .ok (.return_, 1) := by decide +kernel
theorem dX6_readLine_0 : decode cX6_readLine 0 = .ok (.aload_n 0, 1) := by decide +kernel
theorem dX6_readLine_1 : decode cX6_readLine 1 = .ok (.invokevirtual 95, 3) := by decide +kernel
theorem dX6_readLine_4 : decode cX6_readLine 4 = .ok (.istore_n 1, 1) := by decide +kernel
theorem dX6_readLine_5 : decode cX6_readLine 5 = .ok (.iload_n 1, 1) := by decide +kernel
theorem dX6_readLine_6 : decode cX6_readLine 6 = .ok (.i2l, 1) := by decide +kernel
theorem dX6_readLine_7 : decode cX6_readLine 7 = .ok (.lconst 0, 1) := by decide +kernel
theorem dX6_readLine_8 : decode cX6_readLine 8 = .ok (.ldc2_w 99, 3) := by decide +kernel
theorem dX6_readLine_11 : decode cX6_readLine 11 = .ok (.invokestatic 46, 3) := by decide +kernel
theorem dX6_readLine_14 : decode cX6_readLine 14 = .ok (.ifCond .ne 9, 3) := by decide +kernel
theorem dX6_readLine_17 : decode cX6_readLine 17 = .ok (.aload_n 0, 1) := by decide +kernel
theorem dX6_readLine_18 : decode cX6_readLine 18 = .ok (.iconst 2, 1) := by decide +kernel
theorem dX6_readLine_19 : decode cX6_readLine 19 = .ok (.invokevirtual 84, 3) := by decide +kernel
theorem dX6_readLine_22 : decode cX6_readLine 22 = .ok (.return_, 1) := by decide +kernel
theorem dX6_readLine_23 : decode cX6_readLine 23 = .ok (.iload_n 1, 1) := by decide +kernel
theorem dX6_readLine_24 : decode cX6_readLine 24 = .ok (.iconst 3, 1) := by decide +kernel
theorem dX6_readLine_25 : decode cX6_readLine 25 = .ok (.if_icmp .gt 19, 3) := by decide +kernel
theorem dX6_readLine_28 : decode cX6_readLine 28 = .ok (.aload_n 0, 1) := by decide +kernel
theorem dX6_readLine_29 : decode cX6_readLine 29 = .ok (.getfield 13, 3) := by decide +kernel
theorem dX6_readLine_32 : decode cX6_readLine 32 = .ok (.bipush 20, 2) := by decide +kernel
theorem dX6_readLine_34 : decode cX6_readLine 34 = .ok (.iaload, 1) := by decide +kernel
theorem dX6_readLine_35 : decode cX6_readLine 35 = .ok (.iconst 5, 1) := by decide +kernel
theorem dX6_readLine_36 : decode cX6_readLine 36 = .ok (.if_icmp .ne 8, 3) := by decide +kernel
theorem dX6_readLine_39 : decode cX6_readLine 39 = .ok (.aload_n 0, 1) := by decide +kernel
theorem dX6_readLine_40 : decode cX6_readLine 40 = .ok (.iconst 5, 1) := by decide +kernel
theorem dX6_readLine_41 : decode cX6_readLine 41 = .ok (.invokevirtual 84, 3) := by decide +kernel
theorem dX6_readLine_44 : decode cX6_readLine 44 = .ok (.iload_n 1, 1) := by decide +kernel
theorem dX6_readLine_45 : decode cX6_readLine 45 = .ok (.iconst 4, 1) := by decide +kernel
theorem dX6_readLine_46 : decode cX6_readLine 46 = .ok (.if_icmp .ne 15, 3) := by decide +kernel
theorem dX6_readLine_49 : decode cX6_readLine 49 = .ok (.aload_n 0, 1) := by decide +kernel
theorem dX6_readLine_50 : decode cX6_readLine 50 = .ok (.getfield 101, 3) := by decide +kernel
theorem dX6_readLine_53 : decode cX6_readLine 53 = .ok (.ifCond .eq 8, 3) := by decide +kernel
theorem dX6_readLine_56 : decode cX6_readLine 56 = .ok (.aload_n 0, 1) := by decide +kernel
theorem dX6_readLine_57 : decode cX6_readLine 57 = .ok (.iconst 4, 1) := by decide +kernel
theorem dX6_readLine_58 : decode cX6_readLine 58 = .ok (.invokevirtual 84, 3) := by decide +kernel
theorem dX6_readLine_61 : decode cX6_readLine 61 = .ok (.aload_n 0, 1) := by decide +kernel
theorem dX6_readLine_62 : decode cX6_readLine 62 = .ok (.aload_n 0, 1) := by decide +kernel
theorem dX6_readLine_63 : decode cX6_readLine 63 = .ok (.getfield 101, 3) := by decide +kernel
theorem dX6_readLine_66 : decode cX6_readLine 66 = .ok (.ifCond .ne 8, 3) := by decide +kernel
theorem dX6_readLine_69 : decode cX6_readLine 69 = .ok (.iload_n 1, 1) := by decide +kernel
theorem dX6_readLine_70 : decode cX6_readLine 70 = .ok (.iconst 4, 1) := by decide +kernel
theorem dX6_readLine_71 : decode cX6_readLine 71 = .ok (.if_icmp .ne 7, 3) := by decide +kernel
theorem dX6_readLine_74 : decode cX6_readLine 74 = .ok (.iconst 1, 1) := by decide +kernel
theorem dX6_readLine_75 : decode cX6_readLine 75 = .ok (.goto 4, 3) := by decide +kernel
theorem dX6_readLine_78 : decode cX6_readLine 78 = .ok (.iconst 0, 1) := by decide +kernel
theorem dX6_readLine_79 : decode cX6_readLine 79 = .ok (.putfield 101, 3) := by decide +kernel
theorem dX6_readLine_82 : decode cX6_readLine 82 = .ok (.aload_n 0, 1) := by decide +kernel
theorem dX6_readLine_83 : decode cX6_readLine 83 = .ok (.invokevirtual 88, 3) := by decide +kernel
theorem dX6_readLine_86 : decode cX6_readLine 86 = .ok (.aload_n 0, 1) := by decide +kernel
theorem dX6_readLine_87 : decode cX6_readLine 87 = .ok (.getfield 54, 3) := by decide +kernel
theorem dX6_readLine_90 : decode cX6_readLine 90 = .ok (.ifCond .le 4, 3) := by decide +kernel
theorem dX6_readLine_93 : decode cX6_readLine 93 = .ok (.return_, 1) := by decide +kernel
theorem dX6_readLine_94 : decode cX6_readLine 94 = .ok (.aload_n 0, 1) := by decide +kernel
theorem dX6_readLine_95 : decode cX6_readLine 95 = .ok (.iload_n 1, 1) := by decide +kernel
theorem dX6_readLine_96 : decode cX6_readLine 96 = .ok (.invokevirtual 105, 3) := by decide +kernel
theorem dX6_readLine_99 : decode cX6_readLine 99 = .ok (.aload_n 0, 1) := by decide +kernel
theorem dX6_readLine_100 : decode cX6_readLine 100 = .ok (.getfield 54, 3) := by decide +kernel
theorem dX6_readLine_103 : decode cX6_readLine 103 = .ok (.ifCond .ne 16, 3) := by decide +kernel
theorem dX6_readLine_106 : decode cX6_readLine 106 = .ok (.aload_n 0, 1) := by decide +kernel
theorem dX6_readLine_107 : decode cX6_readLine 107 = .ok (.getfield 63, 3) := by decide +kernel
theorem dX6_readLine_110 : decode cX6_readLine 110 = .ok (.iconst 3, 1) := by decide +kernel
theorem dX6_readLine_111 : decode cX6_readLine 111 = .ok (.if_icmp .eq 8, 3) := by decide +kernel
theorem dX6_readLine_114 : decode cX6_readLine 114 = .ok (.aload_n 0, 1) := by decide +kernel
theorem dX6_readLine_115 : decode cX6_readLine 115 = .ok (.iconst 2, 1) := by decide +kernel
theorem dX6_readLine_116 : decode cX6_readLine 116 = .ok (.invokevirtual 84, 3) := by decide +kernel
theorem dX6_readLine_119 : decode cX6_readLine 119 = .ok (.aload_n 0, 1) := by decide +kernel
theorem dX6_readLine_120 : decode cX6_readLine 120 = .ok (.invokevirtual 88, 3) := by decide +kernel
theorem dX6_readLine_123 : decode cX6_readLine 123 = .ok (.return_, 1) := by decide +kernel
theorem dX6_text_0 : decode cX6_text 0 = .ok (.aload_n 0, 1) := by decide +kernel
theorem dX6_text_1 : decode cX6_text 1 = .ok (.iconst 0, 1) := by decide +kernel
theorem dX6_text_2 : decode cX6_text 2 = .ok (.putfield 54, 3) := by decide +kernel
theorem dX6_text_5 : decode cX6_text 5 = .ok (.aload_n 0, 1) := by decide +kernel
theorem dX6_text_6 : decode cX6_text 6 = .ok (.iconst 0, 1) := by decide +kernel
theorem dX6_text_7 : decode cX6_text 7 = .ok (.putfield 66, 3) := by decide +kernel
theorem dX6_text_10 : decode cX6_text 10 = .ok (.aload_n 0, 1) := by decide +kernel
theorem dX6_text_11 : decode cX6_text 11 = .ok (.iconst 0, 1) := by decide +kernel
theorem dX6_text_12 : decode cX6_text 12 = .ok (.putfield 101, 3) := by decide +kernel
theorem dX6_text_15 : decode cX6_text 15 = .ok (.iconst 0, 1) := by decide +kernel
theorem dX6_text_16 : decode cX6_text 16 = .ok (.istore_n 1, 1) := by decide +kernel
theorem dX6_text_17 : decode cX6_text 17 = .ok (.iconst 0, 1) := by decide +kernel
theorem dX6_text_18 : decode cX6_text 18 = .ok (.istore_n 2, 1) := by decide +kernel
theorem dX6_text_19 : decode cX6_text 19 = .ok (.iload_n 2, 1) := by decide +kernel
theorem dX6_text_20 : decode cX6_text 20 = .ok (.bipush 22, 2) := by decide +kernel
theorem dX6_text_22 : decode cX6_text 22 = .ok (.if_icmp .ge 16, 3) := by decide +kernel
theorem dX6_text_25 : decode cX6_text 25 = .ok (.aload_n 0, 1) := by decide +kernel
theorem dX6_text_26 : decode cX6_text 26 = .ok (.getfield 13, 3) := by decide +kernel
theorem dX6_text_29 : decode cX6_text 29 = .ok (.iload_n 2, 1) := by decide +kernel
theorem dX6_text_30 : decode cX6_text 30 = .ok (.iconst 0, 1) := by decide +kernel
theorem dX6_text_31 : decode cX6_text 31 = .ok (.iastore, 1) := by decide +kernel
theorem dX6_text_32 : decode cX6_text 32 = .ok (.iinc 2 1, 3) := by decide +kernel
theorem dX6_text_35 : decode cX6_text 35 = .ok (.goto (-16), 3) := by decide +kernel
theorem dX6_text_38 : decode cX6_text 38 = .ok (.aload_n 0, 1) := by decide +kernel
theorem dX6_text_39 : decode cX6_text 39 = .ok (.invokevirtual 88, 3) := by decide +kernel
theorem dX6_text_42 : decode cX6_text 42 = .ok (.aload_n 0, 1) := by decide +kernel
theorem dX6_text_43 : decode cX6_text 43 = .ok (.getfield 54, 3) := by decide +kernel
theorem dX6_text_46 : decode cX6_text 46 = .ok (.ifCond .ne 20, 3) := by decide +kernel
theorem dX6_text_49 : decode cX6_text 49 = .ok (.aload_n 0, 1) := by decide +kernel
theorem dX6_text_50 : decode cX6_text 50 = .ok (.getfield 63, 3) := by decide +kernel
theorem dX6_text_53 : decode cX6_text 53 = .ok (.ifCond .eq 13, 3) := by decide +kernel
theorem dX6_text_56 : decode cX6_text 56 = .ok (.aload_n 0, 1) := by decide +kernel
theorem dX6_text_57 : decode cX6_text 57 = .ok (.invokevirtual 108, 3) := by decide +kernel
theorem dX6_text_60 : decode cX6_text 60 = .ok (.iinc 1 1, 3) := by decide +kernel
theorem dX6_text_63 : decode cX6_text 63 = .ok (.goto (-21), 3) := by decide +kernel
theorem dX6_text_66 : decode cX6_text 66 = .ok (.aload_n 0, 1) := by decide +kernel
theorem dX6_text_67 : decode cX6_text 67 = .ok (.iconst 0, 1) := by decide +kernel
theorem dX6_text_68 : decode cX6_text 68 = .ok (.putfield 50, 3) := by decide +kernel
theorem dX6_text_71 : decode cX6_text 71 = .ok (.aload_n 0, 1) := by decide +kernel
theorem dX6_text_72 : decode cX6_text 72 = .ok (.aload_n 0, 1) := by decide +kernel
theorem dX6_text_73 : decode cX6_text 73 = .ok (.getfield 54, 3) := by decide +kernel
theorem dX6_text_76 : decode cX6_text 76 = .ok (.putfield 111, 3) := by decide +kernel
theorem dX6_text_79 : decode cX6_text 79 = .ok (.aload_n 0, 1) := by decide +kernel
theorem dX6_text_80 : decode cX6_text 80 = .ok (.getfield 54, 3) := by decide +kernel
theorem dX6_text_83 : decode cX6_text 83 = .ok (.ifCond .le 11, 3) := by decide +kernel
theorem dX6_text_86 : decode cX6_text 86 = .ok (.bipush (-10), 2) := by decide +kernel
theorem dX6_text_88 : decode cX6_text 88 = .ok (.aload_n 0, 1) := by decide +kernel
theorem dX6_text_89 : decode cX6_text 89 = .ok (.getfield 60, 3) := by decide +kernel
theorem dX6_text_92 : decode cX6_text 92 = .ok (.isub, 1) := by decide +kernel
theorem dX6_text_93 : decode cX6_text 93 = .ok (.ireturn, 1) := by decide +kernel
theorem dX6_text_94 : decode cX6_text 94 = .ok (.iconst 0, 1) := by decide +kernel
theorem dX6_text_95 : decode cX6_text 95 = .ok (.istore_n 2, 1) := by decide +kernel
theorem dX6_text_96 : decode cX6_text 96 = .ok (.iload_n 2, 1) := by decide +kernel
theorem dX6_text_97 : decode cX6_text 97 = .ok (.bipush 22, 2) := by decide +kernel
theorem dX6_text_99 : decode cX6_text 99 = .ok (.if_icmp .ge 21, 3) := by decide +kernel
theorem dX6_text_102 : decode cX6_text 102 = .ok (.aload_n 0, 1) := by decide +kernel
theorem dX6_text_103 : decode cX6_text 103 = .ok (.getfield 7, 3) := by decide +kernel
theorem dX6_text_106 : decode cX6_text 106 = .ok (.iload_n 2, 1) := by decide +kernel
theorem dX6_text_107 : decode cX6_text 107 = .ok (.aload_n 0, 1) := by decide +kernel
theorem dX6_text_108 : decode cX6_text 108 = .ok (.getfield 13, 3) := by decide +kernel
theorem dX6_text_111 : decode cX6_text 111 = .ok (.iload_n 2, 1) := by decide +kernel
theorem dX6_text_112 : decode cX6_text 112 = .ok (.iaload, 1) := by decide +kernel
theorem dX6_text_113 : decode cX6_text 113 = .ok (.iastore, 1) := by decide +kernel
theorem dX6_text_114 : decode cX6_text 114 = .ok (.iinc 2 1, 3) := by decide +kernel
theorem dX6_text_117 : decode cX6_text 117 = .ok (.goto (-21), 3) := by decide +kernel
theorem dX6_text_120 : decode cX6_text 120 = .ok (.aload_n 0, 1) := by decide +kernel
theorem dX6_text_121 : decode cX6_text 121 = .ok (.iconst 0, 1) := by decide +kernel
theorem dX6_text_122 : decode cX6_text 122 = .ok (.putfield 114, 3) := by decide +kernel
theorem dX6_text_125 : decode cX6_text 125 = .ok (.aload_n 0, 1) := by decide +kernel
theorem dX6_text_126 : decode cX6_text 126 = .ok (.getfield 31, 3) := by decide +kernel
theorem dX6_text_129 : decode cX6_text 129 = .ok (.iconst 0, 1) := by decide +kernel
theorem dX6_text_130 : decode cX6_text 130 = .ok (.iconst 0, 1) := by decide +kernel
theorem dX6_text_131 : decode cX6_text 131 = .ok (.bastore, 1) := by decide +kernel
theorem dX6_text_132 : decode cX6_text 132 = .ok (.aload_n 0, 1) := by decide +kernel
theorem dX6_text_133 : decode cX6_text 133 = .ok (.getfield 31, 3) := by decide +kernel
theorem dX6_text_136 : decode cX6_text 136 = .ok (.iconst 1, 1) := by decide +kernel
theorem dX6_text_137 : decode cX6_text 137 = .ok (.iconst 0, 1) := by decide +kernel
theorem dX6_text_138 : decode cX6_text 138 = .ok (.bastore, 1) := by decide +kernel
theorem dX6_text_139 : decode cX6_text 139 = .ok (.iload_n 1, 1) := by decide +kernel
theorem dX6_text_140 : decode cX6_text 140 = .ok (.ireturn, 1) := by decide +kernel
theorem dX6_fault_0 : decode cX6_fault 0 = .ok (.aload_n 0, 1) := by decide +kernel
theorem dX6_fault_1 : decode cX6_fault 1 = .ok (.getfield 111, 3) := by decide +kernel
theorem dX6_fault_4 : decode cX6_fault 4 = .ok (.ireturn, 1) := by decide +kernel
theorem dX6_isWheel_0 : decode cX6_isWheel 0 = .ok (.iload_n 1, 1) := by decide +kernel
theorem dX6_isWheel_1 : decode cX6_isWheel 1 = .ok (.i2l, 1) := by decide +kernel
theorem dX6_isWheel_2 : decode cX6_isWheel 2 = .ok (.lconst 0, 1) := by decide +kernel
theorem dX6_isWheel_3 : decode cX6_isWheel 3 = .ok (.aload_n 0, 1) := by decide +kernel
theorem dX6_isWheel_4 : decode cX6_isWheel 4 = .ok (.getfield 7, 3) := by decide +kernel
theorem dX6_isWheel_7 : decode cX6_isWheel 7 = .ok (.bipush 20, 2) := by decide +kernel
theorem dX6_isWheel_9 : decode cX6_isWheel 9 = .ok (.iaload, 1) := by decide +kernel
theorem dX6_isWheel_10 : decode cX6_isWheel 10 = .ok (.iconst 1, 1) := by decide +kernel
theorem dX6_isWheel_11 : decode cX6_isWheel 11 = .ok (.isub, 1) := by decide +kernel
theorem dX6_isWheel_12 : decode cX6_isWheel 12 = .ok (.i2l, 1) := by decide +kernel
theorem dX6_isWheel_13 : decode cX6_isWheel 13 = .ok (.invokestatic 46, 3) := by decide +kernel
theorem dX6_isWheel_16 : decode cX6_isWheel 16 = .ok (.ireturn, 1) := by decide +kernel
theorem dX6_isDigit_0 : decode cX6_isDigit 0 = .ok (.iload_n 0, 1) := by decide +kernel
theorem dX6_isDigit_1 : decode cX6_isDigit 1 = .ok (.i2l, 1) := by decide +kernel
theorem dX6_isDigit_2 : decode cX6_isDigit 2 = .ok (.lconst 0, 1) := by decide +kernel
theorem dX6_isDigit_3 : decode cX6_isDigit 3 = .ok (.ldc2_w 117, 3) := by decide +kernel
theorem dX6_isDigit_6 : decode cX6_isDigit 6 = .ok (.invokestatic 46, 3) := by decide +kernel
theorem dX6_isDigit_9 : decode cX6_isDigit 9 = .ok (.ireturn, 1) := by decide +kernel
theorem dX6_isReading_0 : decode cX6_isReading 0 = .ok (.iload_n 0, 1) := by decide +kernel
theorem dX6_isReading_1 : decode cX6_isReading 1 = .ok (.i2l, 1) := by decide +kernel
theorem dX6_isReading_2 : decode cX6_isReading 2 = .ok (.lconst 0, 1) := by decide +kernel
theorem dX6_isReading_3 : decode cX6_isReading 3 = .ok (.ldc2_w 119, 3) := by decide +kernel
theorem dX6_isReading_6 : decode cX6_isReading 6 = .ok (.invokestatic 46, 3) := by decide +kernel
theorem dX6_isReading_9 : decode cX6_isReading 9 = .ok (.ireturn, 1) := by decide +kernel
theorem dX6_turnsOn_0 : decode cX6_turnsOn 0 = .ok (.aload_n 0, 1) := by decide +kernel
theorem dX6_turnsOn_1 : decode cX6_turnsOn 1 = .ok (.getfield 7, 3) := by decide +kernel
theorem dX6_turnsOn_4 : decode cX6_turnsOn 4 = .ok (.iload_n 1, 1) := by decide +kernel
theorem dX6_turnsOn_5 : decode cX6_turnsOn 5 = .ok (.iload_n 2, 1) := by decide +kernel
theorem dX6_turnsOn_6 : decode cX6_turnsOn 6 = .ok (.iadd, 1) := by decide +kernel
theorem dX6_turnsOn_7 : decode cX6_turnsOn 7 = .ok (.iaload, 1) := by decide +kernel
theorem dX6_turnsOn_8 : decode cX6_turnsOn 8 = .ok (.istore_n 3, 1) := by decide +kernel
theorem dX6_turnsOn_9 : decode cX6_turnsOn 9 = .ok (.aload_n 0, 1) := by decide +kernel
theorem dX6_turnsOn_10 : decode cX6_turnsOn 10 = .ok (.getfield 7, 3) := by decide +kernel
theorem dX6_turnsOn_13 : decode cX6_turnsOn 13 = .ok (.iload_n 1, 1) := by decide +kernel
theorem dX6_turnsOn_14 : decode cX6_turnsOn 14 = .ok (.iconst 5, 1) := by decide +kernel
theorem dX6_turnsOn_15 : decode cX6_turnsOn 15 = .ok (.iadd, 1) := by decide +kernel
theorem dX6_turnsOn_16 : decode cX6_turnsOn 16 = .ok (.iload_n 2, 1) := by decide +kernel
theorem dX6_turnsOn_17 : decode cX6_turnsOn 17 = .ok (.iadd, 1) := by decide +kernel
theorem dX6_turnsOn_18 : decode cX6_turnsOn 18 = .ok (.iaload, 1) := by decide +kernel
theorem dX6_turnsOn_19 : decode cX6_turnsOn 19 = .ok (.istore 4, 2) := by decide +kernel
theorem dX6_turnsOn_21 : decode cX6_turnsOn 21 = .ok (.aload_n 0, 1) := by decide +kernel
theorem dX6_turnsOn_22 : decode cX6_turnsOn 22 = .ok (.getfield 7, 3) := by decide +kernel
theorem dX6_turnsOn_25 : decode cX6_turnsOn 25 = .ok (.iload_n 1, 1) := by decide +kernel
theorem dX6_turnsOn_26 : decode cX6_turnsOn 26 = .ok (.bipush 10, 2) := by decide +kernel
theorem dX6_turnsOn_28 : decode cX6_turnsOn 28 = .ok (.iadd, 1) := by decide +kernel
theorem dX6_turnsOn_29 : decode cX6_turnsOn 29 = .ok (.iload_n 2, 1) := by decide +kernel
theorem dX6_turnsOn_30 : decode cX6_turnsOn 30 = .ok (.iadd, 1) := by decide +kernel
theorem dX6_turnsOn_31 : decode cX6_turnsOn 31 = .ok (.iaload, 1) := by decide +kernel
theorem dX6_turnsOn_32 : decode cX6_turnsOn 32 = .ok (.istore 5, 2) := by decide +kernel
theorem dX6_turnsOn_34 : decode cX6_turnsOn 34 = .ok (.iload 5, 2) := by decide +kernel
theorem dX6_turnsOn_36 : decode cX6_turnsOn 36 = .ok (.iload_n 3, 1) := by decide +kernel
theorem dX6_turnsOn_37 : decode cX6_turnsOn 37 = .ok (.ifCond .ne 7, 3) := by decide +kernel
theorem dX6_turnsOn_40 : decode cX6_turnsOn 40 = .ok (.iconst 1, 1) := by decide +kernel
theorem dX6_turnsOn_41 : decode cX6_turnsOn 41 = .ok (.goto 16, 3) := by decide +kernel
theorem dX6_turnsOn_44 : decode cX6_turnsOn 44 = .ok (.iload_n 3, 1) := by decide +kernel
theorem dX6_turnsOn_45 : decode cX6_turnsOn 45 = .ok (.iconst 1, 1) := by decide +kernel
theorem dX6_turnsOn_46 : decode cX6_turnsOn 46 = .ok (.if_icmp .ne 7, 3) := by decide +kernel
theorem dX6_turnsOn_49 : decode cX6_turnsOn 49 = .ok (.iconst 2, 1) := by decide +kernel
theorem dX6_turnsOn_50 : decode cX6_turnsOn 50 = .ok (.goto 7, 3) := by decide +kernel
theorem dX6_turnsOn_53 : decode cX6_turnsOn 53 = .ok (.iload 4, 2) := by decide +kernel
theorem dX6_turnsOn_55 : decode cX6_turnsOn 55 = .ok (.iconst 1, 1) := by decide +kernel
theorem dX6_turnsOn_56 : decode cX6_turnsOn 56 = .ok (.isub, 1) := by decide +kernel
theorem dX6_turnsOn_57 : decode cX6_turnsOn 57 = .ok (.iadd, 1) := by decide +kernel
theorem dX6_turnsOn_58 : decode cX6_turnsOn 58 = .ok (.iload 4, 2) := by decide +kernel
theorem dX6_turnsOn_60 : decode cX6_turnsOn 60 = .ok (.irem, 1) := by decide +kernel
theorem dX6_turnsOn_61 : decode cX6_turnsOn 61 = .ok (.ireturn, 1) := by decide +kernel
theorem dX6_carriesOn_0 : decode cX6_carriesOn 0 = .ok (.aload_n 0, 1) := by decide +kernel
theorem dX6_carriesOn_1 : decode cX6_carriesOn 1 = .ok (.getfield 7, 3) := by decide +kernel
theorem dX6_carriesOn_4 : decode cX6_carriesOn 4 = .ok (.iload_n 1, 1) := by decide +kernel
theorem dX6_carriesOn_5 : decode cX6_carriesOn 5 = .ok (.iload_n 2, 1) := by decide +kernel
theorem dX6_carriesOn_6 : decode cX6_carriesOn 6 = .ok (.iadd, 1) := by decide +kernel
theorem dX6_carriesOn_7 : decode cX6_carriesOn 7 = .ok (.iaload, 1) := by decide +kernel
theorem dX6_carriesOn_8 : decode cX6_carriesOn 8 = .ok (.istore_n 3, 1) := by decide +kernel
theorem dX6_carriesOn_9 : decode cX6_carriesOn 9 = .ok (.aload_n 0, 1) := by decide +kernel
theorem dX6_carriesOn_10 : decode cX6_carriesOn 10 = .ok (.getfield 7, 3) := by decide +kernel
theorem dX6_carriesOn_13 : decode cX6_carriesOn 13 = .ok (.iload_n 1, 1) := by decide +kernel
theorem dX6_carriesOn_14 : decode cX6_carriesOn 14 = .ok (.iconst 5, 1) := by decide +kernel
theorem dX6_carriesOn_15 : decode cX6_carriesOn 15 = .ok (.iadd, 1) := by decide +kernel
theorem dX6_carriesOn_16 : decode cX6_carriesOn 16 = .ok (.iload_n 2, 1) := by decide +kernel
theorem dX6_carriesOn_17 : decode cX6_carriesOn 17 = .ok (.iadd, 1) := by decide +kernel
theorem dX6_carriesOn_18 : decode cX6_carriesOn 18 = .ok (.iaload, 1) := by decide +kernel
theorem dX6_carriesOn_19 : decode cX6_carriesOn 19 = .ok (.iconst 1, 1) := by decide +kernel
theorem dX6_carriesOn_20 : decode cX6_carriesOn 20 = .ok (.isub, 1) := by decide +kernel
theorem dX6_carriesOn_21 : decode cX6_carriesOn 21 = .ok (.istore 4, 2) := by decide +kernel
theorem dX6_carriesOn_23 : decode cX6_carriesOn 23 = .ok (.aload_n 0, 1) := by decide +kernel
theorem dX6_carriesOn_24 : decode cX6_carriesOn 24 = .ok (.getfield 7, 3) := by decide +kernel
theorem dX6_carriesOn_27 : decode cX6_carriesOn 27 = .ok (.iload_n 1, 1) := by decide +kernel
theorem dX6_carriesOn_28 : decode cX6_carriesOn 28 = .ok (.bipush 10, 2) := by decide +kernel
theorem dX6_carriesOn_30 : decode cX6_carriesOn 30 = .ok (.iadd, 1) := by decide +kernel
theorem dX6_carriesOn_31 : decode cX6_carriesOn 31 = .ok (.iload_n 2, 1) := by decide +kernel
theorem dX6_carriesOn_32 : decode cX6_carriesOn 32 = .ok (.iadd, 1) := by decide +kernel
theorem dX6_carriesOn_33 : decode cX6_carriesOn 33 = .ok (.iaload, 1) := by decide +kernel
theorem dX6_carriesOn_34 : decode cX6_carriesOn 34 = .ok (.istore 5, 2) := by decide +kernel
theorem dX6_carriesOn_36 : decode cX6_carriesOn 36 = .ok (.iload_n 3, 1) := by decide +kernel
theorem dX6_carriesOn_37 : decode cX6_carriesOn 37 = .ok (.iconst 1, 1) := by decide +kernel
theorem dX6_carriesOn_38 : decode cX6_carriesOn 38 = .ok (.if_icmp .ne 20, 3) := by decide +kernel
theorem dX6_carriesOn_41 : decode cX6_carriesOn 41 = .ok (.iload 5, 2) := by decide +kernel
theorem dX6_carriesOn_43 : decode cX6_carriesOn 43 = .ok (.iload 4, 2) := by decide +kernel
theorem dX6_carriesOn_45 : decode cX6_carriesOn 45 = .ok (.iconst 1, 1) := by decide +kernel
theorem dX6_carriesOn_46 : decode cX6_carriesOn 46 = .ok (.isub, 1) := by decide +kernel
theorem dX6_carriesOn_47 : decode cX6_carriesOn 47 = .ok (.if_icmp .lt 7, 3) := by decide +kernel
theorem dX6_carriesOn_50 : decode cX6_carriesOn 50 = .ok (.iconst 1, 1) := by decide +kernel
theorem dX6_carriesOn_51 : decode cX6_carriesOn 51 = .ok (.goto 37, 3) := by decide +kernel
theorem dX6_carriesOn_54 : decode cX6_carriesOn 54 = .ok (.iconst 0, 1) := by decide +kernel
theorem dX6_carriesOn_55 : decode cX6_carriesOn 55 = .ok (.goto 33, 3) := by decide +kernel
theorem dX6_carriesOn_58 : decode cX6_carriesOn 58 = .ok (.iload_n 3, 1) := by decide +kernel
theorem dX6_carriesOn_59 : decode cX6_carriesOn 59 = .ok (.iconst 2, 1) := by decide +kernel
theorem dX6_carriesOn_60 : decode cX6_carriesOn 60 = .ok (.if_icmp .ne 16, 3) := by decide +kernel
theorem dX6_carriesOn_63 : decode cX6_carriesOn 63 = .ok (.iload 5, 2) := by decide +kernel
theorem dX6_carriesOn_65 : decode cX6_carriesOn 65 = .ok (.ifCond .ne 7, 3) := by decide +kernel
theorem dX6_carriesOn_68 : decode cX6_carriesOn 68 = .ok (.iconst 1, 1) := by decide +kernel
theorem dX6_carriesOn_69 : decode cX6_carriesOn 69 = .ok (.goto 19, 3) := by decide +kernel
theorem dX6_carriesOn_72 : decode cX6_carriesOn 72 = .ok (.iconst 0, 1) := by decide +kernel
theorem dX6_carriesOn_73 : decode cX6_carriesOn 73 = .ok (.goto 15, 3) := by decide +kernel
theorem dX6_carriesOn_76 : decode cX6_carriesOn 76 = .ok (.iload 5, 2) := by decide +kernel
theorem dX6_carriesOn_78 : decode cX6_carriesOn 78 = .ok (.iload 4, 2) := by decide +kernel
theorem dX6_carriesOn_80 : decode cX6_carriesOn 80 = .ok (.if_icmp .ne 7, 3) := by decide +kernel
theorem dX6_carriesOn_83 : decode cX6_carriesOn 83 = .ok (.iconst 1, 1) := by decide +kernel
theorem dX6_carriesOn_84 : decode cX6_carriesOn 84 = .ok (.goto 4, 3) := by decide +kernel
theorem dX6_carriesOn_87 : decode cX6_carriesOn 87 = .ok (.iconst 0, 1) := by decide +kernel
theorem dX6_carriesOn_88 : decode cX6_carriesOn 88 = .ok (.istore 6, 2) := by decide +kernel
theorem dX6_carriesOn_90 : decode cX6_carriesOn 90 = .ok (.iload 6, 2) := by decide +kernel
theorem dX6_carriesOn_92 : decode cX6_carriesOn 92 = .ok (.ifCond .eq 26, 3) := by decide +kernel
theorem dX6_carriesOn_95 : decode cX6_carriesOn 95 = .ok (.iload 5, 2) := by decide +kernel
theorem dX6_carriesOn_97 : decode cX6_carriesOn 97 = .ok (.aload_n 0, 1) := by decide +kernel
theorem dX6_carriesOn_98 : decode cX6_carriesOn 98 = .ok (.getfield 7, 3) := by decide +kernel
theorem dX6_carriesOn_101 : decode cX6_carriesOn 101 = .ok (.iload_n 1, 1) := by decide +kernel
theorem dX6_carriesOn_102 : decode cX6_carriesOn 102 = .ok (.bipush 15, 2) := by decide +kernel
theorem dX6_carriesOn_104 : decode cX6_carriesOn 104 = .ok (.iadd, 1) := by decide +kernel
theorem dX6_carriesOn_105 : decode cX6_carriesOn 105 = .ok (.iload_n 2, 1) := by decide +kernel
theorem dX6_carriesOn_106 : decode cX6_carriesOn 106 = .ok (.iadd, 1) := by decide +kernel
theorem dX6_carriesOn_107 : decode cX6_carriesOn 107 = .ok (.iaload, 1) := by decide +kernel
theorem dX6_carriesOn_108 : decode cX6_carriesOn 108 = .ok (.bipush 12, 2) := by decide +kernel
theorem dX6_carriesOn_110 : decode cX6_carriesOn 110 = .ok (.iadd, 1) := by decide +kernel
theorem dX6_carriesOn_111 : decode cX6_carriesOn 111 = .ok (.if_icmp .eq 7, 3) := by decide +kernel
theorem dX6_carriesOn_114 : decode cX6_carriesOn 114 = .ok (.iconst 1, 1) := by decide +kernel
theorem dX6_carriesOn_115 : decode cX6_carriesOn 115 = .ok (.goto 4, 3) := by decide +kernel
theorem dX6_carriesOn_118 : decode cX6_carriesOn 118 = .ok (.iconst 0, 1) := by decide +kernel
theorem dX6_carriesOn_119 : decode cX6_carriesOn 119 = .ok (.ireturn, 1) := by decide +kernel
theorem dX6_turnedOn_0 : decode cX6_turnedOn 0 = .ok (.iconst 1, 1) := by decide +kernel
theorem dX6_turnedOn_1 : decode cX6_turnedOn 1 = .ok (.istore_n 3, 1) := by decide +kernel
theorem dX6_turnedOn_2 : decode cX6_turnedOn 2 = .ok (.iload_n 2, 1) := by decide +kernel
theorem dX6_turnedOn_3 : decode cX6_turnedOn 3 = .ok (.istore 4, 2) := by decide +kernel
theorem dX6_turnedOn_5 : decode cX6_turnedOn 5 = .ok (.iload 4, 2) := by decide +kernel
theorem dX6_turnedOn_7 : decode cX6_turnedOn 7 = .ok (.aload_n 0, 1) := by decide +kernel
theorem dX6_turnedOn_8 : decode cX6_turnedOn 8 = .ok (.getfield 7, 3) := by decide +kernel
theorem dX6_turnedOn_11 : decode cX6_turnedOn 11 = .ok (.iload_n 1, 1) := by decide +kernel
theorem dX6_turnedOn_12 : decode cX6_turnedOn 12 = .ok (.bipush 20, 2) := by decide +kernel
theorem dX6_turnedOn_14 : decode cX6_turnedOn 14 = .ok (.iadd, 1) := by decide +kernel
theorem dX6_turnedOn_15 : decode cX6_turnedOn 15 = .ok (.iaload, 1) := by decide +kernel
theorem dX6_turnedOn_16 : decode cX6_turnedOn 16 = .ok (.if_icmp .ge 58, 3) := by decide +kernel
theorem dX6_turnedOn_19 : decode cX6_turnedOn 19 = .ok (.iload_n 3, 1) := by decide +kernel
theorem dX6_turnedOn_20 : decode cX6_turnedOn 20 = .ok (.ifCond .eq 54, 3) := by decide +kernel
theorem dX6_turnedOn_23 : decode cX6_turnedOn 23 = .ok (.aload_n 0, 1) := by decide +kernel
theorem dX6_turnedOn_24 : decode cX6_turnedOn 24 = .ok (.iload_n 1, 1) := by decide +kernel
theorem dX6_turnedOn_25 : decode cX6_turnedOn 25 = .ok (.iload 4, 2) := by decide +kernel
theorem dX6_turnedOn_27 : decode cX6_turnedOn 27 = .ok (.invokevirtual 121, 3) := by decide +kernel
theorem dX6_turnedOn_30 : decode cX6_turnedOn 30 = .ok (.istore_n 3, 1) := by decide +kernel
theorem dX6_turnedOn_31 : decode cX6_turnedOn 31 = .ok (.aload_n 0, 1) := by decide +kernel
theorem dX6_turnedOn_32 : decode cX6_turnedOn 32 = .ok (.dup, 1) := by decide +kernel
theorem dX6_turnedOn_33 : decode cX6_turnedOn 33 = .ok (.getfield 125, 3) := by decide +kernel
theorem dX6_turnedOn_36 : decode cX6_turnedOn 36 = .ok (.iload_n 3, 1) := by decide +kernel
theorem dX6_turnedOn_37 : decode cX6_turnedOn 37 = .ok (.ifCond .eq 7, 3) := by decide +kernel
theorem dX6_turnedOn_40 : decode cX6_turnedOn 40 = .ok (.iconst 1, 1) := by decide +kernel
theorem dX6_turnedOn_41 : decode cX6_turnedOn 41 = .ok (.goto 4, 3) := by decide +kernel
theorem dX6_turnedOn_44 : decode cX6_turnedOn 44 = .ok (.iconst 0, 1) := by decide +kernel
theorem dX6_turnedOn_45 : decode cX6_turnedOn 45 = .ok (.iadd, 1) := by decide +kernel
theorem dX6_turnedOn_46 : decode cX6_turnedOn 46 = .ok (.putfield 125, 3) := by decide +kernel
theorem dX6_turnedOn_49 : decode cX6_turnedOn 49 = .ok (.aload_n 0, 1) := by decide +kernel
theorem dX6_turnedOn_50 : decode cX6_turnedOn 50 = .ok (.getfield 7, 3) := by decide +kernel
theorem dX6_turnedOn_53 : decode cX6_turnedOn 53 = .ok (.iload_n 1, 1) := by decide +kernel
theorem dX6_turnedOn_54 : decode cX6_turnedOn 54 = .ok (.bipush 10, 2) := by decide +kernel
theorem dX6_turnedOn_56 : decode cX6_turnedOn 56 = .ok (.iadd, 1) := by decide +kernel
theorem dX6_turnedOn_57 : decode cX6_turnedOn 57 = .ok (.iload 4, 2) := by decide +kernel
theorem dX6_turnedOn_59 : decode cX6_turnedOn 59 = .ok (.iadd, 1) := by decide +kernel
theorem dX6_turnedOn_60 : decode cX6_turnedOn 60 = .ok (.aload_n 0, 1) := by decide +kernel
theorem dX6_turnedOn_61 : decode cX6_turnedOn 61 = .ok (.iload_n 1, 1) := by decide +kernel
theorem dX6_turnedOn_62 : decode cX6_turnedOn 62 = .ok (.iload 4, 2) := by decide +kernel
theorem dX6_turnedOn_64 : decode cX6_turnedOn 64 = .ok (.invokevirtual 128, 3) := by decide +kernel
theorem dX6_turnedOn_67 : decode cX6_turnedOn 67 = .ok (.iastore, 1) := by decide +kernel
theorem dX6_turnedOn_68 : decode cX6_turnedOn 68 = .ok (.iinc 4 1, 3) := by decide +kernel
theorem dX6_turnedOn_71 : decode cX6_turnedOn 71 = .ok (.goto (-66), 3) := by decide +kernel
theorem dX6_turnedOn_74 : decode cX6_turnedOn 74 = .ok (.return_, 1) := by decide +kernel
theorem dX6_pushOn_0 : decode cX6_pushOn 0 = .ok (.aload_n 0, 1) := by decide +kernel
theorem dX6_pushOn_1 : decode cX6_pushOn 1 = .ok (.getfield 7, 3) := by decide +kernel
theorem dX6_pushOn_4 : decode cX6_pushOn 4 = .ok (.iload_n 1, 1) := by decide +kernel
theorem dX6_pushOn_5 : decode cX6_pushOn 5 = .ok (.bipush 21, 2) := by decide +kernel
theorem dX6_pushOn_7 : decode cX6_pushOn 7 = .ok (.iadd, 1) := by decide +kernel
theorem dX6_pushOn_8 : decode cX6_pushOn 8 = .ok (.dup2, 1) := by decide +kernel
theorem dX6_pushOn_9 : decode cX6_pushOn 9 = .ok (.iaload, 1) := by decide +kernel
theorem dX6_pushOn_10 : decode cX6_pushOn 10 = .ok (.iconst 1, 1) := by decide +kernel
theorem dX6_pushOn_11 : decode cX6_pushOn 11 = .ok (.iadd, 1) := by decide +kernel
theorem dX6_pushOn_12 : decode cX6_pushOn 12 = .ok (.iastore, 1) := by decide +kernel
theorem dX6_pushOn_13 : decode cX6_pushOn 13 = .ok (.aload_n 0, 1) := by decide +kernel
theorem dX6_pushOn_14 : decode cX6_pushOn 14 = .ok (.iload_n 1, 1) := by decide +kernel
theorem dX6_pushOn_15 : decode cX6_pushOn 15 = .ok (.iconst 0, 1) := by decide +kernel
theorem dX6_pushOn_16 : decode cX6_pushOn 16 = .ok (.invokevirtual 131, 3) := by decide +kernel
theorem dX6_pushOn_19 : decode cX6_pushOn 19 = .ok (.return_, 1) := by decide +kernel
theorem dX6_allOn_0 : decode cX6_allOn 0 = .ok (.iconst 1, 1) := by decide +kernel
theorem dX6_allOn_1 : decode cX6_allOn 1 = .ok (.istore_n 2, 1) := by decide +kernel
theorem dX6_allOn_2 : decode cX6_allOn 2 = .ok (.iconst 0, 1) := by decide +kernel
theorem dX6_allOn_3 : decode cX6_allOn 3 = .ok (.istore_n 3, 1) := by decide +kernel
theorem dX6_allOn_4 : decode cX6_allOn 4 = .ok (.iload_n 3, 1) := by decide +kernel
theorem dX6_allOn_5 : decode cX6_allOn 5 = .ok (.aload_n 0, 1) := by decide +kernel
theorem dX6_allOn_6 : decode cX6_allOn 6 = .ok (.getfield 7, 3) := by decide +kernel
theorem dX6_allOn_9 : decode cX6_allOn 9 = .ok (.iload_n 1, 1) := by decide +kernel
theorem dX6_allOn_10 : decode cX6_allOn 10 = .ok (.bipush 20, 2) := by decide +kernel
theorem dX6_allOn_12 : decode cX6_allOn 12 = .ok (.iadd, 1) := by decide +kernel
theorem dX6_allOn_13 : decode cX6_allOn 13 = .ok (.iaload, 1) := by decide +kernel
theorem dX6_allOn_14 : decode cX6_allOn 14 = .ok (.if_icmp .ge 22, 3) := by decide +kernel
theorem dX6_allOn_17 : decode cX6_allOn 17 = .ok (.iload_n 2, 1) := by decide +kernel
theorem dX6_allOn_18 : decode cX6_allOn 18 = .ok (.aload_n 0, 1) := by decide +kernel
theorem dX6_allOn_19 : decode cX6_allOn 19 = .ok (.getfield 7, 3) := by decide +kernel
theorem dX6_allOn_22 : decode cX6_allOn 22 = .ok (.iload_n 1, 1) := by decide +kernel
theorem dX6_allOn_23 : decode cX6_allOn 23 = .ok (.iconst 5, 1) := by decide +kernel
theorem dX6_allOn_24 : decode cX6_allOn 24 = .ok (.iadd, 1) := by decide +kernel
theorem dX6_allOn_25 : decode cX6_allOn 25 = .ok (.iload_n 3, 1) := by decide +kernel
theorem dX6_allOn_26 : decode cX6_allOn 26 = .ok (.iadd, 1) := by decide +kernel
theorem dX6_allOn_27 : decode cX6_allOn 27 = .ok (.iaload, 1) := by decide +kernel
theorem dX6_allOn_28 : decode cX6_allOn 28 = .ok (.imul, 1) := by decide +kernel
theorem dX6_allOn_29 : decode cX6_allOn 29 = .ok (.istore_n 2, 1) := by decide +kernel
theorem dX6_allOn_30 : decode cX6_allOn 30 = .ok (.iinc 3 1, 3) := by decide +kernel
theorem dX6_allOn_33 : decode cX6_allOn 33 = .ok (.goto (-29), 3) := by decide +kernel
theorem dX6_allOn_36 : decode cX6_allOn 36 = .ok (.iload_n 2, 1) := by decide +kernel
theorem dX6_allOn_37 : decode cX6_allOn 37 = .ok (.ireturn, 1) := by decide +kernel
theorem dX6_readsOn_0 : decode cX6_readsOn 0 = .ok (.iconst 0, 1) := by decide +kernel
theorem dX6_readsOn_1 : decode cX6_readsOn 1 = .ok (.istore_n 2, 1) := by decide +kernel
theorem dX6_readsOn_2 : decode cX6_readsOn 2 = .ok (.iconst 1, 1) := by decide +kernel
theorem dX6_readsOn_3 : decode cX6_readsOn 3 = .ok (.istore_n 3, 1) := by decide +kernel
theorem dX6_readsOn_4 : decode cX6_readsOn 4 = .ok (.iconst 0, 1) := by decide +kernel
theorem dX6_readsOn_5 : decode cX6_readsOn 5 = .ok (.istore 4, 2) := by decide +kernel
theorem dX6_readsOn_7 : decode cX6_readsOn 7 = .ok (.iload 4, 2) := by decide +kernel
theorem dX6_readsOn_9 : decode cX6_readsOn 9 = .ok (.aload_n 0, 1) := by decide +kernel
theorem dX6_readsOn_10 : decode cX6_readsOn 10 = .ok (.getfield 7, 3) := by decide +kernel
theorem dX6_readsOn_13 : decode cX6_readsOn 13 = .ok (.iload_n 1, 1) := by decide +kernel
theorem dX6_readsOn_14 : decode cX6_readsOn 14 = .ok (.bipush 20, 2) := by decide +kernel
theorem dX6_readsOn_16 : decode cX6_readsOn 16 = .ok (.iadd, 1) := by decide +kernel
theorem dX6_readsOn_17 : decode cX6_readsOn 17 = .ok (.iaload, 1) := by decide +kernel
theorem dX6_readsOn_18 : decode cX6_readsOn 18 = .ok (.if_icmp .ge 40, 3) := by decide +kernel
theorem dX6_readsOn_21 : decode cX6_readsOn 21 = .ok (.iload_n 2, 1) := by decide +kernel
theorem dX6_readsOn_22 : decode cX6_readsOn 22 = .ok (.iload_n 3, 1) := by decide +kernel
theorem dX6_readsOn_23 : decode cX6_readsOn 23 = .ok (.aload_n 0, 1) := by decide +kernel
theorem dX6_readsOn_24 : decode cX6_readsOn 24 = .ok (.getfield 7, 3) := by decide +kernel
theorem dX6_readsOn_27 : decode cX6_readsOn 27 = .ok (.iload_n 1, 1) := by decide +kernel
theorem dX6_readsOn_28 : decode cX6_readsOn 28 = .ok (.bipush 10, 2) := by decide +kernel
theorem dX6_readsOn_30 : decode cX6_readsOn 30 = .ok (.iadd, 1) := by decide +kernel
theorem dX6_readsOn_31 : decode cX6_readsOn 31 = .ok (.iload 4, 2) := by decide +kernel
theorem dX6_readsOn_33 : decode cX6_readsOn 33 = .ok (.iadd, 1) := by decide +kernel
theorem dX6_readsOn_34 : decode cX6_readsOn 34 = .ok (.iaload, 1) := by decide +kernel
theorem dX6_readsOn_35 : decode cX6_readsOn 35 = .ok (.imul, 1) := by decide +kernel
theorem dX6_readsOn_36 : decode cX6_readsOn 36 = .ok (.iadd, 1) := by decide +kernel
theorem dX6_readsOn_37 : decode cX6_readsOn 37 = .ok (.istore_n 2, 1) := by decide +kernel
theorem dX6_readsOn_38 : decode cX6_readsOn 38 = .ok (.iload_n 3, 1) := by decide +kernel
theorem dX6_readsOn_39 : decode cX6_readsOn 39 = .ok (.aload_n 0, 1) := by decide +kernel
theorem dX6_readsOn_40 : decode cX6_readsOn 40 = .ok (.getfield 7, 3) := by decide +kernel
theorem dX6_readsOn_43 : decode cX6_readsOn 43 = .ok (.iload_n 1, 1) := by decide +kernel
theorem dX6_readsOn_44 : decode cX6_readsOn 44 = .ok (.iconst 5, 1) := by decide +kernel
theorem dX6_readsOn_45 : decode cX6_readsOn 45 = .ok (.iadd, 1) := by decide +kernel
theorem dX6_readsOn_46 : decode cX6_readsOn 46 = .ok (.iload 4, 2) := by decide +kernel
theorem dX6_readsOn_48 : decode cX6_readsOn 48 = .ok (.iadd, 1) := by decide +kernel
theorem dX6_readsOn_49 : decode cX6_readsOn 49 = .ok (.iaload, 1) := by decide +kernel
theorem dX6_readsOn_50 : decode cX6_readsOn 50 = .ok (.imul, 1) := by decide +kernel
theorem dX6_readsOn_51 : decode cX6_readsOn 51 = .ok (.istore_n 3, 1) := by decide +kernel
theorem dX6_readsOn_52 : decode cX6_readsOn 52 = .ok (.iinc 4 1, 3) := by decide +kernel
theorem dX6_readsOn_55 : decode cX6_readsOn 55 = .ok (.goto (-48), 3) := by decide +kernel
theorem dX6_readsOn_58 : decode cX6_readsOn 58 = .ok (.iload_n 2, 1) := by decide +kernel
theorem dX6_readsOn_59 : decode cX6_readsOn 59 = .ok (.ireturn, 1) := by decide +kernel
theorem dX6_errorOn_0 : decode cX6_errorOn 0 = .ok (.aload_n 0, 1) := by decide +kernel
theorem dX6_errorOn_1 : decode cX6_errorOn 1 = .ok (.iload_n 1, 1) := by decide +kernel
theorem dX6_errorOn_2 : decode cX6_errorOn 2 = .ok (.invokevirtual 135, 3) := by decide +kernel
theorem dX6_errorOn_5 : decode cX6_errorOn 5 = .ok (.aload_n 0, 1) := by decide +kernel
theorem dX6_errorOn_6 : decode cX6_errorOn 6 = .ok (.getfield 7, 3) := by decide +kernel
theorem dX6_errorOn_9 : decode cX6_errorOn 9 = .ok (.iload_n 1, 1) := by decide +kernel
theorem dX6_errorOn_10 : decode cX6_errorOn 10 = .ok (.bipush 21, 2) := by decide +kernel
theorem dX6_errorOn_12 : decode cX6_errorOn 12 = .ok (.iadd, 1) := by decide +kernel
theorem dX6_errorOn_13 : decode cX6_errorOn 13 = .ok (.iaload, 1) := by decide +kernel
theorem dX6_errorOn_14 : decode cX6_errorOn 14 = .ok (.aload_n 0, 1) := by decide +kernel
theorem dX6_errorOn_15 : decode cX6_errorOn 15 = .ok (.iload_n 1, 1) := by decide +kernel
theorem dX6_errorOn_16 : decode cX6_errorOn 16 = .ok (.invokevirtual 138, 3) := by decide +kernel
theorem dX6_errorOn_19 : decode cX6_errorOn 19 = .ok (.irem, 1) := by decide +kernel
theorem dX6_errorOn_20 : decode cX6_errorOn 20 = .ok (.isub, 1) := by decide +kernel
theorem dX6_errorOn_21 : decode cX6_errorOn 21 = .ok (.istore_n 2, 1) := by decide +kernel
theorem dX6_errorOn_22 : decode cX6_errorOn 22 = .ok (.iload_n 2, 1) := by decide +kernel
theorem dX6_errorOn_23 : decode cX6_errorOn 23 = .ok (.ifCond .ge 8, 3) := by decide +kernel
theorem dX6_errorOn_26 : decode cX6_errorOn 26 = .ok (.iload_n 2, 1) := by decide +kernel
theorem dX6_errorOn_27 : decode cX6_errorOn 27 = .ok (.ineg, 1) := by decide +kernel
theorem dX6_errorOn_28 : decode cX6_errorOn 28 = .ok (.goto 4, 3) := by decide +kernel
theorem dX6_errorOn_31 : decode cX6_errorOn 31 = .ok (.iload_n 2, 1) := by decide +kernel
theorem dX6_errorOn_32 : decode cX6_errorOn 32 = .ok (.ireturn, 1) := by decide +kernel
theorem dX6_rule_0 : decode cX6_rule 0 = .ok (.iconst 0, 1) := by decide +kernel
theorem dX6_rule_1 : decode cX6_rule 1 = .ok (.istore_n 2, 1) := by decide +kernel
theorem dX6_rule_2 : decode cX6_rule 2 = .ok (.iconst 0, 1) := by decide +kernel
theorem dX6_rule_3 : decode cX6_rule 3 = .ok (.istore_n 3, 1) := by decide +kernel
theorem dX6_rule_4 : decode cX6_rule 4 = .ok (.iload_n 3, 1) := by decide +kernel
theorem dX6_rule_5 : decode cX6_rule 5 = .ok (.aload_n 0, 1) := by decide +kernel
theorem dX6_rule_6 : decode cX6_rule 6 = .ok (.getfield 7, 3) := by decide +kernel
theorem dX6_rule_9 : decode cX6_rule 9 = .ok (.bipush 20, 2) := by decide +kernel
theorem dX6_rule_11 : decode cX6_rule 11 = .ok (.iaload, 1) := by decide +kernel
theorem dX6_rule_12 : decode cX6_rule 12 = .ok (.if_icmp .ge 28, 3) := by decide +kernel
theorem dX6_rule_15 : decode cX6_rule 15 = .ok (.iload_n 2, 1) := by decide +kernel
theorem dX6_rule_16 : decode cX6_rule 16 = .ok (.aload_n 0, 1) := by decide +kernel
theorem dX6_rule_17 : decode cX6_rule 17 = .ok (.iconst 0, 1) := by decide +kernel
theorem dX6_rule_18 : decode cX6_rule 18 = .ok (.iload_n 3, 1) := by decide +kernel
theorem dX6_rule_19 : decode cX6_rule 19 = .ok (.invokevirtual 121, 3) := by decide +kernel
theorem dX6_rule_22 : decode cX6_rule 22 = .ok (.ifCond .eq 9, 3) := by decide +kernel
theorem dX6_rule_25 : decode cX6_rule 25 = .ok (.iconst 1, 1) := by decide +kernel
theorem dX6_rule_26 : decode cX6_rule 26 = .ok (.iload_n 3, 1) := by decide +kernel
theorem dX6_rule_27 : decode cX6_rule 27 = .ok (.ishl, 1) := by decide +kernel
theorem dX6_rule_28 : decode cX6_rule 28 = .ok (.goto 4, 3) := by decide +kernel
theorem dX6_rule_31 : decode cX6_rule 31 = .ok (.iconst 0, 1) := by decide +kernel
theorem dX6_rule_32 : decode cX6_rule 32 = .ok (.ior, 1) := by decide +kernel
theorem dX6_rule_33 : decode cX6_rule 33 = .ok (.istore_n 2, 1) := by decide +kernel
theorem dX6_rule_34 : decode cX6_rule 34 = .ok (.iinc 3 1, 3) := by decide +kernel
theorem dX6_rule_37 : decode cX6_rule 37 = .ok (.goto (-33), 3) := by decide +kernel
theorem dX6_rule_40 : decode cX6_rule 40 = .ok (.iload_n 1, 1) := by decide +kernel
theorem dX6_rule_41 : decode cX6_rule 41 = .ok (.tableswitch 75 0 5 #[39, 47, 55, 61, 67, 73], 39) := by decide +kernel
theorem dX6_rule_80 : decode cX6_rule 80 = .ok (.aload_n 0, 1) := by decide +kernel
theorem dX6_rule_81 : decode cX6_rule 81 = .ok (.getfield 7, 3) := by decide +kernel
theorem dX6_rule_84 : decode cX6_rule 84 = .ok (.bipush 20, 2) := by decide +kernel
theorem dX6_rule_86 : decode cX6_rule 86 = .ok (.iaload, 1) := by decide +kernel
theorem dX6_rule_87 : decode cX6_rule 87 = .ok (.ireturn, 1) := by decide +kernel
theorem dX6_rule_88 : decode cX6_rule 88 = .ok (.aload_n 0, 1) := by decide +kernel
theorem dX6_rule_89 : decode cX6_rule 89 = .ok (.getfield 7, 3) := by decide +kernel
theorem dX6_rule_92 : decode cX6_rule 92 = .ok (.bipush 21, 2) := by decide +kernel
theorem dX6_rule_94 : decode cX6_rule 94 = .ok (.iaload, 1) := by decide +kernel
theorem dX6_rule_95 : decode cX6_rule 95 = .ok (.ireturn, 1) := by decide +kernel
theorem dX6_rule_96 : decode cX6_rule 96 = .ok (.aload_n 0, 1) := by decide +kernel
theorem dX6_rule_97 : decode cX6_rule 97 = .ok (.iconst 0, 1) := by decide +kernel
theorem dX6_rule_98 : decode cX6_rule 98 = .ok (.invokevirtual 135, 3) := by decide +kernel
theorem dX6_rule_101 : decode cX6_rule 101 = .ok (.ireturn, 1) := by decide +kernel
theorem dX6_rule_102 : decode cX6_rule 102 = .ok (.aload_n 0, 1) := by decide +kernel
theorem dX6_rule_103 : decode cX6_rule 103 = .ok (.iconst 0, 1) := by decide +kernel
theorem dX6_rule_104 : decode cX6_rule 104 = .ok (.invokevirtual 138, 3) := by decide +kernel
theorem dX6_rule_107 : decode cX6_rule 107 = .ok (.ireturn, 1) := by decide +kernel
theorem dX6_rule_108 : decode cX6_rule 108 = .ok (.aload_n 0, 1) := by decide +kernel
theorem dX6_rule_109 : decode cX6_rule 109 = .ok (.iconst 0, 1) := by decide +kernel
theorem dX6_rule_110 : decode cX6_rule 110 = .ok (.invokevirtual 141, 3) := by decide +kernel
theorem dX6_rule_113 : decode cX6_rule 113 = .ok (.ireturn, 1) := by decide +kernel
theorem dX6_rule_114 : decode cX6_rule 114 = .ok (.iload_n 2, 1) := by decide +kernel
theorem dX6_rule_115 : decode cX6_rule 115 = .ok (.ireturn, 1) := by decide +kernel
theorem dX6_rule_116 : decode cX6_rule 116 = .ok (.iconst (-1), 1) := by decide +kernel
theorem dX6_rule_117 : decode cX6_rule 117 = .ok (.ireturn, 1) := by decide +kernel
theorem dX6_wheel_0 : decode cX6_wheel 0 = .ok (.aload_n 0, 1) := by decide +kernel
theorem dX6_wheel_1 : decode cX6_wheel 1 = .ok (.iload_n 1, 1) := by decide +kernel
theorem dX6_wheel_2 : decode cX6_wheel 2 = .ok (.invokevirtual 144, 3) := by decide +kernel
theorem dX6_wheel_5 : decode cX6_wheel 5 = .ok (.ifCond .eq 15, 3) := by decide +kernel
theorem dX6_wheel_8 : decode cX6_wheel 8 = .ok (.iload_n 2, 1) := by decide +kernel
theorem dX6_wheel_9 : decode cX6_wheel 9 = .ok (.i2l, 1) := by decide +kernel
theorem dX6_wheel_10 : decode cX6_wheel 10 = .ok (.lconst 0, 1) := by decide +kernel
theorem dX6_wheel_11 : decode cX6_wheel 11 = .ok (.ldc2_w 99, 3) := by decide +kernel
theorem dX6_wheel_14 : decode cX6_wheel 14 = .ok (.invokestatic 46, 3) := by decide +kernel
theorem dX6_wheel_17 : decode cX6_wheel 17 = .ok (.ifCond .ne 5, 3) := by decide +kernel
theorem dX6_wheel_20 : decode cX6_wheel 20 = .ok (.iconst (-1), 1) := by decide +kernel
theorem dX6_wheel_21 : decode cX6_wheel 21 = .ok (.ireturn, 1) := by decide +kernel
theorem dX6_wheel_22 : decode cX6_wheel 22 = .ok (.iload_n 2, 1) := by decide +kernel
theorem dX6_wheel_23 : decode cX6_wheel 23 = .ok (.iconst 3, 1) := by decide +kernel
theorem dX6_wheel_24 : decode cX6_wheel 24 = .ok (.if_icmp .ge 16, 3) := by decide +kernel
theorem dX6_wheel_27 : decode cX6_wheel 27 = .ok (.aload_n 0, 1) := by decide +kernel
theorem dX6_wheel_28 : decode cX6_wheel 28 = .ok (.getfield 7, 3) := by decide +kernel
theorem dX6_wheel_31 : decode cX6_wheel 31 = .ok (.iconst 5, 1) := by decide +kernel
theorem dX6_wheel_32 : decode cX6_wheel 32 = .ok (.iload_n 2, 1) := by decide +kernel
theorem dX6_wheel_33 : decode cX6_wheel 33 = .ok (.imul, 1) := by decide +kernel
theorem dX6_wheel_34 : decode cX6_wheel 34 = .ok (.iload_n 1, 1) := by decide +kernel
theorem dX6_wheel_35 : decode cX6_wheel 35 = .ok (.iadd, 1) := by decide +kernel
theorem dX6_wheel_36 : decode cX6_wheel 36 = .ok (.iaload, 1) := by decide +kernel
theorem dX6_wheel_37 : decode cX6_wheel 37 = .ok (.goto 29, 3) := by decide +kernel
theorem dX6_wheel_40 : decode cX6_wheel 40 = .ok (.iload_n 2, 1) := by decide +kernel
theorem dX6_wheel_41 : decode cX6_wheel 41 = .ok (.iconst 3, 1) := by decide +kernel
theorem dX6_wheel_42 : decode cX6_wheel 42 = .ok (.if_icmp .ne 18, 3) := by decide +kernel
theorem dX6_wheel_45 : decode cX6_wheel 45 = .ok (.aload_n 0, 1) := by decide +kernel
theorem dX6_wheel_46 : decode cX6_wheel 46 = .ok (.getfield 7, 3) := by decide +kernel
theorem dX6_wheel_49 : decode cX6_wheel 49 = .ok (.bipush 15, 2) := by decide +kernel
theorem dX6_wheel_51 : decode cX6_wheel 51 = .ok (.iload_n 1, 1) := by decide +kernel
theorem dX6_wheel_52 : decode cX6_wheel 52 = .ok (.iadd, 1) := by decide +kernel
theorem dX6_wheel_53 : decode cX6_wheel 53 = .ok (.iaload, 1) := by decide +kernel
theorem dX6_wheel_54 : decode cX6_wheel 54 = .ok (.bipush 12, 2) := by decide +kernel
theorem dX6_wheel_56 : decode cX6_wheel 56 = .ok (.iadd, 1) := by decide +kernel
theorem dX6_wheel_57 : decode cX6_wheel 57 = .ok (.goto 9, 3) := by decide +kernel
theorem dX6_wheel_60 : decode cX6_wheel 60 = .ok (.aload_n 0, 1) := by decide +kernel
theorem dX6_wheel_61 : decode cX6_wheel 61 = .ok (.iconst 0, 1) := by decide +kernel
theorem dX6_wheel_62 : decode cX6_wheel 62 = .ok (.iload_n 1, 1) := by decide +kernel
theorem dX6_wheel_63 : decode cX6_wheel 63 = .ok (.invokevirtual 128, 3) := by decide +kernel
theorem dX6_wheel_66 : decode cX6_wheel 66 = .ok (.ireturn, 1) := by decide +kernel
theorem dX6_alters_0 : decode cX6_alters 0 = .ok (.iload_n 2, 1) := by decide +kernel
theorem dX6_alters_1 : decode cX6_alters 1 = .ok (.ifCond .ne 15, 3) := by decide +kernel
theorem dX6_alters_4 : decode cX6_alters 4 = .ok (.iload_n 3, 1) := by decide +kernel
theorem dX6_alters_5 : decode cX6_alters 5 = .ok (.i2l, 1) := by decide +kernel
theorem dX6_alters_6 : decode cX6_alters 6 = .ok (.lconst 0, 1) := by decide +kernel
theorem dX6_alters_7 : decode cX6_alters 7 = .ok (.ldc2_w 148, 3) := by decide +kernel
theorem dX6_alters_10 : decode cX6_alters 10 = .ok (.invokestatic 46, 3) := by decide +kernel
theorem dX6_alters_13 : decode cX6_alters 13 = .ok (.goto 56, 3) := by decide +kernel
theorem dX6_alters_16 : decode cX6_alters 16 = .ok (.iload_n 2, 1) := by decide +kernel
theorem dX6_alters_17 : decode cX6_alters 17 = .ok (.iconst 1, 1) := by decide +kernel
theorem dX6_alters_18 : decode cX6_alters 18 = .ok (.if_icmp .ne 17, 3) := by decide +kernel
theorem dX6_alters_21 : decode cX6_alters 21 = .ok (.iload_n 3, 1) := by decide +kernel
theorem dX6_alters_22 : decode cX6_alters 22 = .ok (.i2l, 1) := by decide +kernel
theorem dX6_alters_23 : decode cX6_alters 23 = .ok (.ldc2_w 150, 3) := by decide +kernel
theorem dX6_alters_26 : decode cX6_alters 26 = .ok (.ldc2_w 152, 3) := by decide +kernel
theorem dX6_alters_29 : decode cX6_alters 29 = .ok (.invokestatic 46, 3) := by decide +kernel
theorem dX6_alters_32 : decode cX6_alters 32 = .ok (.goto 37, 3) := by decide +kernel
theorem dX6_alters_35 : decode cX6_alters 35 = .ok (.iload_n 2, 1) := by decide +kernel
theorem dX6_alters_36 : decode cX6_alters 36 = .ok (.iconst 2, 1) := by decide +kernel
theorem dX6_alters_37 : decode cX6_alters 37 = .ok (.if_icmp .ne 10, 3) := by decide +kernel
theorem dX6_alters_40 : decode cX6_alters 40 = .ok (.iload_n 3, 1) := by decide +kernel
theorem dX6_alters_41 : decode cX6_alters 41 = .ok (.invokestatic 154, 3) := by decide +kernel
theorem dX6_alters_44 : decode cX6_alters 44 = .ok (.goto 25, 3) := by decide +kernel
theorem dX6_alters_47 : decode cX6_alters 47 = .ok (.iload_n 2, 1) := by decide +kernel
theorem dX6_alters_48 : decode cX6_alters 48 = .ok (.iconst 3, 1) := by decide +kernel
theorem dX6_alters_49 : decode cX6_alters 49 = .ok (.if_icmp .ne 19, 3) := by decide +kernel
theorem dX6_alters_52 : decode cX6_alters 52 = .ok (.iload_n 3, 1) := by decide +kernel
theorem dX6_alters_53 : decode cX6_alters 53 = .ok (.i2l, 1) := by decide +kernel
theorem dX6_alters_54 : decode cX6_alters 54 = .ok (.lconst 0, 1) := by decide +kernel
theorem dX6_alters_55 : decode cX6_alters 55 = .ok (.ldc2_w 152, 3) := by decide +kernel
theorem dX6_alters_58 : decode cX6_alters 58 = .ok (.invokestatic 46, 3) := by decide +kernel
theorem dX6_alters_61 : decode cX6_alters 61 = .ok (.ifCond .eq 7, 3) := by decide +kernel
theorem dX6_alters_64 : decode cX6_alters 64 = .ok (.iconst 1, 1) := by decide +kernel
theorem dX6_alters_65 : decode cX6_alters 65 = .ok (.goto 4, 3) := by decide +kernel
theorem dX6_alters_68 : decode cX6_alters 68 = .ok (.iconst 0, 1) := by decide +kernel
theorem dX6_alters_69 : decode cX6_alters 69 = .ok (.istore 4, 2) := by decide +kernel
theorem dX6_alters_71 : decode cX6_alters 71 = .ok (.aload_n 0, 1) := by decide +kernel
theorem dX6_alters_72 : decode cX6_alters 72 = .ok (.iload_n 1, 1) := by decide +kernel
theorem dX6_alters_73 : decode cX6_alters 73 = .ok (.invokevirtual 144, 3) := by decide +kernel
theorem dX6_alters_76 : decode cX6_alters 76 = .ok (.ifCond .eq 8, 3) := by decide +kernel
theorem dX6_alters_79 : decode cX6_alters 79 = .ok (.iload 4, 2) := by decide +kernel
theorem dX6_alters_81 : decode cX6_alters 81 = .ok (.ifCond .ne 5, 3) := by decide +kernel
theorem dX6_alters_84 : decode cX6_alters 84 = .ok (.iconst (-1), 1) := by decide +kernel
theorem dX6_alters_85 : decode cX6_alters 85 = .ok (.ireturn, 1) := by decide +kernel
theorem dX6_alters_86 : decode cX6_alters 86 = .ok (.aload_n 0, 1) := by decide +kernel
theorem dX6_alters_87 : decode cX6_alters 87 = .ok (.getfield 7, 3) := by decide +kernel
theorem dX6_alters_90 : decode cX6_alters 90 = .ok (.iconst 5, 1) := by decide +kernel
theorem dX6_alters_91 : decode cX6_alters 91 = .ok (.iload_n 1, 1) := by decide +kernel
theorem dX6_alters_92 : decode cX6_alters 92 = .ok (.iadd, 1) := by decide +kernel
theorem dX6_alters_93 : decode cX6_alters 93 = .ok (.iaload, 1) := by decide +kernel
theorem dX6_alters_94 : decode cX6_alters 94 = .ok (.istore 5, 2) := by decide +kernel
theorem dX6_alters_96 : decode cX6_alters 96 = .ok (.aload_n 0, 1) := by decide +kernel
theorem dX6_alters_97 : decode cX6_alters 97 = .ok (.getfield 7, 3) := by decide +kernel
theorem dX6_alters_100 : decode cX6_alters 100 = .ok (.bipush 15, 2) := by decide +kernel
theorem dX6_alters_102 : decode cX6_alters 102 = .ok (.iload_n 1, 1) := by decide +kernel
theorem dX6_alters_103 : decode cX6_alters 103 = .ok (.iadd, 1) := by decide +kernel
theorem dX6_alters_104 : decode cX6_alters 104 = .ok (.iaload, 1) := by decide +kernel
theorem dX6_alters_105 : decode cX6_alters 105 = .ok (.bipush 12, 2) := by decide +kernel
theorem dX6_alters_107 : decode cX6_alters 107 = .ok (.iadd, 1) := by decide +kernel
theorem dX6_alters_108 : decode cX6_alters 108 = .ok (.istore 6, 2) := by decide +kernel
theorem dX6_alters_110 : decode cX6_alters 110 = .ok (.iload_n 2, 1) := by decide +kernel
theorem dX6_alters_111 : decode cX6_alters 111 = .ok (.iconst 1, 1) := by decide +kernel
theorem dX6_alters_112 : decode cX6_alters 112 = .ok (.if_icmp .ne 33, 3) := by decide +kernel
theorem dX6_alters_115 : decode cX6_alters 115 = .ok (.iload_n 3, 1) := by decide +kernel
theorem dX6_alters_116 : decode cX6_alters 116 = .ok (.aload_n 0, 1) := by decide +kernel
theorem dX6_alters_117 : decode cX6_alters 117 = .ok (.getfield 7, 3) := by decide +kernel
theorem dX6_alters_120 : decode cX6_alters 120 = .ok (.bipush 10, 2) := by decide +kernel
theorem dX6_alters_122 : decode cX6_alters 122 = .ok (.iload_n 1, 1) := by decide +kernel
theorem dX6_alters_123 : decode cX6_alters 123 = .ok (.iadd, 1) := by decide +kernel
theorem dX6_alters_124 : decode cX6_alters 124 = .ok (.iaload, 1) := by decide +kernel
theorem dX6_alters_125 : decode cX6_alters 125 = .ok (.if_icmp .le 16, 3) := by decide +kernel
theorem dX6_alters_128 : decode cX6_alters 128 = .ok (.iload 6, 2) := by decide +kernel
theorem dX6_alters_130 : decode cX6_alters 130 = .ok (.bipush 12, 2) := by decide +kernel
theorem dX6_alters_132 : decode cX6_alters 132 = .ok (.if_icmp .ge 13, 3) := by decide +kernel
theorem dX6_alters_135 : decode cX6_alters 135 = .ok (.iload_n 3, 1) := by decide +kernel
theorem dX6_alters_136 : decode cX6_alters 136 = .ok (.iload 6, 2) := by decide +kernel
theorem dX6_alters_138 : decode cX6_alters 138 = .ok (.if_icmp .gt 7, 3) := by decide +kernel
theorem dX6_alters_141 : decode cX6_alters 141 = .ok (.iconst 1, 1) := by decide +kernel
theorem dX6_alters_142 : decode cX6_alters 142 = .ok (.goto 4, 3) := by decide +kernel
theorem dX6_alters_145 : decode cX6_alters 145 = .ok (.iconst 0, 1) := by decide +kernel
theorem dX6_alters_146 : decode cX6_alters 146 = .ok (.istore 7, 2) := by decide +kernel
theorem dX6_alters_148 : decode cX6_alters 148 = .ok (.iload 7, 2) := by decide +kernel
theorem dX6_alters_150 : decode cX6_alters 150 = .ok (.ifCond .ne 31, 3) := by decide +kernel
theorem dX6_alters_153 : decode cX6_alters 153 = .ok (.iload_n 2, 1) := by decide +kernel
theorem dX6_alters_154 : decode cX6_alters 154 = .ok (.iconst 2, 1) := by decide +kernel
theorem dX6_alters_155 : decode cX6_alters 155 = .ok (.if_icmp .ne 9, 3) := by decide +kernel
theorem dX6_alters_158 : decode cX6_alters 158 = .ok (.iload_n 3, 1) := by decide +kernel
theorem dX6_alters_159 : decode cX6_alters 159 = .ok (.iload 5, 2) := by decide +kernel
theorem dX6_alters_161 : decode cX6_alters 161 = .ok (.if_icmp .ge 20, 3) := by decide +kernel
theorem dX6_alters_164 : decode cX6_alters 164 = .ok (.iload_n 2, 1) := by decide +kernel
theorem dX6_alters_165 : decode cX6_alters 165 = .ok (.iconst 3, 1) := by decide +kernel
theorem dX6_alters_166 : decode cX6_alters 166 = .ok (.if_icmp .ne 19, 3) := by decide +kernel
theorem dX6_alters_169 : decode cX6_alters 169 = .ok (.iload_n 3, 1) := by decide +kernel
theorem dX6_alters_170 : decode cX6_alters 170 = .ok (.bipush 12, 2) := by decide +kernel
theorem dX6_alters_172 : decode cX6_alters 172 = .ok (.if_icmp .ge 13, 3) := by decide +kernel
theorem dX6_alters_175 : decode cX6_alters 175 = .ok (.iload_n 3, 1) := by decide +kernel
theorem dX6_alters_176 : decode cX6_alters 176 = .ok (.iload 5, 2) := by decide +kernel
theorem dX6_alters_178 : decode cX6_alters 178 = .ok (.if_icmp .lt 7, 3) := by decide +kernel
theorem dX6_alters_181 : decode cX6_alters 181 = .ok (.iconst 1, 1) := by decide +kernel
theorem dX6_alters_182 : decode cX6_alters 182 = .ok (.goto 4, 3) := by decide +kernel
theorem dX6_alters_185 : decode cX6_alters 185 = .ok (.iconst 0, 1) := by decide +kernel
theorem dX6_alters_186 : decode cX6_alters 186 = .ok (.istore 7, 2) := by decide +kernel
theorem dX6_alters_188 : decode cX6_alters 188 = .ok (.iload 7, 2) := by decide +kernel
theorem dX6_alters_190 : decode cX6_alters 190 = .ok (.ifCond .eq 6, 3) := by decide +kernel
theorem dX6_alters_193 : decode cX6_alters 193 = .ok (.bipush (-2), 2) := by decide +kernel
theorem dX6_alters_195 : decode cX6_alters 195 = .ok (.ireturn, 1) := by decide +kernel
theorem dX6_alters_196 : decode cX6_alters 196 = .ok (.iload_n 2, 1) := by decide +kernel
theorem dX6_alters_197 : decode cX6_alters 197 = .ok (.iconst 3, 1) := by decide +kernel
theorem dX6_alters_198 : decode cX6_alters 198 = .ok (.if_icmp .ne 8, 3) := by decide +kernel
theorem dX6_alters_201 : decode cX6_alters 201 = .ok (.bipush 12, 2) := by decide +kernel
theorem dX6_alters_203 : decode cX6_alters 203 = .ok (.goto 4, 3) := by decide +kernel
theorem dX6_alters_206 : decode cX6_alters 206 = .ok (.iconst 0, 1) := by decide +kernel
theorem dX6_alters_207 : decode cX6_alters 207 = .ok (.istore 8, 2) := by decide +kernel
theorem dX6_alters_209 : decode cX6_alters 209 = .ok (.aload_n 0, 1) := by decide +kernel
theorem dX6_alters_210 : decode cX6_alters 210 = .ok (.getfield 7, 3) := by decide +kernel
theorem dX6_alters_213 : decode cX6_alters 213 = .ok (.iconst 5, 1) := by decide +kernel
theorem dX6_alters_214 : decode cX6_alters 214 = .ok (.iload_n 2, 1) := by decide +kernel
theorem dX6_alters_215 : decode cX6_alters 215 = .ok (.imul, 1) := by decide +kernel
theorem dX6_alters_216 : decode cX6_alters 216 = .ok (.iload_n 1, 1) := by decide +kernel
theorem dX6_alters_217 : decode cX6_alters 217 = .ok (.iadd, 1) := by decide +kernel
theorem dX6_alters_218 : decode cX6_alters 218 = .ok (.iaload, 1) := by decide +kernel
theorem dX6_alters_219 : decode cX6_alters 219 = .ok (.iload 8, 2) := by decide +kernel
theorem dX6_alters_221 : decode cX6_alters 221 = .ok (.iadd, 1) := by decide +kernel
theorem dX6_alters_222 : decode cX6_alters 222 = .ok (.istore 9, 2) := by decide +kernel
theorem dX6_alters_224 : decode cX6_alters 224 = .ok (.aload_n 0, 1) := by decide +kernel
theorem dX6_alters_225 : decode cX6_alters 225 = .ok (.getfield 7, 3) := by decide +kernel
theorem dX6_alters_228 : decode cX6_alters 228 = .ok (.iconst 5, 1) := by decide +kernel
theorem dX6_alters_229 : decode cX6_alters 229 = .ok (.iload_n 2, 1) := by decide +kernel
theorem dX6_alters_230 : decode cX6_alters 230 = .ok (.imul, 1) := by decide +kernel
theorem dX6_alters_231 : decode cX6_alters 231 = .ok (.iload_n 1, 1) := by decide +kernel
theorem dX6_alters_232 : decode cX6_alters 232 = .ok (.iadd, 1) := by decide +kernel
theorem dX6_alters_233 : decode cX6_alters 233 = .ok (.iload_n 3, 1) := by decide +kernel
theorem dX6_alters_234 : decode cX6_alters 234 = .ok (.iload 8, 2) := by decide +kernel
theorem dX6_alters_236 : decode cX6_alters 236 = .ok (.isub, 1) := by decide +kernel
theorem dX6_alters_237 : decode cX6_alters 237 = .ok (.iastore, 1) := by decide +kernel
theorem dX6_alters_238 : decode cX6_alters 238 = .ok (.iload 9, 2) := by decide +kernel
theorem dX6_alters_240 : decode cX6_alters 240 = .ok (.ireturn, 1) := by decide +kernel
theorem dX6_alter_0 : decode cX6_alter 0 = .ok (.aload_n 0, 1) := by decide +kernel
theorem dX6_alter_1 : decode cX6_alter 1 = .ok (.iload_n 1, 1) := by decide +kernel
theorem dX6_alter_2 : decode cX6_alter 2 = .ok (.iload_n 2, 1) := by decide +kernel
theorem dX6_alter_3 : decode cX6_alter 3 = .ok (.iload_n 3, 1) := by decide +kernel
theorem dX6_alter_4 : decode cX6_alter 4 = .ok (.invokevirtual 157, 3) := by decide +kernel
theorem dX6_alter_7 : decode cX6_alter 7 = .ok (.ireturn, 1) := by decide +kernel
theorem dX6_add_0 : decode cX6_add 0 = .ok (.iload_n 1, 1) := by decide +kernel
theorem dX6_add_1 : decode cX6_add 1 = .ok (.i2l, 1) := by decide +kernel
theorem dX6_add_2 : decode cX6_add 2 = .ok (.lconst 0, 1) := by decide +kernel
theorem dX6_add_3 : decode cX6_add 3 = .ok (.ldc2_w 148, 3) := by decide +kernel
theorem dX6_add_6 : decode cX6_add 6 = .ok (.invokestatic 46, 3) := by decide +kernel
theorem dX6_add_9 : decode cX6_add 9 = .ok (.ifCond .eq 17, 3) := by decide +kernel
theorem dX6_add_12 : decode cX6_add 12 = .ok (.iload_n 2, 1) := by decide +kernel
theorem dX6_add_13 : decode cX6_add 13 = .ok (.i2l, 1) := by decide +kernel
theorem dX6_add_14 : decode cX6_add 14 = .ok (.ldc2_w 150, 3) := by decide +kernel
theorem dX6_add_17 : decode cX6_add 17 = .ok (.ldc2_w 152, 3) := by decide +kernel
theorem dX6_add_20 : decode cX6_add 20 = .ok (.invokestatic 46, 3) := by decide +kernel
theorem dX6_add_23 : decode cX6_add 23 = .ok (.ifCond .ne 5, 3) := by decide +kernel
theorem dX6_add_26 : decode cX6_add 26 = .ok (.iconst (-1), 1) := by decide +kernel
theorem dX6_add_27 : decode cX6_add 27 = .ok (.ireturn, 1) := by decide +kernel
theorem dX6_add_28 : decode cX6_add 28 = .ok (.aload_n 0, 1) := by decide +kernel
theorem dX6_add_29 : decode cX6_add 29 = .ok (.getfield 7, 3) := by decide +kernel
theorem dX6_add_32 : decode cX6_add 32 = .ok (.bipush 20, 2) := by decide +kernel
theorem dX6_add_34 : decode cX6_add 34 = .ok (.iaload, 1) := by decide +kernel
theorem dX6_add_35 : decode cX6_add 35 = .ok (.istore_n 3, 1) := by decide +kernel
theorem dX6_add_36 : decode cX6_add 36 = .ok (.iload_n 3, 1) := by decide +kernel
theorem dX6_add_37 : decode cX6_add 37 = .ok (.iconst 5, 1) := by decide +kernel
theorem dX6_add_38 : decode cX6_add 38 = .ok (.if_icmp .ne 6, 3) := by decide +kernel
theorem dX6_add_41 : decode cX6_add 41 = .ok (.bipush (-3), 2) := by decide +kernel
theorem dX6_add_43 : decode cX6_add 43 = .ok (.ireturn, 1) := by decide +kernel
theorem dX6_add_44 : decode cX6_add 44 = .ok (.aload_n 0, 1) := by decide +kernel
theorem dX6_add_45 : decode cX6_add 45 = .ok (.getfield 7, 3) := by decide +kernel
theorem dX6_add_48 : decode cX6_add 48 = .ok (.iload_n 3, 1) := by decide +kernel
theorem dX6_add_49 : decode cX6_add 49 = .ok (.iload_n 1, 1) := by decide +kernel
theorem dX6_add_50 : decode cX6_add 50 = .ok (.iastore, 1) := by decide +kernel
theorem dX6_add_51 : decode cX6_add 51 = .ok (.aload_n 0, 1) := by decide +kernel
theorem dX6_add_52 : decode cX6_add 52 = .ok (.getfield 7, 3) := by decide +kernel
theorem dX6_add_55 : decode cX6_add 55 = .ok (.iconst 5, 1) := by decide +kernel
theorem dX6_add_56 : decode cX6_add 56 = .ok (.iload_n 3, 1) := by decide +kernel
theorem dX6_add_57 : decode cX6_add 57 = .ok (.iadd, 1) := by decide +kernel
theorem dX6_add_58 : decode cX6_add 58 = .ok (.iload_n 2, 1) := by decide +kernel
theorem dX6_add_59 : decode cX6_add 59 = .ok (.iastore, 1) := by decide +kernel
theorem dX6_add_60 : decode cX6_add 60 = .ok (.aload_n 0, 1) := by decide +kernel
theorem dX6_add_61 : decode cX6_add 61 = .ok (.getfield 7, 3) := by decide +kernel
theorem dX6_add_64 : decode cX6_add 64 = .ok (.bipush 10, 2) := by decide +kernel
theorem dX6_add_66 : decode cX6_add 66 = .ok (.iload_n 3, 1) := by decide +kernel
theorem dX6_add_67 : decode cX6_add 67 = .ok (.iadd, 1) := by decide +kernel
theorem dX6_add_68 : decode cX6_add 68 = .ok (.iconst 0, 1) := by decide +kernel
theorem dX6_add_69 : decode cX6_add 69 = .ok (.iastore, 1) := by decide +kernel
theorem dX6_add_70 : decode cX6_add 70 = .ok (.aload_n 0, 1) := by decide +kernel
theorem dX6_add_71 : decode cX6_add 71 = .ok (.getfield 7, 3) := by decide +kernel
theorem dX6_add_74 : decode cX6_add 74 = .ok (.bipush 15, 2) := by decide +kernel
theorem dX6_add_76 : decode cX6_add 76 = .ok (.iload_n 3, 1) := by decide +kernel
theorem dX6_add_77 : decode cX6_add 77 = .ok (.iadd, 1) := by decide +kernel
theorem dX6_add_78 : decode cX6_add 78 = .ok (.iconst 0, 1) := by decide +kernel
theorem dX6_add_79 : decode cX6_add 79 = .ok (.iastore, 1) := by decide +kernel
theorem dX6_add_80 : decode cX6_add 80 = .ok (.aload_n 0, 1) := by decide +kernel
theorem dX6_add_81 : decode cX6_add 81 = .ok (.getfield 7, 3) := by decide +kernel
theorem dX6_add_84 : decode cX6_add 84 = .ok (.bipush 20, 2) := by decide +kernel
theorem dX6_add_86 : decode cX6_add 86 = .ok (.dup2, 1) := by decide +kernel
theorem dX6_add_87 : decode cX6_add 87 = .ok (.iaload, 1) := by decide +kernel
theorem dX6_add_88 : decode cX6_add 88 = .ok (.iconst 1, 1) := by decide +kernel
theorem dX6_add_89 : decode cX6_add 89 = .ok (.iadd, 1) := by decide +kernel
theorem dX6_add_90 : decode cX6_add 90 = .ok (.iastore, 1) := by decide +kernel
theorem dX6_add_91 : decode cX6_add 91 = .ok (.aload_n 0, 1) := by decide +kernel
theorem dX6_add_92 : decode cX6_add 92 = .ok (.getfield 7, 3) := by decide +kernel
theorem dX6_add_95 : decode cX6_add 95 = .ok (.bipush 20, 2) := by decide +kernel
theorem dX6_add_97 : decode cX6_add 97 = .ok (.iaload, 1) := by decide +kernel
theorem dX6_add_98 : decode cX6_add 98 = .ok (.ireturn, 1) := by decide +kernel
theorem dX6_cut_0 : decode cX6_cut 0 = .ok (.iload_n 1, 1) := by decide +kernel
theorem dX6_cut_1 : decode cX6_cut 1 = .ok (.i2l, 1) := by decide +kernel
theorem dX6_cut_2 : decode cX6_cut 2 = .ok (.lconst 0, 1) := by decide +kernel
theorem dX6_cut_3 : decode cX6_cut 3 = .ok (.aload_n 0, 1) := by decide +kernel
theorem dX6_cut_4 : decode cX6_cut 4 = .ok (.getfield 7, 3) := by decide +kernel
theorem dX6_cut_7 : decode cX6_cut 7 = .ok (.bipush 20, 2) := by decide +kernel
theorem dX6_cut_9 : decode cX6_cut 9 = .ok (.iaload, 1) := by decide +kernel
theorem dX6_cut_10 : decode cX6_cut 10 = .ok (.i2l, 1) := by decide +kernel
theorem dX6_cut_11 : decode cX6_cut 11 = .ok (.invokestatic 46, 3) := by decide +kernel
theorem dX6_cut_14 : decode cX6_cut 14 = .ok (.ifCond .ne 5, 3) := by decide +kernel
theorem dX6_cut_17 : decode cX6_cut 17 = .ok (.iconst (-1), 1) := by decide +kernel
theorem dX6_cut_18 : decode cX6_cut 18 = .ok (.ireturn, 1) := by decide +kernel
theorem dX6_cut_19 : decode cX6_cut 19 = .ok (.aload_n 0, 1) := by decide +kernel
theorem dX6_cut_20 : decode cX6_cut 20 = .ok (.getfield 7, 3) := by decide +kernel
theorem dX6_cut_23 : decode cX6_cut 23 = .ok (.bipush 20, 2) := by decide +kernel
theorem dX6_cut_25 : decode cX6_cut 25 = .ok (.iaload, 1) := by decide +kernel
theorem dX6_cut_26 : decode cX6_cut 26 = .ok (.istore_n 2, 1) := by decide +kernel
theorem dX6_cut_27 : decode cX6_cut 27 = .ok (.aload_n 0, 1) := by decide +kernel
theorem dX6_cut_28 : decode cX6_cut 28 = .ok (.getfield 7, 3) := by decide +kernel
theorem dX6_cut_31 : decode cX6_cut 31 = .ok (.bipush 20, 2) := by decide +kernel
theorem dX6_cut_33 : decode cX6_cut 33 = .ok (.iload_n 1, 1) := by decide +kernel
theorem dX6_cut_34 : decode cX6_cut 34 = .ok (.iastore, 1) := by decide +kernel
theorem dX6_cut_35 : decode cX6_cut 35 = .ok (.iload_n 2, 1) := by decide +kernel
theorem dX6_cut_36 : decode cX6_cut 36 = .ok (.ireturn, 1) := by decide +kernel
theorem dX6_turn_0 : decode cX6_turn 0 = .ok (.aload_n 0, 1) := by decide +kernel
theorem dX6_turn_1 : decode cX6_turn 1 = .ok (.iload_n 1, 1) := by decide +kernel
theorem dX6_turn_2 : decode cX6_turn 2 = .ok (.invokevirtual 144, 3) := by decide +kernel
theorem dX6_turn_5 : decode cX6_turn 5 = .ok (.ifCond .ne 5, 3) := by decide +kernel
theorem dX6_turn_8 : decode cX6_turn 8 = .ok (.iconst (-1), 1) := by decide +kernel
theorem dX6_turn_9 : decode cX6_turn 9 = .ok (.ireturn, 1) := by decide +kernel
theorem dX6_turn_10 : decode cX6_turn 10 = .ok (.aload_n 0, 1) := by decide +kernel
theorem dX6_turn_11 : decode cX6_turn 11 = .ok (.iconst 0, 1) := by decide +kernel
theorem dX6_turn_12 : decode cX6_turn 12 = .ok (.iload_n 1, 1) := by decide +kernel
theorem dX6_turn_13 : decode cX6_turn 13 = .ok (.invokevirtual 131, 3) := by decide +kernel
theorem dX6_turn_16 : decode cX6_turn 16 = .ok (.aload_n 0, 1) := by decide +kernel
theorem dX6_turn_17 : decode cX6_turn 17 = .ok (.iconst 0, 1) := by decide +kernel
theorem dX6_turn_18 : decode cX6_turn 18 = .ok (.invokevirtual 135, 3) := by decide +kernel
theorem dX6_turn_21 : decode cX6_turn 21 = .ok (.ireturn, 1) := by decide +kernel
theorem dX6_clear_0 : decode cX6_clear 0 = .ok (.aload_n 0, 1) := by decide +kernel
theorem dX6_clear_1 : decode cX6_clear 1 = .ok (.iconst 0, 1) := by decide +kernel
theorem dX6_clear_2 : decode cX6_clear 2 = .ok (.invokevirtual 135, 3) := by decide +kernel
theorem dX6_clear_5 : decode cX6_clear 5 = .ok (.istore_n 1, 1) := by decide +kernel
theorem dX6_clear_6 : decode cX6_clear 6 = .ok (.iconst 0, 1) := by decide +kernel
theorem dX6_clear_7 : decode cX6_clear 7 = .ok (.istore_n 2, 1) := by decide +kernel
theorem dX6_clear_8 : decode cX6_clear 8 = .ok (.iload_n 2, 1) := by decide +kernel
theorem dX6_clear_9 : decode cX6_clear 9 = .ok (.iconst 5, 1) := by decide +kernel
theorem dX6_clear_10 : decode cX6_clear 10 = .ok (.if_icmp .ge 19, 3) := by decide +kernel
theorem dX6_clear_13 : decode cX6_clear 13 = .ok (.aload_n 0, 1) := by decide +kernel
theorem dX6_clear_14 : decode cX6_clear 14 = .ok (.getfield 7, 3) := by decide +kernel
theorem dX6_clear_17 : decode cX6_clear 17 = .ok (.bipush 10, 2) := by decide +kernel
theorem dX6_clear_19 : decode cX6_clear 19 = .ok (.iload_n 2, 1) := by decide +kernel
theorem dX6_clear_20 : decode cX6_clear 20 = .ok (.iadd, 1) := by decide +kernel
theorem dX6_clear_21 : decode cX6_clear 21 = .ok (.iconst 0, 1) := by decide +kernel
theorem dX6_clear_22 : decode cX6_clear 22 = .ok (.iastore, 1) := by decide +kernel
theorem dX6_clear_23 : decode cX6_clear 23 = .ok (.iinc 2 1, 3) := by decide +kernel
theorem dX6_clear_26 : decode cX6_clear 26 = .ok (.goto (-18), 3) := by decide +kernel
theorem dX6_clear_29 : decode cX6_clear 29 = .ok (.aload_n 0, 1) := by decide +kernel
theorem dX6_clear_30 : decode cX6_clear 30 = .ok (.getfield 7, 3) := by decide +kernel
theorem dX6_clear_33 : decode cX6_clear 33 = .ok (.bipush 21, 2) := by decide +kernel
theorem dX6_clear_35 : decode cX6_clear 35 = .ok (.iconst 0, 1) := by decide +kernel
theorem dX6_clear_36 : decode cX6_clear 36 = .ok (.iastore, 1) := by decide +kernel
theorem dX6_clear_37 : decode cX6_clear 37 = .ok (.iload_n 1, 1) := by decide +kernel
theorem dX6_clear_38 : decode cX6_clear 38 = .ok (.ireturn, 1) := by decide +kernel
theorem dX6_pushes_0 : decode cX6_pushes 0 = .ok (.iload_n 1, 1) := by decide +kernel
theorem dX6_pushes_1 : decode cX6_pushes 1 = .ok (.i2l, 1) := by decide +kernel
theorem dX6_pushes_2 : decode cX6_pushes 2 = .ok (.lconst 0, 1) := by decide +kernel
theorem dX6_pushes_3 : decode cX6_pushes 3 = .ok (.ldc2_w 161, 3) := by decide +kernel
theorem dX6_pushes_6 : decode cX6_pushes 6 = .ok (.invokestatic 46, 3) := by decide +kernel
theorem dX6_pushes_9 : decode cX6_pushes 9 = .ok (.ifCond .ne 5, 3) := by decide +kernel
theorem dX6_pushes_12 : decode cX6_pushes 12 = .ok (.iconst (-1), 1) := by decide +kernel
theorem dX6_pushes_13 : decode cX6_pushes 13 = .ok (.ireturn, 1) := by decide +kernel
theorem dX6_pushes_14 : decode cX6_pushes 14 = .ok (.aload_n 0, 1) := by decide +kernel
theorem dX6_pushes_15 : decode cX6_pushes 15 = .ok (.getfield 7, 3) := by decide +kernel
theorem dX6_pushes_18 : decode cX6_pushes 18 = .ok (.bipush 21, 2) := by decide +kernel
theorem dX6_pushes_20 : decode cX6_pushes 20 = .ok (.iaload, 1) := by decide +kernel
theorem dX6_pushes_21 : decode cX6_pushes 21 = .ok (.iload_n 1, 1) := by decide +kernel
theorem dX6_pushes_22 : decode cX6_pushes 22 = .ok (.iadd, 1) := by decide +kernel
theorem dX6_pushes_23 : decode cX6_pushes 23 = .ok (.ldc 163, 2) := by decide +kernel
theorem dX6_pushes_25 : decode cX6_pushes 25 = .ok (.if_icmp .le 6, 3) := by decide +kernel
theorem dX6_pushes_28 : decode cX6_pushes 28 = .ok (.bipush (-3), 2) := by decide +kernel
theorem dX6_pushes_30 : decode cX6_pushes 30 = .ok (.ireturn, 1) := by decide +kernel
theorem dX6_pushes_31 : decode cX6_pushes 31 = .ok (.iconst 0, 1) := by decide +kernel
theorem dX6_pushes_32 : decode cX6_pushes 32 = .ok (.istore_n 2, 1) := by decide +kernel
theorem dX6_pushes_33 : decode cX6_pushes 33 = .ok (.iload_n 2, 1) := by decide +kernel
theorem dX6_pushes_34 : decode cX6_pushes 34 = .ok (.iload_n 1, 1) := by decide +kernel
theorem dX6_pushes_35 : decode cX6_pushes 35 = .ok (.if_icmp .ge 14, 3) := by decide +kernel
theorem dX6_pushes_38 : decode cX6_pushes 38 = .ok (.aload_n 0, 1) := by decide +kernel
theorem dX6_pushes_39 : decode cX6_pushes 39 = .ok (.iconst 0, 1) := by decide +kernel
theorem dX6_pushes_40 : decode cX6_pushes 40 = .ok (.invokevirtual 164, 3) := by decide +kernel
theorem dX6_pushes_43 : decode cX6_pushes 43 = .ok (.iinc 2 1, 3) := by decide +kernel
theorem dX6_pushes_46 : decode cX6_pushes 46 = .ok (.goto (-13), 3) := by decide +kernel
theorem dX6_pushes_49 : decode cX6_pushes 49 = .ok (.aload_n 0, 1) := by decide +kernel
theorem dX6_pushes_50 : decode cX6_pushes 50 = .ok (.iconst 0, 1) := by decide +kernel
theorem dX6_pushes_51 : decode cX6_pushes 51 = .ok (.invokevirtual 135, 3) := by decide +kernel
theorem dX6_pushes_54 : decode cX6_pushes 54 = .ok (.ireturn, 1) := by decide +kernel
theorem dX6_copies_0 : decode cX6_copies 0 = .ok (.iconst 0, 1) := by decide +kernel
theorem dX6_copies_1 : decode cX6_copies 1 = .ok (.istore_n 3, 1) := by decide +kernel
theorem dX6_copies_2 : decode cX6_copies 2 = .ok (.iload_n 3, 1) := by decide +kernel
theorem dX6_copies_3 : decode cX6_copies 3 = .ok (.bipush 22, 2) := by decide +kernel
theorem dX6_copies_5 : decode cX6_copies 5 = .ok (.if_icmp .ge 25, 3) := by decide +kernel
theorem dX6_copies_8 : decode cX6_copies 8 = .ok (.aload_n 0, 1) := by decide +kernel
theorem dX6_copies_9 : decode cX6_copies 9 = .ok (.getfield 7, 3) := by decide +kernel
theorem dX6_copies_12 : decode cX6_copies 12 = .ok (.iload_n 2, 1) := by decide +kernel
theorem dX6_copies_13 : decode cX6_copies 13 = .ok (.iload_n 3, 1) := by decide +kernel
theorem dX6_copies_14 : decode cX6_copies 14 = .ok (.iadd, 1) := by decide +kernel
theorem dX6_copies_15 : decode cX6_copies 15 = .ok (.aload_n 0, 1) := by decide +kernel
theorem dX6_copies_16 : decode cX6_copies 16 = .ok (.getfield 7, 3) := by decide +kernel
theorem dX6_copies_19 : decode cX6_copies 19 = .ok (.iload_n 1, 1) := by decide +kernel
theorem dX6_copies_20 : decode cX6_copies 20 = .ok (.iload_n 3, 1) := by decide +kernel
theorem dX6_copies_21 : decode cX6_copies 21 = .ok (.iadd, 1) := by decide +kernel
theorem dX6_copies_22 : decode cX6_copies 22 = .ok (.iaload, 1) := by decide +kernel
theorem dX6_copies_23 : decode cX6_copies 23 = .ok (.iastore, 1) := by decide +kernel
theorem dX6_copies_24 : decode cX6_copies 24 = .ok (.iinc 3 1, 3) := by decide +kernel
theorem dX6_copies_27 : decode cX6_copies 27 = .ok (.goto (-25), 3) := by decide +kernel
theorem dX6_copies_30 : decode cX6_copies 30 = .ok (.return_, 1) := by decide +kernel
theorem dX6_pushesGo_0 : decode cX6_pushesGo 0 = .ok (.aload_n 0, 1) := by decide +kernel
theorem dX6_pushesGo_1 : decode cX6_pushesGo 1 = .ok (.iload_n 1, 1) := by decide +kernel
theorem dX6_pushesGo_2 : decode cX6_pushesGo 2 = .ok (.bipush 88, 2) := by decide +kernel
theorem dX6_pushesGo_4 : decode cX6_pushesGo 4 = .ok (.invokevirtual 167, 3) := by decide +kernel
theorem dX6_pushesGo_7 : decode cX6_pushesGo 7 = .ok (.aload_n 0, 1) := by decide +kernel
theorem dX6_pushesGo_8 : decode cX6_pushesGo 8 = .ok (.iconst 0, 1) := by decide +kernel
theorem dX6_pushesGo_9 : decode cX6_pushesGo 9 = .ok (.putfield 125, 3) := by decide +kernel
theorem dX6_pushesGo_12 : decode cX6_pushesGo 12 = .ok (.aload_n 0, 1) := by decide +kernel
theorem dX6_pushesGo_13 : decode cX6_pushesGo 13 = .ok (.iconst 0, 1) := by decide +kernel
theorem dX6_pushesGo_14 : decode cX6_pushesGo 14 = .ok (.putfield 170, 3) := by decide +kernel
theorem dX6_pushesGo_17 : decode cX6_pushesGo 17 = .ok (.aload_n 0, 1) := by decide +kernel
theorem dX6_pushesGo_18 : decode cX6_pushesGo 18 = .ok (.bipush 88, 2) := by decide +kernel
theorem dX6_pushesGo_20 : decode cX6_pushesGo 20 = .ok (.invokevirtual 135, 3) := by decide +kernel
theorem dX6_pushesGo_23 : decode cX6_pushesGo 23 = .ok (.istore_n 3, 1) := by decide +kernel
theorem dX6_pushesGo_24 : decode cX6_pushesGo 24 = .ok (.aload_n 0, 1) := by decide +kernel
theorem dX6_pushesGo_25 : decode cX6_pushesGo 25 = .ok (.iload_n 3, 1) := by decide +kernel
theorem dX6_pushesGo_26 : decode cX6_pushesGo 26 = .ok (.putfield 173, 3) := by decide +kernel
theorem dX6_pushesGo_29 : decode cX6_pushesGo 29 = .ok (.iconst 0, 1) := by decide +kernel
theorem dX6_pushesGo_30 : decode cX6_pushesGo 30 = .ok (.istore 4, 2) := by decide +kernel
theorem dX6_pushesGo_32 : decode cX6_pushesGo 32 = .ok (.iload 4, 2) := by decide +kernel
theorem dX6_pushesGo_34 : decode cX6_pushesGo 34 = .ok (.iload_n 2, 1) := by decide +kernel
theorem dX6_pushesGo_35 : decode cX6_pushesGo 35 = .ok (.if_icmp .ge 60, 3) := by decide +kernel
theorem dX6_pushesGo_38 : decode cX6_pushesGo 38 = .ok (.aload_n 0, 1) := by decide +kernel
theorem dX6_pushesGo_39 : decode cX6_pushesGo 39 = .ok (.bipush 88, 2) := by decide +kernel
theorem dX6_pushesGo_41 : decode cX6_pushesGo 41 = .ok (.invokevirtual 164, 3) := by decide +kernel
theorem dX6_pushesGo_44 : decode cX6_pushesGo 44 = .ok (.aload_n 0, 1) := by decide +kernel
theorem dX6_pushesGo_45 : decode cX6_pushesGo 45 = .ok (.bipush 88, 2) := by decide +kernel
theorem dX6_pushesGo_47 : decode cX6_pushesGo 47 = .ok (.invokevirtual 135, 3) := by decide +kernel
theorem dX6_pushesGo_50 : decode cX6_pushesGo 50 = .ok (.istore_n 3, 1) := by decide +kernel
theorem dX6_pushesGo_51 : decode cX6_pushesGo 51 = .ok (.aload_n 0, 1) := by decide +kernel
theorem dX6_pushesGo_52 : decode cX6_pushesGo 52 = .ok (.iload_n 3, 1) := by decide +kernel
theorem dX6_pushesGo_53 : decode cX6_pushesGo 53 = .ok (.aload_n 0, 1) := by decide +kernel
theorem dX6_pushesGo_54 : decode cX6_pushesGo 54 = .ok (.getfield 173, 3) := by decide +kernel
theorem dX6_pushesGo_57 : decode cX6_pushesGo 57 = .ok (.if_icmp .le 7, 3) := by decide +kernel
theorem dX6_pushesGo_60 : decode cX6_pushesGo 60 = .ok (.iload_n 3, 1) := by decide +kernel
theorem dX6_pushesGo_61 : decode cX6_pushesGo 61 = .ok (.goto 7, 3) := by decide +kernel
theorem dX6_pushesGo_64 : decode cX6_pushesGo 64 = .ok (.aload_n 0, 1) := by decide +kernel
theorem dX6_pushesGo_65 : decode cX6_pushesGo 65 = .ok (.getfield 173, 3) := by decide +kernel
theorem dX6_pushesGo_68 : decode cX6_pushesGo 68 = .ok (.putfield 173, 3) := by decide +kernel
theorem dX6_pushesGo_71 : decode cX6_pushesGo 71 = .ok (.aload_n 0, 1) := by decide +kernel
theorem dX6_pushesGo_72 : decode cX6_pushesGo 72 = .ok (.dup, 1) := by decide +kernel
theorem dX6_pushesGo_73 : decode cX6_pushesGo 73 = .ok (.getfield 170, 3) := by decide +kernel
theorem dX6_pushesGo_76 : decode cX6_pushesGo 76 = .ok (.iload_n 3, 1) := by decide +kernel
theorem dX6_pushesGo_77 : decode cX6_pushesGo 77 = .ok (.ifCond .ne 7, 3) := by decide +kernel
theorem dX6_pushesGo_80 : decode cX6_pushesGo 80 = .ok (.iconst 1, 1) := by decide +kernel
theorem dX6_pushesGo_81 : decode cX6_pushesGo 81 = .ok (.goto 4, 3) := by decide +kernel
theorem dX6_pushesGo_84 : decode cX6_pushesGo 84 = .ok (.iconst 0, 1) := by decide +kernel
theorem dX6_pushesGo_85 : decode cX6_pushesGo 85 = .ok (.iadd, 1) := by decide +kernel
theorem dX6_pushesGo_86 : decode cX6_pushesGo 86 = .ok (.putfield 170, 3) := by decide +kernel
theorem dX6_pushesGo_89 : decode cX6_pushesGo 89 = .ok (.iinc 4 1, 3) := by decide +kernel
