theorem dX4_goTo_71 : decode cX4_goTo 71 = .ok (.iconst 0, 1) := by decide +kernel
theorem dX4_goTo_72 : decode cX4_goTo 72 = .ok (.istore 5, 2) := by decide +kernel
theorem dX4_goTo_74 : decode cX4_goTo 74 = .ok (.iload 5, 2) := by decide +kernel
theorem dX4_goTo_76 : decode cX4_goTo 76 = .ok (.iconst 5, 1) := by decide +kernel
theorem dX4_goTo_77 : decode cX4_goTo 77 = .ok (.if_icmp .ge 43, 3) := by decide +kernel
theorem dX4_goTo_80 : decode cX4_goTo 80 = .ok (.iload 4, 2) := by decide +kernel
theorem dX4_goTo_82 : decode cX4_goTo 82 = .ok (.ifCond .ne 25, 3) := by decide +kernel
theorem dX4_goTo_85 : decode cX4_goTo 85 = .ok (.aload_n 0, 1) := by decide +kernel
theorem dX4_goTo_86 : decode cX4_goTo 86 = .ok (.getfield 57, 3) := by decide +kernel
theorem dX4_goTo_89 : decode cX4_goTo 89 = .ok (.iload 5, 2) := by decide +kernel
theorem dX4_goTo_91 : decode cX4_goTo 91 = .ok (.iaload, 1) := by decide +kernel
theorem dX4_goTo_92 : decode cX4_goTo 92 = .ok (.iload_n 3, 1) := by decide +kernel
theorem dX4_goTo_93 : decode cX4_goTo 93 = .ok (.if_icmp .ne 18, 3) := by decide +kernel
theorem dX4_goTo_96 : decode cX4_goTo 96 = .ok (.aload_n 0, 1) := by decide +kernel
theorem dX4_goTo_97 : decode cX4_goTo 97 = .ok (.getfield 60, 3) := by decide +kernel
theorem dX4_goTo_100 : decode cX4_goTo 100 = .ok (.iload 5, 2) := by decide +kernel
theorem dX4_goTo_102 : decode cX4_goTo 102 = .ok (.iaload, 1) := by decide +kernel
theorem dX4_goTo_103 : decode cX4_goTo 103 = .ok (.iconst (-1), 1) := by decide +kernel
theorem dX4_goTo_104 : decode cX4_goTo 104 = .ok (.if_icmp .eq 7, 3) := by decide +kernel
theorem dX4_goTo_107 : decode cX4_goTo 107 = .ok (.iconst 1, 1) := by decide +kernel
theorem dX4_goTo_108 : decode cX4_goTo 108 = .ok (.goto 4, 3) := by decide +kernel
theorem dX4_goTo_111 : decode cX4_goTo 111 = .ok (.iconst 0, 1) := by decide +kernel
theorem dX4_goTo_112 : decode cX4_goTo 112 = .ok (.istore 4, 2) := by decide +kernel
theorem dX4_goTo_114 : decode cX4_goTo 114 = .ok (.iinc 5 1, 3) := by decide +kernel
theorem dX4_goTo_117 : decode cX4_goTo 117 = .ok (.goto (-43), 3) := by decide +kernel
theorem dX4_goTo_120 : decode cX4_goTo 120 = .ok (.aload_n 0, 1) := by decide +kernel
theorem dX4_goTo_121 : decode cX4_goTo 121 = .ok (.getfield 54, 3) := by decide +kernel
theorem dX4_goTo_124 : decode cX4_goTo 124 = .ok (.iload_n 3, 1) := by decide +kernel
theorem dX4_goTo_125 : decode cX4_goTo 125 = .ok (.iload 4, 2) := by decide +kernel
theorem dX4_goTo_127 : decode cX4_goTo 127 = .ok (.ifCond .eq 19, 3) := by decide +kernel
theorem dX4_goTo_130 : decode cX4_goTo 130 = .ok (.aload_n 0, 1) := by decide +kernel
theorem dX4_goTo_131 : decode cX4_goTo 131 = .ok (.getfield 54, 3) := by decide +kernel
theorem dX4_goTo_134 : decode cX4_goTo 134 = .ok (.iload_n 3, 1) := by decide +kernel
theorem dX4_goTo_135 : decode cX4_goTo 135 = .ok (.iaload, 1) := by decide +kernel
theorem dX4_goTo_136 : decode cX4_goTo 136 = .ok (.aload_n 0, 1) := by decide +kernel
theorem dX4_goTo_137 : decode cX4_goTo 137 = .ok (.getfield 39, 3) := by decide +kernel
theorem dX4_goTo_140 : decode cX4_goTo 140 = .ok (.iload_n 2, 1) := by decide +kernel
theorem dX4_goTo_141 : decode cX4_goTo 141 = .ok (.iaload, 1) := by decide +kernel
theorem dX4_goTo_142 : decode cX4_goTo 142 = .ok (.iadd, 1) := by decide +kernel
theorem dX4_goTo_143 : decode cX4_goTo 143 = .ok (.goto 25, 3) := by decide +kernel
theorem dX4_goTo_146 : decode cX4_goTo 146 = .ok (.aload_n 0, 1) := by decide +kernel
theorem dX4_goTo_147 : decode cX4_goTo 147 = .ok (.getfield 54, 3) := by decide +kernel
theorem dX4_goTo_150 : decode cX4_goTo 150 = .ok (.iload_n 3, 1) := by decide +kernel
theorem dX4_goTo_151 : decode cX4_goTo 151 = .ok (.iaload, 1) := by decide +kernel
theorem dX4_goTo_152 : decode cX4_goTo 152 = .ok (.iconst 2, 1) := by decide +kernel
theorem dX4_goTo_153 : decode cX4_goTo 153 = .ok (.if_icmp .le 14, 3) := by decide +kernel
theorem dX4_goTo_156 : decode cX4_goTo 156 = .ok (.aload_n 0, 1) := by decide +kernel
theorem dX4_goTo_157 : decode cX4_goTo 157 = .ok (.getfield 54, 3) := by decide +kernel
theorem dX4_goTo_160 : decode cX4_goTo 160 = .ok (.iload_n 3, 1) := by decide +kernel
theorem dX4_goTo_161 : decode cX4_goTo 161 = .ok (.iaload, 1) := by decide +kernel
theorem dX4_goTo_162 : decode cX4_goTo 162 = .ok (.iconst 2, 1) := by decide +kernel
theorem dX4_goTo_163 : decode cX4_goTo 163 = .ok (.isub, 1) := by decide +kernel
theorem dX4_goTo_164 : decode cX4_goTo 164 = .ok (.goto 4, 3) := by decide +kernel
theorem dX4_goTo_167 : decode cX4_goTo 167 = .ok (.iconst 0, 1) := by decide +kernel
theorem dX4_goTo_168 : decode cX4_goTo 168 = .ok (.iastore, 1) := by decide +kernel
theorem dX4_goTo_169 : decode cX4_goTo 169 = .ok (.aload_n 0, 1) := by decide +kernel
theorem dX4_goTo_170 : decode cX4_goTo 170 = .ok (.aload_n 0, 1) := by decide +kernel
theorem dX4_goTo_171 : decode cX4_goTo 171 = .ok (.getfield 125, 3) := by decide +kernel
theorem dX4_goTo_174 : decode cX4_goTo 174 = .ok (.aload_n 0, 1) := by decide +kernel
theorem dX4_goTo_175 : decode cX4_goTo 175 = .ok (.getfield 54, 3) := by decide +kernel
theorem dX4_goTo_178 : decode cX4_goTo 178 = .ok (.iload_n 3, 1) := by decide +kernel
theorem dX4_goTo_179 : decode cX4_goTo 179 = .ok (.iaload, 1) := by decide +kernel
theorem dX4_goTo_180 : decode cX4_goTo 180 = .ok (.aload_n 0, 1) := by decide +kernel
theorem dX4_goTo_181 : decode cX4_goTo 181 = .ok (.getfield 42, 3) := by decide +kernel
theorem dX4_goTo_184 : decode cX4_goTo 184 = .ok (.if_icmp .le 9, 3) := by decide +kernel
theorem dX4_goTo_187 : decode cX4_goTo 187 = .ok (.iconst 1, 1) := by decide +kernel
theorem dX4_goTo_188 : decode cX4_goTo 188 = .ok (.iload_n 3, 1) := by decide +kernel
theorem dX4_goTo_189 : decode cX4_goTo 189 = .ok (.ishl, 1) := by decide +kernel
theorem dX4_goTo_190 : decode cX4_goTo 190 = .ok (.goto 4, 3) := by decide +kernel
theorem dX4_goTo_193 : decode cX4_goTo 193 = .ok (.iconst 0, 1) := by decide +kernel
theorem dX4_goTo_194 : decode cX4_goTo 194 = .ok (.ior, 1) := by decide +kernel
theorem dX4_goTo_195 : decode cX4_goTo 195 = .ok (.putfield 125, 3) := by decide +kernel
theorem dX4_goTo_198 : decode cX4_goTo 198 = .ok (.iinc 3 1, 3) := by decide +kernel
theorem dX4_goTo_201 : decode cX4_goTo 201 = .ok (.goto (-141), 3) := by decide +kernel
theorem dX4_goTo_204 : decode cX4_goTo 204 = .ok (.iconst 0, 1) := by decide +kernel
theorem dX4_goTo_205 : decode cX4_goTo 205 = .ok (.istore_n 3, 1) := by decide +kernel
theorem dX4_goTo_206 : decode cX4_goTo 206 = .ok (.iload_n 3, 1) := by decide +kernel
theorem dX4_goTo_207 : decode cX4_goTo 207 = .ok (.iconst 5, 1) := by decide +kernel
theorem dX4_goTo_208 : decode cX4_goTo 208 = .ok (.if_icmp .ge 70, 3) := by decide +kernel
theorem dX4_goTo_211 : decode cX4_goTo 211 = .ok (.aload_n 0, 1) := by decide +kernel
theorem dX4_goTo_212 : decode cX4_goTo 212 = .ok (.getfield 39, 3) := by decide +kernel
theorem dX4_goTo_215 : decode cX4_goTo 215 = .ok (.iload_n 2, 1) := by decide +kernel
theorem dX4_goTo_216 : decode cX4_goTo 216 = .ok (.iaload, 1) := by decide +kernel
theorem dX4_goTo_217 : decode cX4_goTo 217 = .ok (.iconst 5, 1) := by decide +kernel
theorem dX4_goTo_218 : decode cX4_goTo 218 = .ok (.if_icmp .le 7, 3) := by decide +kernel
theorem dX4_goTo_221 : decode cX4_goTo 221 = .ok (.iconst 2, 1) := by decide +kernel
theorem dX4_goTo_222 : decode cX4_goTo 222 = .ok (.goto 4, 3) := by decide +kernel
theorem dX4_goTo_225 : decode cX4_goTo 225 = .ok (.iconst 1, 1) := by decide +kernel
theorem dX4_goTo_226 : decode cX4_goTo 226 = .ok (.istore 4, 2) := by decide +kernel
theorem dX4_goTo_228 : decode cX4_goTo 228 = .ok (.aload_n 0, 1) := by decide +kernel
theorem dX4_goTo_229 : decode cX4_goTo 229 = .ok (.getfield 63, 3) := by decide +kernel
theorem dX4_goTo_232 : decode cX4_goTo 232 = .ok (.iload_n 3, 1) := by decide +kernel
theorem dX4_goTo_233 : decode cX4_goTo 233 = .ok (.dup2, 1) := by decide +kernel
theorem dX4_goTo_234 : decode cX4_goTo 234 = .ok (.iaload, 1) := by decide +kernel
theorem dX4_goTo_235 : decode cX4_goTo 235 = .ok (.aload_n 0, 1) := by decide +kernel
theorem dX4_goTo_236 : decode cX4_goTo 236 = .ok (.getfield 60, 3) := by decide +kernel
theorem dX4_goTo_239 : decode cX4_goTo 239 = .ok (.iload_n 3, 1) := by decide +kernel
theorem dX4_goTo_240 : decode cX4_goTo 240 = .ok (.iaload, 1) := by decide +kernel
theorem dX4_goTo_241 : decode cX4_goTo 241 = .ok (.iconst (-1), 1) := by decide +kernel
theorem dX4_goTo_242 : decode cX4_goTo 242 = .ok (.if_icmp .ne 7, 3) := by decide +kernel
theorem dX4_goTo_245 : decode cX4_goTo 245 = .ok (.iconst 0, 1) := by decide +kernel
theorem dX4_goTo_246 : decode cX4_goTo 246 = .ok (.goto 24, 3) := by decide +kernel
theorem dX4_goTo_249 : decode cX4_goTo 249 = .ok (.aload_n 0, 1) := by decide +kernel
theorem dX4_goTo_250 : decode cX4_goTo 250 = .ok (.getfield 60, 3) := by decide +kernel
theorem dX4_goTo_253 : decode cX4_goTo 253 = .ok (.iload_n 3, 1) := by decide +kernel
theorem dX4_goTo_254 : decode cX4_goTo 254 = .ok (.iaload, 1) := by decide +kernel
theorem dX4_goTo_255 : decode cX4_goTo 255 = .ok (.iload_n 3, 1) := by decide +kernel
theorem dX4_goTo_256 : decode cX4_goTo 256 = .ok (.if_icmp .ne 8, 3) := by decide +kernel
theorem dX4_goTo_259 : decode cX4_goTo 259 = .ok (.iload 4, 2) := by decide +kernel
theorem dX4_goTo_261 : decode cX4_goTo 261 = .ok (.goto 9, 3) := by decide +kernel
theorem dX4_goTo_264 : decode cX4_goTo 264 = .ok (.iconst 2, 1) := by decide +kernel
theorem dX4_goTo_265 : decode cX4_goTo 265 = .ok (.iload 4, 2) := by decide +kernel
theorem dX4_goTo_267 : decode cX4_goTo 267 = .ok (.imul, 1) := by decide +kernel
theorem dX4_goTo_268 : decode cX4_goTo 268 = .ok (.iconst 1, 1) := by decide +kernel
theorem dX4_goTo_269 : decode cX4_goTo 269 = .ok (.iadd, 1) := by decide +kernel
theorem dX4_goTo_270 : decode cX4_goTo 270 = .ok (.iadd, 1) := by decide +kernel
theorem dX4_goTo_271 : decode cX4_goTo 271 = .ok (.iastore, 1) := by decide +kernel
theorem dX4_goTo_272 : decode cX4_goTo 272 = .ok (.iinc 3 1, 3) := by decide +kernel
theorem dX4_goTo_275 : decode cX4_goTo 275 = .ok (.goto (-69), 3) := by decide +kernel
theorem dX4_goTo_278 : decode cX4_goTo 278 = .ok (.iinc 2 1, 3) := by decide +kernel
theorem dX4_goTo_281 : decode cX4_goTo 281 = .ok (.goto (-233), 3) := by decide +kernel
theorem dX4_goTo_284 : decode cX4_goTo 284 = .ok (.return_, 1) := by decide +kernel
theorem dX4_on_0 : decode cX4_on 0 = .ok (.iload_n 1, 1) := by decide +kernel
theorem dX4_on_1 : decode cX4_on 1 = .ok (.invokestatic 119, 3) := by decide +kernel
theorem dX4_on_4 : decode cX4_on 4 = .ok (.ifCond .eq 10, 3) := by decide +kernel
theorem dX4_on_7 : decode cX4_on 7 = .ok (.iload_n 2, 1) := by decide +kernel
theorem dX4_on_8 : decode cX4_on 8 = .ok (.invokestatic 116, 3) := by decide +kernel
theorem dX4_on_11 : decode cX4_on 11 = .ok (.ifCond .ne 6, 3) := by decide +kernel
theorem dX4_on_14 : decode cX4_on 14 = .ok (.bipush (-2), 2) := by decide +kernel
theorem dX4_on_16 : decode cX4_on 16 = .ok (.ireturn, 1) := by decide +kernel
theorem dX4_on_17 : decode cX4_on 17 = .ok (.aload_n 0, 1) := by decide +kernel
theorem dX4_on_18 : decode cX4_on 18 = .ok (.iload_n 2, 1) := by decide +kernel
theorem dX4_on_19 : decode cX4_on 19 = .ok (.invokevirtual 131, 3) := by decide +kernel
theorem dX4_on_22 : decode cX4_on 22 = .ok (.aload_n 0, 1) := by decide +kernel
theorem dX4_on_23 : decode cX4_on 23 = .ok (.getfield 57, 3) := by decide +kernel
theorem dX4_on_26 : decode cX4_on 26 = .ok (.iload_n 1, 1) := by decide +kernel
theorem dX4_on_27 : decode cX4_on 27 = .ok (.iaload, 1) := by decide +kernel
theorem dX4_on_28 : decode cX4_on 28 = .ok (.ireturn, 1) := by decide +kernel
theorem dX4_heard_0 : decode cX4_heard 0 = .ok (.iload_n 1, 1) := by decide +kernel
theorem dX4_heard_1 : decode cX4_heard 1 = .ok (.invokestatic 119, 3) := by decide +kernel
theorem dX4_heard_4 : decode cX4_heard 4 = .ok (.ifCond .eq 10, 3) := by decide +kernel
theorem dX4_heard_7 : decode cX4_heard 7 = .ok (.iload_n 2, 1) := by decide +kernel
theorem dX4_heard_8 : decode cX4_heard 8 = .ok (.invokestatic 116, 3) := by decide +kernel
theorem dX4_heard_11 : decode cX4_heard 11 = .ok (.ifCond .ne 6, 3) := by decide +kernel
theorem dX4_heard_14 : decode cX4_heard 14 = .ok (.bipush (-2), 2) := by decide +kernel
theorem dX4_heard_16 : decode cX4_heard 16 = .ok (.ireturn, 1) := by decide +kernel
theorem dX4_heard_17 : decode cX4_heard 17 = .ok (.aload_n 0, 1) := by decide +kernel
theorem dX4_heard_18 : decode cX4_heard 18 = .ok (.iload_n 2, 1) := by decide +kernel
theorem dX4_heard_19 : decode cX4_heard 19 = .ok (.invokevirtual 131, 3) := by decide +kernel
theorem dX4_heard_22 : decode cX4_heard 22 = .ok (.aload_n 0, 1) := by decide +kernel
theorem dX4_heard_23 : decode cX4_heard 23 = .ok (.getfield 60, 3) := by decide +kernel
theorem dX4_heard_26 : decode cX4_heard 26 = .ok (.iload_n 1, 1) := by decide +kernel
theorem dX4_heard_27 : decode cX4_heard 27 = .ok (.iaload, 1) := by decide +kernel
theorem dX4_heard_28 : decode cX4_heard 28 = .ok (.ireturn, 1) := by decide +kernel
theorem dX4_tired_0 : decode cX4_tired 0 = .ok (.aload_n 0, 1) := by decide +kernel
theorem dX4_tired_1 : decode cX4_tired 1 = .ok (.iload_n 1, 1) := by decide +kernel
theorem dX4_tired_2 : decode cX4_tired 2 = .ok (.invokevirtual 73, 3) := by decide +kernel
theorem dX4_tired_5 : decode cX4_tired 5 = .ok (.ifCond .eq 10, 3) := by decide +kernel
theorem dX4_tired_8 : decode cX4_tired 8 = .ok (.iload_n 2, 1) := by decide +kernel
theorem dX4_tired_9 : decode cX4_tired 9 = .ok (.invokestatic 116, 3) := by decide +kernel
theorem dX4_tired_12 : decode cX4_tired 12 = .ok (.ifCond .ne 6, 3) := by decide +kernel
theorem dX4_tired_15 : decode cX4_tired 15 = .ok (.bipush (-2), 2) := by decide +kernel
theorem dX4_tired_17 : decode cX4_tired 17 = .ok (.ireturn, 1) := by decide +kernel
theorem dX4_tired_18 : decode cX4_tired 18 = .ok (.aload_n 0, 1) := by decide +kernel
theorem dX4_tired_19 : decode cX4_tired 19 = .ok (.iload_n 2, 1) := by decide +kernel
theorem dX4_tired_20 : decode cX4_tired 20 = .ok (.invokevirtual 131, 3) := by decide +kernel
theorem dX4_tired_23 : decode cX4_tired 23 = .ok (.aload_n 0, 1) := by decide +kernel
theorem dX4_tired_24 : decode cX4_tired 24 = .ok (.getfield 54, 3) := by decide +kernel
theorem dX4_tired_27 : decode cX4_tired 27 = .ok (.iload_n 1, 1) := by decide +kernel
theorem dX4_tired_28 : decode cX4_tired 28 = .ok (.iaload, 1) := by decide +kernel
theorem dX4_tired_29 : decode cX4_tired 29 = .ok (.ireturn, 1) := by decide +kernel
theorem dX4_late_0 : decode cX4_late 0 = .ok (.iload_n 1, 1) := by decide +kernel
theorem dX4_late_1 : decode cX4_late 1 = .ok (.invokestatic 119, 3) := by decide +kernel
theorem dX4_late_4 : decode cX4_late 4 = .ok (.ifCond .ne 6, 3) := by decide +kernel
theorem dX4_late_7 : decode cX4_late 7 = .ok (.bipush (-2), 2) := by decide +kernel
theorem dX4_late_9 : decode cX4_late 9 = .ok (.ireturn, 1) := by decide +kernel
theorem dX4_late_10 : decode cX4_late 10 = .ok (.aload_n 0, 1) := by decide +kernel
theorem dX4_late_11 : decode cX4_late 11 = .ok (.bipush 15, 2) := by decide +kernel
theorem dX4_late_13 : decode cX4_late 13 = .ok (.invokevirtual 131, 3) := by decide +kernel
theorem dX4_late_16 : decode cX4_late 16 = .ok (.aload_n 0, 1) := by decide +kernel
theorem dX4_late_17 : decode cX4_late 17 = .ok (.getfield 63, 3) := by decide +kernel
theorem dX4_late_20 : decode cX4_late 20 = .ok (.iload_n 1, 1) := by decide +kernel
theorem dX4_late_21 : decode cX4_late 21 = .ok (.iaload, 1) := by decide +kernel
theorem dX4_late_22 : decode cX4_late 22 = .ok (.ireturn, 1) := by decide +kernel
theorem dX4_worn_0 : decode cX4_worn 0 = .ok (.aload_n 0, 1) := by decide +kernel
theorem dX4_worn_1 : decode cX4_worn 1 = .ok (.bipush 15, 2) := by decide +kernel
theorem dX4_worn_3 : decode cX4_worn 3 = .ok (.invokevirtual 131, 3) := by decide +kernel
theorem dX4_worn_6 : decode cX4_worn 6 = .ok (.aload_n 0, 1) := by decide +kernel
theorem dX4_worn_7 : decode cX4_worn 7 = .ok (.getfield 125, 3) := by decide +kernel
theorem dX4_worn_10 : decode cX4_worn 10 = .ok (.ireturn, 1) := by decide +kernel
theorem dX4_count_0 : decode cX4_count 0 = .ok (.iconst 0, 1) := by decide +kernel
theorem dX4_count_1 : decode cX4_count 1 = .ok (.istore_n 2, 1) := by decide +kernel
theorem dX4_count_2 : decode cX4_count 2 = .ok (.iload_n 1, 1) := by decide +kernel
theorem dX4_count_3 : decode cX4_count 3 = .ok (.tableswitch 117 0 4 #[33, 38, 73, 78, 112], 33) := by decide +kernel
theorem dX4_count_36 : decode cX4_count 36 = .ok (.aload_n 0, 1) := by decide +kernel
theorem dX4_count_37 : decode cX4_count 37 = .ok (.getfield 66, 3) := by decide +kernel
theorem dX4_count_40 : decode cX4_count 40 = .ok (.ireturn, 1) := by decide +kernel
theorem dX4_count_41 : decode cX4_count 41 = .ok (.iconst 0, 1) := by decide +kernel
theorem dX4_count_42 : decode cX4_count 42 = .ok (.istore_n 3, 1) := by decide +kernel
theorem dX4_count_43 : decode cX4_count 43 = .ok (.iload_n 3, 1) := by decide +kernel
theorem dX4_count_44 : decode cX4_count 44 = .ok (.aload_n 0, 1) := by decide +kernel
theorem dX4_count_45 : decode cX4_count 45 = .ok (.getfield 66, 3) := by decide +kernel
theorem dX4_count_48 : decode cX4_count 48 = .ok (.if_icmp .ge 26, 3) := by decide +kernel
theorem dX4_count_51 : decode cX4_count 51 = .ok (.iload_n 2, 1) := by decide +kernel
theorem dX4_count_52 : decode cX4_count 52 = .ok (.aload_n 0, 1) := by decide +kernel
theorem dX4_count_53 : decode cX4_count 53 = .ok (.getfield 19, 3) := by decide +kernel
theorem dX4_count_56 : decode cX4_count 56 = .ok (.iload_n 3, 1) := by decide +kernel
theorem dX4_count_57 : decode cX4_count 57 = .ok (.baload, 1) := by decide +kernel
theorem dX4_count_58 : decode cX4_count 58 = .ok (.ifCond .eq 7, 3) := by decide +kernel
theorem dX4_count_61 : decode cX4_count 61 = .ok (.iconst 1, 1) := by decide +kernel
theorem dX4_count_62 : decode cX4_count 62 = .ok (.goto 4, 3) := by decide +kernel
theorem dX4_count_65 : decode cX4_count 65 = .ok (.iconst 0, 1) := by decide +kernel
theorem dX4_count_66 : decode cX4_count 66 = .ok (.iadd, 1) := by decide +kernel
theorem dX4_count_67 : decode cX4_count 67 = .ok (.istore_n 2, 1) := by decide +kernel
theorem dX4_count_68 : decode cX4_count 68 = .ok (.iinc 3 1, 3) := by decide +kernel
theorem dX4_count_71 : decode cX4_count 71 = .ok (.goto (-28), 3) := by decide +kernel
theorem dX4_count_74 : decode cX4_count 74 = .ok (.iload_n 2, 1) := by decide +kernel
theorem dX4_count_75 : decode cX4_count 75 = .ok (.ireturn, 1) := by decide +kernel
theorem dX4_count_76 : decode cX4_count 76 = .ok (.aload_n 0, 1) := by decide +kernel
theorem dX4_count_77 : decode cX4_count 77 = .ok (.invokevirtual 112, 3) := by decide +kernel
theorem dX4_count_80 : decode cX4_count 80 = .ok (.ireturn, 1) := by decide +kernel
theorem dX4_count_81 : decode cX4_count 81 = .ok (.iconst 0, 1) := by decide +kernel
theorem dX4_count_82 : decode cX4_count 82 = .ok (.istore_n 3, 1) := by decide +kernel
theorem dX4_count_83 : decode cX4_count 83 = .ok (.iload_n 3, 1) := by decide +kernel
theorem dX4_count_84 : decode cX4_count 84 = .ok (.bipush 16, 2) := by decide +kernel
theorem dX4_count_86 : decode cX4_count 86 = .ok (.if_icmp .ge 27, 3) := by decide +kernel
theorem dX4_count_89 : decode cX4_count 89 = .ok (.iload_n 2, 1) := by decide +kernel
theorem dX4_count_90 : decode cX4_count 90 = .ok (.aload_n 0, 1) := by decide +kernel
theorem dX4_count_91 : decode cX4_count 91 = .ok (.getfield 36, 3) := by decide +kernel
theorem dX4_count_94 : decode cX4_count 94 = .ok (.iload_n 3, 1) := by decide +kernel
theorem dX4_count_95 : decode cX4_count 95 = .ok (.iaload, 1) := by decide +kernel
theorem dX4_count_96 : decode cX4_count 96 = .ok (.iconst (-1), 1) := by decide +kernel
theorem dX4_count_97 : decode cX4_count 97 = .ok (.if_icmp .ne 7, 3) := by decide +kernel
theorem dX4_count_100 : decode cX4_count 100 = .ok (.iconst 0, 1) := by decide +kernel
theorem dX4_count_101 : decode cX4_count 101 = .ok (.goto 4, 3) := by decide +kernel
theorem dX4_count_104 : decode cX4_count 104 = .ok (.iconst 1, 1) := by decide +kernel
theorem dX4_count_105 : decode cX4_count 105 = .ok (.iadd, 1) := by decide +kernel
theorem dX4_count_106 : decode cX4_count 106 = .ok (.istore_n 2, 1) := by decide +kernel
theorem dX4_count_107 : decode cX4_count 107 = .ok (.iinc 3 1, 3) := by decide +kernel
theorem dX4_count_110 : decode cX4_count 110 = .ok (.goto (-27), 3) := by decide +kernel
theorem dX4_count_113 : decode cX4_count 113 = .ok (.iload_n 2, 1) := by decide +kernel
theorem dX4_count_114 : decode cX4_count 114 = .ok (.ireturn, 1) := by decide +kernel
theorem dX4_count_115 : decode cX4_count 115 = .ok (.aload_n 0, 1) := by decide +kernel
theorem dX4_count_116 : decode cX4_count 116 = .ok (.getfield 29, 3) := by decide +kernel
theorem dX4_count_119 : decode cX4_count 119 = .ok (.ireturn, 1) := by decide +kernel
theorem dX4_count_120 : decode cX4_count 120 = .ok (.bipush (-3), 2) := by decide +kernel
theorem dX4_count_122 : decode cX4_count 122 = .ok (.ireturn, 1) := by decide +kernel
theorem dJ6_bitCount_0f7a4_0 : decode cJ6_bitCount_0f7a4 0 = .ok (.iload_n 0, 1) := by decide +kernel
theorem dJ6_bitCount_0f7a4_1 : decode cJ6_bitCount_0f7a4 1 = .ok (.iload_n 0, 1) := by decide +kernel
theorem dJ6_bitCount_0f7a4_2 : decode cJ6_bitCount_0f7a4 2 = .ok (.iconst 1, 1) := by decide +kernel
theorem dJ6_bitCount_0f7a4_3 : decode cJ6_bitCount_0f7a4 3 = .ok (.iushr, 1) := by decide +kernel
theorem dJ6_bitCount_0f7a4_4 : decode cJ6_bitCount_0f7a4 4 = .ok (.ldc_w 265, 3) := by decide +kernel
theorem dJ6_bitCount_0f7a4_7 : decode cJ6_bitCount_0f7a4 7 = .ok (.iand, 1) := by decide +kernel
theorem dJ6_bitCount_0f7a4_8 : decode cJ6_bitCount_0f7a4 8 = .ok (.isub, 1) := by decide +kernel
theorem dJ6_bitCount_0f7a4_9 : decode cJ6_bitCount_0f7a4 9 = .ok (.istore_n 0, 1) := by decide +kernel
theorem dJ6_bitCount_0f7a4_10 : decode cJ6_bitCount_0f7a4 10 = .ok (.iload_n 0, 1) := by decide +kernel
theorem dJ6_bitCount_0f7a4_11 : decode cJ6_bitCount_0f7a4 11 = .ok (.ldc_w 266, 3) := by decide +kernel
theorem dJ6_bitCount_0f7a4_14 : decode cJ6_bitCount_0f7a4 14 = .ok (.iand, 1) := by decide +kernel
theorem dJ6_bitCount_0f7a4_15 : decode cJ6_bitCount_0f7a4 15 = .ok (.iload_n 0, 1) := by decide +kernel
theorem dJ6_bitCount_0f7a4_16 : decode cJ6_bitCount_0f7a4 16 = .ok (.iconst 2, 1) := by decide +kernel
theorem dJ6_bitCount_0f7a4_17 : decode cJ6_bitCount_0f7a4 17 = .ok (.iushr, 1) := by decide +kernel
theorem dJ6_bitCount_0f7a4_18 : decode cJ6_bitCount_0f7a4 18 = .ok (.ldc_w 266, 3) := by decide +kernel
theorem dJ6_bitCount_0f7a4_21 : decode cJ6_bitCount_0f7a4 21 = .ok (.iand, 1) := by decide +kernel
theorem dJ6_bitCount_0f7a4_22 : decode cJ6_bitCount_0f7a4 22 = .ok (.iadd, 1) := by decide +kernel
theorem dJ6_bitCount_0f7a4_23 : decode cJ6_bitCount_0f7a4 23 = .ok (.istore_n 0, 1) := by decide +kernel
theorem dJ6_bitCount_0f7a4_24 : decode cJ6_bitCount_0f7a4 24 = .ok (.iload_n 0, 1) := by decide +kernel
theorem dJ6_bitCount_0f7a4_25 : decode cJ6_bitCount_0f7a4 25 = .ok (.iload_n 0, 1) := by decide +kernel
theorem dJ6_bitCount_0f7a4_26 : decode cJ6_bitCount_0f7a4 26 = .ok (.iconst 4, 1) := by decide +kernel
theorem dJ6_bitCount_0f7a4_27 : decode cJ6_bitCount_0f7a4 27 = .ok (.iushr, 1) := by decide +kernel
theorem dJ6_bitCount_0f7a4_28 : decode cJ6_bitCount_0f7a4 28 = .ok (.iadd, 1) := by decide +kernel
theorem dJ6_bitCount_0f7a4_29 : decode cJ6_bitCount_0f7a4 29 = .ok (.ldc_w 267, 3) := by decide +kernel
theorem dJ6_bitCount_0f7a4_32 : decode cJ6_bitCount_0f7a4 32 = .ok (.iand, 1) := by decide +kernel
theorem dJ6_bitCount_0f7a4_33 : decode cJ6_bitCount_0f7a4 33 = .ok (.istore_n 0, 1) := by decide +kernel
theorem dJ6_bitCount_0f7a4_34 : decode cJ6_bitCount_0f7a4 34 = .ok (.iload_n 0, 1) := by decide +kernel
theorem dJ6_bitCount_0f7a4_35 : decode cJ6_bitCount_0f7a4 35 = .ok (.iload_n 0, 1) := by decide +kernel
theorem dJ6_bitCount_0f7a4_36 : decode cJ6_bitCount_0f7a4 36 = .ok (.bipush 8, 2) := by decide +kernel
theorem dJ6_bitCount_0f7a4_38 : decode cJ6_bitCount_0f7a4 38 = .ok (.iushr, 1) := by decide +kernel
theorem dJ6_bitCount_0f7a4_39 : decode cJ6_bitCount_0f7a4 39 = .ok (.iadd, 1) := by decide +kernel
theorem dJ6_bitCount_0f7a4_40 : decode cJ6_bitCount_0f7a4 40 = .ok (.istore_n 0, 1) := by decide +kernel
theorem dJ6_bitCount_0f7a4_41 : decode cJ6_bitCount_0f7a4 41 = .ok (.iload_n 0, 1) := by decide +kernel
theorem dJ6_bitCount_0f7a4_42 : decode cJ6_bitCount_0f7a4 42 = .ok (.iload_n 0, 1) := by decide +kernel
theorem dJ6_bitCount_0f7a4_43 : decode cJ6_bitCount_0f7a4 43 = .ok (.bipush 16, 2) := by decide +kernel
theorem dJ6_bitCount_0f7a4_45 : decode cJ6_bitCount_0f7a4 45 = .ok (.iushr, 1) := by decide +kernel
theorem dJ6_bitCount_0f7a4_46 : decode cJ6_bitCount_0f7a4 46 = .ok (.iadd, 1) := by decide +kernel
theorem dJ6_bitCount_0f7a4_47 : decode cJ6_bitCount_0f7a4 47 = .ok (.istore_n 0, 1) := by decide +kernel
theorem dJ6_bitCount_0f7a4_48 : decode cJ6_bitCount_0f7a4 48 = .ok (.iload_n 0, 1) := by decide +kernel
theorem dJ6_bitCount_0f7a4_49 : decode cJ6_bitCount_0f7a4 49 = .ok (.bipush 63, 2) := by decide +kernel
theorem dJ6_bitCount_0f7a4_51 : decode cJ6_bitCount_0f7a4 51 = .ok (.iand, 1) := by decide +kernel
theorem dJ6_bitCount_0f7a4_52 : decode cJ6_bitCount_0f7a4 52 = .ok (.ireturn, 1) := by decide +kernel
theorem dJ9_max_7cf53_0 : decode cJ9_max_7cf53 0 = .ok (.iload_n 0, 1) := by decide +kernel
theorem dJ9_max_7cf53_1 : decode cJ9_max_7cf53 1 = .ok (.iload_n 1, 1) := by decide +kernel
theorem dJ9_max_7cf53_2 : decode cJ9_max_7cf53 2 = .ok (.if_icmp .lt 7, 3) := by decide +kernel
theorem dJ9_max_7cf53_5 : decode cJ9_max_7cf53 5 = .ok (.iload_n 0, 1) := by decide +kernel
theorem dJ9_max_7cf53_6 : decode cJ9_max_7cf53 6 = .ok (.goto 4, 3) := by decide +kernel
theorem dJ9_max_7cf53_9 : decode cJ9_max_7cf53 9 = .ok (.iload_n 1, 1) := by decide +kernel
theorem dJ9_max_7cf53_10 : decode cJ9_max_7cf53 10 = .ok (.ireturn, 1) := by decide +kernel
theorem dJ7_fill_53178_0 : decode cJ7_fill_53178 0 = .ok (.iconst 0, 1) := by decide +kernel
theorem dJ7_fill_53178_1 : decode cJ7_fill_53178 1 = .ok (.istore_n 2, 1) := by decide +kernel
theorem dJ7_fill_53178_2 : decode cJ7_fill_53178 2 = .ok (.aload_n 0, 1) := by decide +kernel
theorem dJ7_fill_53178_3 : decode cJ7_fill_53178 3 = .ok (.arraylength, 1) := by decide +kernel
theorem dJ7_fill_53178_4 : decode cJ7_fill_53178 4 = .ok (.istore_n 3, 1) := by decide +kernel
theorem dJ7_fill_53178_5 : decode cJ7_fill_53178 5 = .ok (.iload_n 2, 1) := by decide +kernel
theorem dJ7_fill_53178_6 : decode cJ7_fill_53178 6 = .ok (.iload_n 3, 1) := by decide +kernel
theorem dJ7_fill_53178_7 : decode cJ7_fill_53178 7 = .ok (.if_icmp .ge 13, 3) := by decide +kernel
theorem dJ7_fill_53178_10 : decode cJ7_fill_53178 10 = .ok (.aload_n 0, 1) := by decide +kernel
theorem dJ7_fill_53178_11 : decode cJ7_fill_53178 11 = .ok (.iload_n 2, 1) := by decide +kernel
theorem dJ7_fill_53178_12 : decode cJ7_fill_53178 12 = .ok (.iload_n 1, 1) := by decide +kernel
theorem dJ7_fill_53178_13 : decode cJ7_fill_53178 13 = .ok (.iastore, 1) := by decide +kernel
theorem dJ7_fill_53178_14 : decode cJ7_fill_53178 14 = .ok (.iinc 2 1, 3) := by decide +kernel
theorem dJ7_fill_53178_17 : decode cJ7_fill_53178 17 = .ok (.goto (-12), 3) := by decide +kernel
theorem dJ7_fill_53178_20 : decode cJ7_fill_53178 20 = .ok (.return_, 1) := by decide +kernel
