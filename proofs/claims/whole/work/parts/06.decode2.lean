theorem dX12_number_57 : decode cX12_number 57 = .ok (.iload_n 3, 1) := by decide +kernel
theorem dX12_number_58 : decode cX12_number 58 = .ok (.ireturn, 1) := by decide +kernel
theorem dX12_signed_0 : decode cX12_signed 0 = .ok (.aload_n 0, 1) := by decide +kernel
theorem dX12_signed_1 : decode cX12_signed 1 = .ok (.ldc 187, 2) := by decide +kernel
theorem dX12_signed_3 : decode cX12_signed 3 = .ok (.invokevirtual 167, 3) := by decide +kernel
theorem dX12_signed_6 : decode cX12_signed 6 = .ok (.istore_n 2, 1) := by decide +kernel
theorem dX12_signed_7 : decode cX12_signed 7 = .ok (.aload_n 0, 1) := by decide +kernel
theorem dX12_signed_8 : decode cX12_signed 8 = .ok (.iconst 0, 1) := by decide +kernel
theorem dX12_signed_9 : decode cX12_signed 9 = .ok (.iload_n 1, 1) := by decide +kernel
theorem dX12_signed_10 : decode cX12_signed 10 = .ok (.invokevirtual 207, 3) := by decide +kernel
theorem dX12_signed_13 : decode cX12_signed 13 = .ok (.istore_n 3, 1) := by decide +kernel
theorem dX12_signed_14 : decode cX12_signed 14 = .ok (.iload_n 2, 1) := by decide +kernel
theorem dX12_signed_15 : decode cX12_signed 15 = .ok (.ifCond .eq 8, 3) := by decide +kernel
theorem dX12_signed_18 : decode cX12_signed 18 = .ok (.iload_n 3, 1) := by decide +kernel
theorem dX12_signed_19 : decode cX12_signed 19 = .ok (.ineg, 1) := by decide +kernel
theorem dX12_signed_20 : decode cX12_signed 20 = .ok (.goto 4, 3) := by decide +kernel
theorem dX12_signed_23 : decode cX12_signed 23 = .ok (.iload_n 3, 1) := by decide +kernel
theorem dX12_signed_24 : decode cX12_signed 24 = .ok (.ireturn, 1) := by decide +kernel
theorem dX12_slash_0 : decode cX12_slash 0 = .ok (.aload_n 0, 1) := by decide +kernel
theorem dX12_slash_1 : decode cX12_slash 1 = .ok (.getfield 143, 3) := by decide +kernel
theorem dX12_slash_4 : decode cX12_slash 4 = .ok (.ifCond .eq 4, 3) := by decide +kernel
theorem dX12_slash_7 : decode cX12_slash 7 = .ok (.return_, 1) := by decide +kernel
theorem dX12_slash_8 : decode cX12_slash 8 = .ok (.aload_n 0, 1) := by decide +kernel
theorem dX12_slash_9 : decode cX12_slash 9 = .ok (.getfield 133, 3) := by decide +kernel
theorem dX12_slash_12 : decode cX12_slash 12 = .ok (.bipush 47, 2) := by decide +kernel
theorem dX12_slash_14 : decode cX12_slash 14 = .ok (.if_icmp .eq 15, 3) := by decide +kernel
theorem dX12_slash_17 : decode cX12_slash 17 = .ok (.aload_n 0, 1) := by decide +kernel
theorem dX12_slash_18 : decode cX12_slash 18 = .ok (.iconst 1, 1) := by decide +kernel
theorem dX12_slash_19 : decode cX12_slash 19 = .ok (.aload_n 0, 1) := by decide +kernel
theorem dX12_slash_20 : decode cX12_slash 20 = .ok (.getfield 124, 3) := by decide +kernel
theorem dX12_slash_23 : decode cX12_slash 23 = .ok (.invokevirtual 170, 3) := by decide +kernel
theorem dX12_slash_26 : decode cX12_slash 26 = .ok (.goto 7, 3) := by decide +kernel
theorem dX12_slash_29 : decode cX12_slash 29 = .ok (.aload_n 0, 1) := by decide +kernel
theorem dX12_slash_30 : decode cX12_slash 30 = .ok (.invokevirtual 164, 3) := by decide +kernel
theorem dX12_slash_33 : decode cX12_slash 33 = .ok (.return_, 1) := by decide +kernel
theorem dX12_room_0 : decode cX12_room 0 = .ok (.aload_n 0, 1) := by decide +kernel
theorem dX12_room_1 : decode cX12_room 1 = .ok (.invokevirtual 211, 3) := by decide +kernel
theorem dX12_room_4 : decode cX12_room 4 = .ok (.iload_n 1, 1) := by decide +kernel
theorem dX12_room_5 : decode cX12_room 5 = .ok (.iconst 0, 1) := by decide +kernel
theorem dX12_room_6 : decode cX12_room 6 = .ok (.aload_n 0, 1) := by decide +kernel
theorem dX12_room_7 : decode cX12_room 7 = .ok (.getfield 111, 3) := by decide +kernel
theorem dX12_room_10 : decode cX12_room 10 = .ok (.invokestatic 203, 3) := by decide +kernel
theorem dX12_room_13 : decode cX12_room 13 = .ok (.ifCond .ne 9, 3) := by decide +kernel
theorem dX12_room_16 : decode cX12_room 16 = .ok (.aload_n 0, 1) := by decide +kernel
theorem dX12_room_17 : decode cX12_room 17 = .ok (.iconst 2, 1) := by decide +kernel
theorem dX12_room_18 : decode cX12_room 18 = .ok (.invokevirtual 214, 3) := by decide +kernel
theorem dX12_room_21 : decode cX12_room 21 = .ok (.ireturn, 1) := by decide +kernel
theorem dX12_room_22 : decode cX12_room 22 = .ok (.aload_n 0, 1) := by decide +kernel
theorem dX12_room_23 : decode cX12_room 23 = .ok (.iconst 0, 1) := by decide +kernel
theorem dX12_room_24 : decode cX12_room 24 = .ok (.putfield 111, 3) := by decide +kernel
theorem dX12_room_27 : decode cX12_room 27 = .ok (.aload_n 0, 1) := by decide +kernel
theorem dX12_room_28 : decode cX12_room 28 = .ok (.iconst 0, 1) := by decide +kernel
theorem dX12_room_29 : decode cX12_room 29 = .ok (.putfield 147, 3) := by decide +kernel
theorem dX12_room_32 : decode cX12_room 32 = .ok (.aload_n 0, 1) := by decide +kernel
theorem dX12_room_33 : decode cX12_room 33 = .ok (.iconst 0, 1) := by decide +kernel
theorem dX12_room_34 : decode cX12_room 34 = .ok (.putfield 143, 3) := by decide +kernel
theorem dX12_room_37 : decode cX12_room 37 = .ok (.iconst 0, 1) := by decide +kernel
theorem dX12_room_38 : decode cX12_room 38 = .ok (.istore_n 2, 1) := by decide +kernel
theorem dX12_room_39 : decode cX12_room 39 = .ok (.iload_n 2, 1) := by decide +kernel
theorem dX12_room_40 : decode cX12_room 40 = .ok (.sipush 463, 3) := by decide +kernel
theorem dX12_room_43 : decode cX12_room 43 = .ok (.if_icmp .ge 16, 3) := by decide +kernel
theorem dX12_room_46 : decode cX12_room 46 = .ok (.aload_n 0, 1) := by decide +kernel
theorem dX12_room_47 : decode cX12_room 47 = .ok (.getfield 23, 3) := by decide +kernel
theorem dX12_room_50 : decode cX12_room 50 = .ok (.iload_n 2, 1) := by decide +kernel
theorem dX12_room_51 : decode cX12_room 51 = .ok (.iconst 0, 1) := by decide +kernel
theorem dX12_room_52 : decode cX12_room 52 = .ok (.iastore, 1) := by decide +kernel
theorem dX12_room_53 : decode cX12_room 53 = .ok (.iinc 2 1, 3) := by decide +kernel
theorem dX12_room_56 : decode cX12_room 56 = .ok (.goto (-17), 3) := by decide +kernel
theorem dX12_room_59 : decode cX12_room 59 = .ok (.aload_n 0, 1) := by decide +kernel
theorem dX12_room_60 : decode cX12_room 60 = .ok (.iload_n 1, 1) := by decide +kernel
theorem dX12_room_61 : decode cX12_room 61 = .ok (.putfield 114, 3) := by decide +kernel
theorem dX12_room_64 : decode cX12_room 64 = .ok (.aload_n 0, 1) := by decide +kernel
theorem dX12_room_65 : decode cX12_room 65 = .ok (.iconst 0, 1) := by decide +kernel
theorem dX12_room_66 : decode cX12_room 66 = .ok (.putfield 117, 3) := by decide +kernel
theorem dX12_room_69 : decode cX12_room 69 = .ok (.aload_n 0, 1) := by decide +kernel
theorem dX12_room_70 : decode cX12_room 70 = .ok (.invokevirtual 164, 3) := by decide +kernel
theorem dX12_room_73 : decode cX12_room 73 = .ok (.aload_n 0, 1) := by decide +kernel
theorem dX12_room_74 : decode cX12_room 74 = .ok (.invokevirtual 217, 3) := by decide +kernel
theorem dX12_room_77 : decode cX12_room 77 = .ok (.aload_n 0, 1) := by decide +kernel
theorem dX12_room_78 : decode cX12_room 78 = .ok (.getfield 143, 3) := by decide +kernel
theorem dX12_room_81 : decode cX12_room 81 = .ok (.ifCond .ne 23, 3) := by decide +kernel
theorem dX12_room_84 : decode cX12_room 84 = .ok (.aload_n 0, 1) := by decide +kernel
theorem dX12_room_85 : decode cX12_room 85 = .ok (.getfield 133, 3) := by decide +kernel
theorem dX12_room_88 : decode cX12_room 88 = .ok (.bipush 59, 2) := by decide +kernel
theorem dX12_room_90 : decode cX12_room 90 = .ok (.if_icmp .ne 14, 3) := by decide +kernel
theorem dX12_room_93 : decode cX12_room 93 = .ok (.aload_n 0, 1) := by decide +kernel
theorem dX12_room_94 : decode cX12_room 94 = .ok (.invokevirtual 164, 3) := by decide +kernel
theorem dX12_room_97 : decode cX12_room 97 = .ok (.aload_n 0, 1) := by decide +kernel
theorem dX12_room_98 : decode cX12_room 98 = .ok (.invokevirtual 217, 3) := by decide +kernel
theorem dX12_room_101 : decode cX12_room 101 = .ok (.goto (-24), 3) := by decide +kernel
theorem dX12_room_104 : decode cX12_room 104 = .ok (.aload_n 0, 1) := by decide +kernel
theorem dX12_room_105 : decode cX12_room 105 = .ok (.getfield 143, 3) := by decide +kernel
theorem dX12_room_108 : decode cX12_room 108 = .ok (.ifCond .ne 19, 3) := by decide +kernel
theorem dX12_room_111 : decode cX12_room 111 = .ok (.aload_n 0, 1) := by decide +kernel
theorem dX12_room_112 : decode cX12_room 112 = .ok (.getfield 133, 3) := by decide +kernel
theorem dX12_room_115 : decode cX12_room 115 = .ok (.ifCond .eq 12, 3) := by decide +kernel
theorem dX12_room_118 : decode cX12_room 118 = .ok (.aload_n 0, 1) := by decide +kernel
theorem dX12_room_119 : decode cX12_room 119 = .ok (.iconst 1, 1) := by decide +kernel
theorem dX12_room_120 : decode cX12_room 120 = .ok (.aload_n 0, 1) := by decide +kernel
theorem dX12_room_121 : decode cX12_room 121 = .ok (.getfield 124, 3) := by decide +kernel
theorem dX12_room_124 : decode cX12_room 124 = .ok (.invokevirtual 170, 3) := by decide +kernel
theorem dX12_room_127 : decode cX12_room 127 = .ok (.aload_n 0, 1) := by decide +kernel
theorem dX12_room_128 : decode cX12_room 128 = .ok (.getfield 143, 3) := by decide +kernel
theorem dX12_room_131 : decode cX12_room 131 = .ok (.ifCond .ne 24, 3) := by decide +kernel
theorem dX12_room_134 : decode cX12_room 134 = .ok (.aload_n 0, 1) := by decide +kernel
theorem dX12_room_135 : decode cX12_room 135 = .ok (.getfield 23, 3) := by decide +kernel
theorem dX12_room_138 : decode cX12_room 138 = .ok (.sipush 238, 3) := by decide +kernel
theorem dX12_room_141 : decode cX12_room 141 = .ok (.iaload, 1) := by decide +kernel
theorem dX12_room_142 : decode cX12_room 142 = .ok (.ifCond .ne 13, 3) := by decide +kernel
theorem dX12_room_145 : decode cX12_room 145 = .ok (.aload_n 0, 1) := by decide +kernel
theorem dX12_room_146 : decode cX12_room 146 = .ok (.bipush 6, 2) := by decide +kernel
theorem dX12_room_148 : decode cX12_room 148 = .ok (.aload_n 0, 1) := by decide +kernel
theorem dX12_room_149 : decode cX12_room 149 = .ok (.getfield 124, 3) := by decide +kernel
theorem dX12_room_152 : decode cX12_room 152 = .ok (.invokevirtual 170, 3) := by decide +kernel
theorem dX12_room_155 : decode cX12_room 155 = .ok (.aload_n 0, 1) := by decide +kernel
theorem dX12_room_156 : decode cX12_room 156 = .ok (.getfield 143, 3) := by decide +kernel
theorem dX12_room_159 : decode cX12_room 159 = .ok (.ifCond .eq 9, 3) := by decide +kernel
theorem dX12_room_162 : decode cX12_room 162 = .ok (.aload_n 0, 1) := by decide +kernel
theorem dX12_room_163 : decode cX12_room 163 = .ok (.iconst 4, 1) := by decide +kernel
theorem dX12_room_164 : decode cX12_room 164 = .ok (.invokevirtual 214, 3) := by decide +kernel
theorem dX12_room_167 : decode cX12_room 167 = .ok (.ireturn, 1) := by decide +kernel
theorem dX12_room_168 : decode cX12_room 168 = .ok (.iconst 0, 1) := by decide +kernel
theorem dX12_room_169 : decode cX12_room 169 = .ok (.istore_n 2, 1) := by decide +kernel
theorem dX12_room_170 : decode cX12_room 170 = .ok (.iload_n 2, 1) := by decide +kernel
theorem dX12_room_171 : decode cX12_room 171 = .ok (.sipush 463, 3) := by decide +kernel
theorem dX12_room_174 : decode cX12_room 174 = .ok (.if_icmp .ge 21, 3) := by decide +kernel
theorem dX12_room_177 : decode cX12_room 177 = .ok (.aload_n 0, 1) := by decide +kernel
theorem dX12_room_178 : decode cX12_room 178 = .ok (.getfield 20, 3) := by decide +kernel
theorem dX12_room_181 : decode cX12_room 181 = .ok (.iload_n 2, 1) := by decide +kernel
theorem dX12_room_182 : decode cX12_room 182 = .ok (.aload_n 0, 1) := by decide +kernel
theorem dX12_room_183 : decode cX12_room 183 = .ok (.getfield 23, 3) := by decide +kernel
theorem dX12_room_186 : decode cX12_room 186 = .ok (.iload_n 2, 1) := by decide +kernel
theorem dX12_room_187 : decode cX12_room 187 = .ok (.iaload, 1) := by decide +kernel
theorem dX12_room_188 : decode cX12_room 188 = .ok (.iastore, 1) := by decide +kernel
theorem dX12_room_189 : decode cX12_room 189 = .ok (.iinc 2 1, 3) := by decide +kernel
theorem dX12_room_192 : decode cX12_room 192 = .ok (.goto (-22), 3) := by decide +kernel
theorem dX12_room_195 : decode cX12_room 195 = .ok (.aload_n 0, 1) := by decide +kernel
theorem dX12_room_196 : decode cX12_room 196 = .ok (.iconst 1, 1) := by decide +kernel
theorem dX12_room_197 : decode cX12_room 197 = .ok (.putfield 220, 3) := by decide +kernel
theorem dX12_room_200 : decode cX12_room 200 = .ok (.aload_n 0, 1) := by decide +kernel
theorem dX12_room_201 : decode cX12_room 201 = .ok (.iconst 0, 1) := by decide +kernel
theorem dX12_room_202 : decode cX12_room 202 = .ok (.putfield 223, 3) := by decide +kernel
theorem dX12_room_205 : decode cX12_room 205 = .ok (.aload_n 0, 1) := by decide +kernel
theorem dX12_room_206 : decode cX12_room 206 = .ok (.iconst 0, 1) := by decide +kernel
theorem dX12_room_207 : decode cX12_room 207 = .ok (.putfield 226, 3) := by decide +kernel
theorem dX12_room_210 : decode cX12_room 210 = .ok (.iconst 0, 1) := by decide +kernel
theorem dX12_room_211 : decode cX12_room 211 = .ok (.istore_n 2, 1) := by decide +kernel
theorem dX12_room_212 : decode cX12_room 212 = .ok (.iload_n 2, 1) := by decide +kernel
theorem dX12_room_213 : decode cX12_room 213 = .ok (.bipush 6, 2) := by decide +kernel
theorem dX12_room_215 : decode cX12_room 215 = .ok (.if_icmp .ge 23, 3) := by decide +kernel
theorem dX12_room_218 : decode cX12_room 218 = .ok (.aload_n 0, 1) := by decide +kernel
theorem dX12_room_219 : decode cX12_room 219 = .ok (.getfield 29, 3) := by decide +kernel
theorem dX12_room_222 : decode cX12_room 222 = .ok (.iload_n 2, 1) := by decide +kernel
theorem dX12_room_223 : decode cX12_room 223 = .ok (.iconst 0, 1) := by decide +kernel
theorem dX12_room_224 : decode cX12_room 224 = .ok (.iastore, 1) := by decide +kernel
theorem dX12_room_225 : decode cX12_room 225 = .ok (.aload_n 0, 1) := by decide +kernel
theorem dX12_room_226 : decode cX12_room 226 = .ok (.getfield 32, 3) := by decide +kernel
theorem dX12_room_229 : decode cX12_room 229 = .ok (.iload_n 2, 1) := by decide +kernel
theorem dX12_room_230 : decode cX12_room 230 = .ok (.iconst 0, 1) := by decide +kernel
theorem dX12_room_231 : decode cX12_room 231 = .ok (.iastore, 1) := by decide +kernel
theorem dX12_room_232 : decode cX12_room 232 = .ok (.iinc 2 1, 3) := by decide +kernel
theorem dX12_room_235 : decode cX12_room 235 = .ok (.goto (-23), 3) := by decide +kernel
theorem dX12_room_238 : decode cX12_room 238 = .ok (.iconst 0, 1) := by decide +kernel
theorem dX12_room_239 : decode cX12_room 239 = .ok (.istore_n 2, 1) := by decide +kernel
theorem dX12_room_240 : decode cX12_room 240 = .ok (.iload_n 2, 1) := by decide +kernel
theorem dX12_room_241 : decode cX12_room 241 = .ok (.aload_n 0, 1) := by decide +kernel
theorem dX12_room_242 : decode cX12_room 242 = .ok (.getfield 20, 3) := by decide +kernel
theorem dX12_room_245 : decode cX12_room 245 = .ok (.sipush 238, 3) := by decide +kernel
theorem dX12_room_248 : decode cX12_room 248 = .ok (.iaload, 1) := by decide +kernel
theorem dX12_room_249 : decode cX12_room 249 = .ok (.if_icmp .ge 42, 3) := by decide +kernel
theorem dX12_room_252 : decode cX12_room 252 = .ok (.iconst 0, 1) := by decide +kernel
theorem dX12_room_253 : decode cX12_room 253 = .ok (.istore_n 3, 1) := by decide +kernel
theorem dX12_room_254 : decode cX12_room 254 = .ok (.iload_n 3, 1) := by decide +kernel
theorem dX12_room_255 : decode cX12_room 255 = .ok (.sipush 401, 3) := by decide +kernel
theorem dX12_room_258 : decode cX12_room 258 = .ok (.if_icmp .ge 27, 3) := by decide +kernel
theorem dX12_room_261 : decode cX12_room 261 = .ok (.aload_n 0, 1) := by decide +kernel
theorem dX12_room_262 : decode cX12_room 262 = .ok (.getfield 26, 3) := by decide +kernel
theorem dX12_room_265 : decode cX12_room 265 = .ok (.sipush 401, 3) := by decide +kernel
theorem dX12_room_268 : decode cX12_room 268 = .ok (.iload_n 2, 1) := by decide +kernel
theorem dX12_room_269 : decode cX12_room 269 = .ok (.imul, 1) := by decide +kernel
theorem dX12_room_270 : decode cX12_room 270 = .ok (.iload_n 3, 1) := by decide +kernel
theorem dX12_room_271 : decode cX12_room 271 = .ok (.iadd, 1) := by decide +kernel
theorem dX12_room_272 : decode cX12_room 272 = .ok (.aload_n 0, 1) := by decide +kernel
theorem dX12_room_273 : decode cX12_room 273 = .ok (.iload_n 2, 1) := by decide +kernel
theorem dX12_room_274 : decode cX12_room 274 = .ok (.iload_n 3, 1) := by decide +kernel
theorem dX12_room_275 : decode cX12_room 275 = .ok (.invokevirtual 229, 3) := by decide +kernel
theorem dX12_room_278 : decode cX12_room 278 = .ok (.iastore, 1) := by decide +kernel
theorem dX12_room_279 : decode cX12_room 279 = .ok (.iinc 3 1, 3) := by decide +kernel
theorem dX12_room_282 : decode cX12_room 282 = .ok (.goto (-28), 3) := by decide +kernel
theorem dX12_room_285 : decode cX12_room 285 = .ok (.iinc 2 1, 3) := by decide +kernel
theorem dX12_room_288 : decode cX12_room 288 = .ok (.goto (-48), 3) := by decide +kernel
theorem dX12_room_291 : decode cX12_room 291 = .ok (.aload_n 0, 1) := by decide +kernel
theorem dX12_room_292 : decode cX12_room 292 = .ok (.getfield 20, 3) := by decide +kernel
theorem dX12_room_295 : decode cX12_room 295 = .ok (.sipush 238, 3) := by decide +kernel
theorem dX12_room_298 : decode cX12_room 298 = .ok (.iaload, 1) := by decide +kernel
theorem dX12_room_299 : decode cX12_room 299 = .ok (.ireturn, 1) := by decide +kernel
theorem dX12_readLine_0 : decode cX12_readLine 0 = .ok (.aload_n 0, 1) := by decide +kernel
theorem dX12_readLine_1 : decode cX12_readLine 1 = .ok (.getfield 124, 3) := by decide +kernel
theorem dX12_readLine_4 : decode cX12_readLine 4 = .ok (.istore_n 1, 1) := by decide +kernel
theorem dX12_readLine_5 : decode cX12_readLine 5 = .ok (.aload_n 0, 1) := by decide +kernel
theorem dX12_readLine_6 : decode cX12_readLine 6 = .ok (.ldc 174, 2) := by decide +kernel
theorem dX12_readLine_8 : decode cX12_readLine 8 = .ok (.invokevirtual 160, 3) := by decide +kernel
theorem dX12_readLine_11 : decode cX12_readLine 11 = .ok (.ifCond .eq 33, 3) := by decide +kernel
theorem dX12_readLine_14 : decode cX12_readLine 14 = .ok (.aload_n 0, 1) := by decide +kernel
theorem dX12_readLine_15 : decode cX12_readLine 15 = .ok (.getfield 23, 3) := by decide +kernel
theorem dX12_readLine_18 : decode cX12_readLine 18 = .ok (.sipush 238, 3) := by decide +kernel
theorem dX12_readLine_21 : decode cX12_readLine 21 = .ok (.iaload, 1) := by decide +kernel
theorem dX12_readLine_22 : decode cX12_readLine 22 = .ok (.bipush 6, 2) := by decide +kernel
theorem dX12_readLine_24 : decode cX12_readLine 24 = .ok (.if_icmp .ne 9, 3) := by decide +kernel
theorem dX12_readLine_27 : decode cX12_readLine 27 = .ok (.aload_n 0, 1) := by decide +kernel
theorem dX12_readLine_28 : decode cX12_readLine 28 = .ok (.iconst 5, 1) := by decide +kernel
theorem dX12_readLine_29 : decode cX12_readLine 29 = .ok (.iload_n 1, 1) := by decide +kernel
theorem dX12_readLine_30 : decode cX12_readLine 30 = .ok (.invokevirtual 170, 3) := by decide +kernel
theorem dX12_readLine_33 : decode cX12_readLine 33 = .ok (.aload_n 0, 1) := by decide +kernel
theorem dX12_readLine_34 : decode cX12_readLine 34 = .ok (.invokevirtual 164, 3) := by decide +kernel
theorem dX12_readLine_37 : decode cX12_readLine 37 = .ok (.aload_n 0, 1) := by decide +kernel
theorem dX12_readLine_38 : decode cX12_readLine 38 = .ok (.invokevirtual 232, 3) := by decide +kernel
theorem dX12_readLine_41 : decode cX12_readLine 41 = .ok (.goto 127, 3) := by decide +kernel
theorem dX12_readLine_44 : decode cX12_readLine 44 = .ok (.aload_n 0, 1) := by decide +kernel
theorem dX12_readLine_45 : decode cX12_readLine 45 = .ok (.ldc 176, 2) := by decide +kernel
theorem dX12_readLine_47 : decode cX12_readLine 47 = .ok (.invokevirtual 160, 3) := by decide +kernel
theorem dX12_readLine_50 : decode cX12_readLine 50 = .ok (.ifCond .eq 33, 3) := by decide +kernel
theorem dX12_readLine_53 : decode cX12_readLine 53 = .ok (.aload_n 0, 1) := by decide +kernel
theorem dX12_readLine_54 : decode cX12_readLine 54 = .ok (.getfield 23, 3) := by decide +kernel
theorem dX12_readLine_57 : decode cX12_readLine 57 = .ok (.sipush 239, 3) := by decide +kernel
theorem dX12_readLine_60 : decode cX12_readLine 60 = .ok (.iaload, 1) := by decide +kernel
theorem dX12_readLine_61 : decode cX12_readLine 61 = .ok (.bipush 6, 2) := by decide +kernel
theorem dX12_readLine_63 : decode cX12_readLine 63 = .ok (.if_icmp .ne 9, 3) := by decide +kernel
theorem dX12_readLine_66 : decode cX12_readLine 66 = .ok (.aload_n 0, 1) := by decide +kernel
theorem dX12_readLine_67 : decode cX12_readLine 67 = .ok (.iconst 5, 1) := by decide +kernel
theorem dX12_readLine_68 : decode cX12_readLine 68 = .ok (.iload_n 1, 1) := by decide +kernel
theorem dX12_readLine_69 : decode cX12_readLine 69 = .ok (.invokevirtual 170, 3) := by decide +kernel
theorem dX12_readLine_72 : decode cX12_readLine 72 = .ok (.aload_n 0, 1) := by decide +kernel
theorem dX12_readLine_73 : decode cX12_readLine 73 = .ok (.invokevirtual 164, 3) := by decide +kernel
theorem dX12_readLine_76 : decode cX12_readLine 76 = .ok (.aload_n 0, 1) := by decide +kernel
theorem dX12_readLine_77 : decode cX12_readLine 77 = .ok (.invokevirtual 235, 3) := by decide +kernel
theorem dX12_readLine_80 : decode cX12_readLine 80 = .ok (.goto 88, 3) := by decide +kernel
theorem dX12_readLine_83 : decode cX12_readLine 83 = .ok (.aload_n 0, 1) := by decide +kernel
theorem dX12_readLine_84 : decode cX12_readLine 84 = .ok (.ldc 178, 2) := by decide +kernel
theorem dX12_readLine_86 : decode cX12_readLine 86 = .ok (.invokevirtual 160, 3) := by decide +kernel
theorem dX12_readLine_89 : decode cX12_readLine 89 = .ok (.ifCond .eq 32, 3) := by decide +kernel
theorem dX12_readLine_92 : decode cX12_readLine 92 = .ok (.aload_n 0, 1) := by decide +kernel
theorem dX12_readLine_93 : decode cX12_readLine 93 = .ok (.getfield 23, 3) := by decide +kernel
theorem dX12_readLine_96 : decode cX12_readLine 96 = .ok (.sipush 240, 3) := by decide +kernel
theorem dX12_readLine_99 : decode cX12_readLine 99 = .ok (.iaload, 1) := by decide +kernel
theorem dX12_readLine_100 : decode cX12_readLine 100 = .ok (.iconst 4, 1) := by decide +kernel
theorem dX12_readLine_101 : decode cX12_readLine 101 = .ok (.if_icmp .ne 9, 3) := by decide +kernel
theorem dX12_readLine_104 : decode cX12_readLine 104 = .ok (.aload_n 0, 1) := by decide +kernel
theorem dX12_readLine_105 : decode cX12_readLine 105 = .ok (.iconst 5, 1) := by decide +kernel
theorem dX12_readLine_106 : decode cX12_readLine 106 = .ok (.iload_n 1, 1) := by decide +kernel
theorem dX12_readLine_107 : decode cX12_readLine 107 = .ok (.invokevirtual 170, 3) := by decide +kernel
theorem dX12_readLine_110 : decode cX12_readLine 110 = .ok (.aload_n 0, 1) := by decide +kernel
theorem dX12_readLine_111 : decode cX12_readLine 111 = .ok (.invokevirtual 164, 3) := by decide +kernel
theorem dX12_readLine_114 : decode cX12_readLine 114 = .ok (.aload_n 0, 1) := by decide +kernel
theorem dX12_readLine_115 : decode cX12_readLine 115 = .ok (.invokevirtual 238, 3) := by decide +kernel
theorem dX12_readLine_118 : decode cX12_readLine 118 = .ok (.goto 50, 3) := by decide +kernel
theorem dX12_readLine_121 : decode cX12_readLine 121 = .ok (.aload_n 0, 1) := by decide +kernel
theorem dX12_readLine_122 : decode cX12_readLine 122 = .ok (.ldc 180, 2) := by decide +kernel
theorem dX12_readLine_124 : decode cX12_readLine 124 = .ok (.invokevirtual 160, 3) := by decide +kernel
theorem dX12_readLine_127 : decode cX12_readLine 127 = .ok (.ifCond .eq 32, 3) := by decide +kernel
theorem dX12_readLine_130 : decode cX12_readLine 130 = .ok (.aload_n 0, 1) := by decide +kernel
theorem dX12_readLine_131 : decode cX12_readLine 131 = .ok (.getfield 23, 3) := by decide +kernel
theorem dX12_readLine_134 : decode cX12_readLine 134 = .ok (.sipush 241, 3) := by decide +kernel
theorem dX12_readLine_137 : decode cX12_readLine 137 = .ok (.iaload, 1) := by decide +kernel
theorem dX12_readLine_138 : decode cX12_readLine 138 = .ok (.iconst 4, 1) := by decide +kernel
theorem dX12_readLine_139 : decode cX12_readLine 139 = .ok (.if_icmp .ne 9, 3) := by decide +kernel
theorem dX12_readLine_142 : decode cX12_readLine 142 = .ok (.aload_n 0, 1) := by decide +kernel
theorem dX12_readLine_143 : decode cX12_readLine 143 = .ok (.iconst 5, 1) := by decide +kernel
theorem dX12_readLine_144 : decode cX12_readLine 144 = .ok (.iload_n 1, 1) := by decide +kernel
theorem dX12_readLine_145 : decode cX12_readLine 145 = .ok (.invokevirtual 170, 3) := by decide +kernel
theorem dX12_readLine_148 : decode cX12_readLine 148 = .ok (.aload_n 0, 1) := by decide +kernel
theorem dX12_readLine_149 : decode cX12_readLine 149 = .ok (.invokevirtual 164, 3) := by decide +kernel
theorem dX12_readLine_152 : decode cX12_readLine 152 = .ok (.aload_n 0, 1) := by decide +kernel
theorem dX12_readLine_153 : decode cX12_readLine 153 = .ok (.invokevirtual 241, 3) := by decide +kernel
theorem dX12_readLine_156 : decode cX12_readLine 156 = .ok (.goto 12, 3) := by decide +kernel
theorem dX12_readLine_159 : decode cX12_readLine 159 = .ok (.aload_n 0, 1) := by decide +kernel
theorem dX12_readLine_160 : decode cX12_readLine 160 = .ok (.iconst 1, 1) := by decide +kernel
theorem dX12_readLine_161 : decode cX12_readLine 161 = .ok (.aload_n 0, 1) := by decide +kernel
theorem dX12_readLine_162 : decode cX12_readLine 162 = .ok (.getfield 124, 3) := by decide +kernel
theorem dX12_readLine_165 : decode cX12_readLine 165 = .ok (.invokevirtual 170, 3) := by decide +kernel
theorem dX12_readLine_168 : decode cX12_readLine 168 = .ok (.return_, 1) := by decide +kernel
theorem dX12_stepOf_0 : decode cX12_stepOf 0 = .ok (.aload_n 0, 1) := by decide +kernel
theorem dX12_stepOf_1 : decode cX12_stepOf 1 = .ok (.ldc 244, 2) := by decide +kernel
theorem dX12_stepOf_3 : decode cX12_stepOf 3 = .ok (.invokevirtual 160, 3) := by decide +kernel
theorem dX12_stepOf_6 : decode cX12_stepOf 6 = .ok (.ifCond .eq 7, 3) := by decide +kernel
theorem dX12_stepOf_9 : decode cX12_stepOf 9 = .ok (.iconst 0, 1) := by decide +kernel
theorem dX12_stepOf_10 : decode cX12_stepOf 10 = .ok (.goto 43, 3) := by decide +kernel
theorem dX12_stepOf_13 : decode cX12_stepOf 13 = .ok (.aload_n 0, 1) := by decide +kernel
theorem dX12_stepOf_14 : decode cX12_stepOf 14 = .ok (.ldc 246, 2) := by decide +kernel
theorem dX12_stepOf_16 : decode cX12_stepOf 16 = .ok (.invokevirtual 160, 3) := by decide +kernel
theorem dX12_stepOf_19 : decode cX12_stepOf 19 = .ok (.ifCond .eq 7, 3) := by decide +kernel
theorem dX12_stepOf_22 : decode cX12_stepOf 22 = .ok (.iconst 1, 1) := by decide +kernel
theorem dX12_stepOf_23 : decode cX12_stepOf 23 = .ok (.goto 30, 3) := by decide +kernel
theorem dX12_stepOf_26 : decode cX12_stepOf 26 = .ok (.aload_n 0, 1) := by decide +kernel
theorem dX12_stepOf_27 : decode cX12_stepOf 27 = .ok (.ldc 185, 2) := by decide +kernel
theorem dX12_stepOf_29 : decode cX12_stepOf 29 = .ok (.invokevirtual 160, 3) := by decide +kernel
theorem dX12_stepOf_32 : decode cX12_stepOf 32 = .ok (.ifCond .eq 7, 3) := by decide +kernel
theorem dX12_stepOf_35 : decode cX12_stepOf 35 = .ok (.iconst 2, 1) := by decide +kernel
theorem dX12_stepOf_36 : decode cX12_stepOf 36 = .ok (.goto 17, 3) := by decide +kernel
theorem dX12_stepOf_39 : decode cX12_stepOf 39 = .ok (.aload_n 0, 1) := by decide +kernel
theorem dX12_stepOf_40 : decode cX12_stepOf 40 = .ok (.ldc 248, 2) := by decide +kernel
theorem dX12_stepOf_42 : decode cX12_stepOf 42 = .ok (.invokevirtual 160, 3) := by decide +kernel
theorem dX12_stepOf_45 : decode cX12_stepOf 45 = .ok (.ifCond .eq 7, 3) := by decide +kernel
theorem dX12_stepOf_48 : decode cX12_stepOf 48 = .ok (.iconst 3, 1) := by decide +kernel
theorem dX12_stepOf_49 : decode cX12_stepOf 49 = .ok (.goto 4, 3) := by decide +kernel
theorem dX12_stepOf_52 : decode cX12_stepOf 52 = .ok (.iconst (-1), 1) := by decide +kernel
theorem dX12_stepOf_53 : decode cX12_stepOf 53 = .ok (.istore_n 2, 1) := by decide +kernel
theorem dX12_stepOf_54 : decode cX12_stepOf 54 = .ok (.iload_n 2, 1) := by decide +kernel
theorem dX12_stepOf_55 : decode cX12_stepOf 55 = .ok (.iconst (-1), 1) := by decide +kernel
theorem dX12_stepOf_56 : decode cX12_stepOf 56 = .ok (.if_icmp .ne 12, 3) := by decide +kernel
theorem dX12_stepOf_59 : decode cX12_stepOf 59 = .ok (.aload_n 0, 1) := by decide +kernel
theorem dX12_stepOf_60 : decode cX12_stepOf 60 = .ok (.iconst 1, 1) := by decide +kernel
theorem dX12_stepOf_61 : decode cX12_stepOf 61 = .ok (.aload_n 0, 1) := by decide +kernel
theorem dX12_stepOf_62 : decode cX12_stepOf 62 = .ok (.getfield 124, 3) := by decide +kernel
theorem dX12_stepOf_65 : decode cX12_stepOf 65 = .ok (.invokevirtual 170, 3) := by decide +kernel
theorem dX12_stepOf_68 : decode cX12_stepOf 68 = .ok (.aload_n 0, 1) := by decide +kernel
theorem dX12_stepOf_69 : decode cX12_stepOf 69 = .ok (.getfield 143, 3) := by decide +kernel
theorem dX12_stepOf_72 : decode cX12_stepOf 72 = .ok (.ifCond .ne 24, 3) := by decide +kernel
theorem dX12_stepOf_75 : decode cX12_stepOf 75 = .ok (.aload_n 0, 1) := by decide +kernel
theorem dX12_stepOf_76 : decode cX12_stepOf 76 = .ok (.getfield 23, 3) := by decide +kernel
theorem dX12_stepOf_79 : decode cX12_stepOf 79 = .ok (.iconst 0, 1) := by decide +kernel
theorem dX12_stepOf_80 : decode cX12_stepOf 80 = .ok (.iload_n 1, 1) := by decide +kernel
theorem dX12_stepOf_81 : decode cX12_stepOf 81 = .ok (.iadd, 1) := by decide +kernel
theorem dX12_stepOf_82 : decode cX12_stepOf 82 = .ok (.iaload, 1) := by decide +kernel
theorem dX12_stepOf_83 : decode cX12_stepOf 83 = .ok (.iconst 4, 1) := by decide +kernel
theorem dX12_stepOf_84 : decode cX12_stepOf 84 = .ok (.if_icmp .ne 12, 3) := by decide +kernel
theorem dX12_stepOf_87 : decode cX12_stepOf 87 = .ok (.aload_n 0, 1) := by decide +kernel
theorem dX12_stepOf_88 : decode cX12_stepOf 88 = .ok (.iconst 5, 1) := by decide +kernel
theorem dX12_stepOf_89 : decode cX12_stepOf 89 = .ok (.aload_n 0, 1) := by decide +kernel
theorem dX12_stepOf_90 : decode cX12_stepOf 90 = .ok (.getfield 124, 3) := by decide +kernel
theorem dX12_stepOf_93 : decode cX12_stepOf 93 = .ok (.invokevirtual 170, 3) := by decide +kernel
theorem dX12_stepOf_96 : decode cX12_stepOf 96 = .ok (.aload_n 0, 1) := by decide +kernel
theorem dX12_stepOf_97 : decode cX12_stepOf 97 = .ok (.getfield 143, 3) := by decide +kernel
theorem dX12_stepOf_100 : decode cX12_stepOf 100 = .ok (.ifCond .eq 4, 3) := by decide +kernel
theorem dX12_stepOf_103 : decode cX12_stepOf 103 = .ok (.return_, 1) := by decide +kernel
theorem dX12_stepOf_104 : decode cX12_stepOf 104 = .ok (.aload_n 0, 1) := by decide +kernel
theorem dX12_stepOf_105 : decode cX12_stepOf 105 = .ok (.invokevirtual 164, 3) := by decide +kernel
theorem dX12_stepOf_108 : decode cX12_stepOf 108 = .ok (.iconst 4, 1) := by decide +kernel
theorem dX12_stepOf_109 : decode cX12_stepOf 109 = .ok (.iload_n 1, 1) := by decide +kernel
theorem dX12_stepOf_110 : decode cX12_stepOf 110 = .ok (.imul, 1) := by decide +kernel
theorem dX12_stepOf_111 : decode cX12_stepOf 111 = .ok (.aload_n 0, 1) := by decide +kernel
theorem dX12_stepOf_112 : decode cX12_stepOf 112 = .ok (.getfield 23, 3) := by decide +kernel
theorem dX12_stepOf_115 : decode cX12_stepOf 115 = .ok (.iconst 0, 1) := by decide +kernel
theorem dX12_stepOf_116 : decode cX12_stepOf 116 = .ok (.iload_n 1, 1) := by decide +kernel
theorem dX12_stepOf_117 : decode cX12_stepOf 117 = .ok (.iadd, 1) := by decide +kernel
theorem dX12_stepOf_118 : decode cX12_stepOf 118 = .ok (.iaload, 1) := by decide +kernel
theorem dX12_stepOf_119 : decode cX12_stepOf 119 = .ok (.iadd, 1) := by decide +kernel
theorem dX12_stepOf_120 : decode cX12_stepOf 120 = .ok (.istore_n 3, 1) := by decide +kernel
theorem dX12_stepOf_121 : decode cX12_stepOf 121 = .ok (.aload_n 0, 1) := by decide +kernel
theorem dX12_stepOf_122 : decode cX12_stepOf 122 = .ok (.getfield 23, 3) := by decide +kernel
theorem dX12_stepOf_125 : decode cX12_stepOf 125 = .ok (.bipush 6, 2) := by decide +kernel
theorem dX12_stepOf_127 : decode cX12_stepOf 127 = .ok (.iload_n 3, 1) := by decide +kernel
theorem dX12_stepOf_128 : decode cX12_stepOf 128 = .ok (.iadd, 1) := by decide +kernel
theorem dX12_stepOf_129 : decode cX12_stepOf 129 = .ok (.iload_n 2, 1) := by decide +kernel
theorem dX12_stepOf_130 : decode cX12_stepOf 130 = .ok (.iastore, 1) := by decide +kernel
theorem dX12_stepOf_131 : decode cX12_stepOf 131 = .ok (.aload_n 0, 1) := by decide +kernel
theorem dX12_stepOf_132 : decode cX12_stepOf 132 = .ok (.getfield 23, 3) := by decide +kernel
theorem dX12_stepOf_135 : decode cX12_stepOf 135 = .ok (.bipush 30, 2) := by decide +kernel
theorem dX12_stepOf_137 : decode cX12_stepOf 137 = .ok (.iload_n 3, 1) := by decide +kernel
theorem dX12_stepOf_138 : decode cX12_stepOf 138 = .ok (.iadd, 1) := by decide +kernel
theorem dX12_stepOf_139 : decode cX12_stepOf 139 = .ok (.iload_n 2, 1) := by decide +kernel
theorem dX12_stepOf_140 : decode cX12_stepOf 140 = .ok (.ifCond .ne 13, 3) := by decide +kernel
theorem dX12_stepOf_143 : decode cX12_stepOf 143 = .ok (.aload_n 0, 1) := by decide +kernel
theorem dX12_stepOf_144 : decode cX12_stepOf 144 = .ok (.iconst 2, 1) := by decide +kernel
theorem dX12_stepOf_145 : decode cX12_stepOf 145 = .ok (.bipush 99, 2) := by decide +kernel
theorem dX12_stepOf_147 : decode cX12_stepOf 147 = .ok (.invokevirtual 207, 3) := by decide +kernel
theorem dX12_stepOf_150 : decode cX12_stepOf 150 = .ok (.goto 40, 3) := by decide +kernel
theorem dX12_stepOf_153 : decode cX12_stepOf 153 = .ok (.iload_n 2, 1) := by decide +kernel
theorem dX12_stepOf_154 : decode cX12_stepOf 154 = .ok (.iconst 1, 1) := by decide +kernel
theorem dX12_stepOf_155 : decode cX12_stepOf 155 = .ok (.if_icmp .ne 12, 3) := by decide +kernel
theorem dX12_stepOf_158 : decode cX12_stepOf 158 = .ok (.aload_n 0, 1) := by decide +kernel
theorem dX12_stepOf_159 : decode cX12_stepOf 159 = .ok (.iconst 1, 1) := by decide +kernel
theorem dX12_stepOf_160 : decode cX12_stepOf 160 = .ok (.iconst 3, 1) := by decide +kernel
theorem dX12_stepOf_161 : decode cX12_stepOf 161 = .ok (.invokevirtual 207, 3) := by decide +kernel
theorem dX12_stepOf_164 : decode cX12_stepOf 164 = .ok (.goto 26, 3) := by decide +kernel
theorem dX12_stepOf_167 : decode cX12_stepOf 167 = .ok (.iload_n 2, 1) := by decide +kernel
theorem dX12_stepOf_168 : decode cX12_stepOf 168 = .ok (.iconst 2, 1) := by decide +kernel
theorem dX12_stepOf_169 : decode cX12_stepOf 169 = .ok (.if_icmp .ne 13, 3) := by decide +kernel
theorem dX12_stepOf_172 : decode cX12_stepOf 172 = .ok (.aload_n 0, 1) := by decide +kernel
theorem dX12_stepOf_173 : decode cX12_stepOf 173 = .ok (.iconst 1, 1) := by decide +kernel
theorem dX12_stepOf_174 : decode cX12_stepOf 174 = .ok (.bipush 99, 2) := by decide +kernel
theorem dX12_stepOf_176 : decode cX12_stepOf 176 = .ok (.invokevirtual 207, 3) := by decide +kernel
theorem dX12_stepOf_179 : decode cX12_stepOf 179 = .ok (.goto 11, 3) := by decide +kernel
theorem dX12_stepOf_182 : decode cX12_stepOf 182 = .ok (.aload_n 0, 1) := by decide +kernel
theorem dX12_stepOf_183 : decode cX12_stepOf 183 = .ok (.iconst 0, 1) := by decide +kernel
theorem dX12_stepOf_184 : decode cX12_stepOf 184 = .ok (.sipush 399, 3) := by decide +kernel
theorem dX12_stepOf_187 : decode cX12_stepOf 187 = .ok (.invokevirtual 207, 3) := by decide +kernel
theorem dX12_stepOf_190 : decode cX12_stepOf 190 = .ok (.iastore, 1) := by decide +kernel
theorem dX12_stepOf_191 : decode cX12_stepOf 191 = .ok (.iload_n 2, 1) := by decide +kernel
theorem dX12_stepOf_192 : decode cX12_stepOf 192 = .ok (.iconst 1, 1) := by decide +kernel
theorem dX12_stepOf_193 : decode cX12_stepOf 193 = .ok (.if_icmp .eq 8, 3) := by decide +kernel
theorem dX12_stepOf_196 : decode cX12_stepOf 196 = .ok (.iload_n 2, 1) := by decide +kernel
theorem dX12_stepOf_197 : decode cX12_stepOf 197 = .ok (.iconst 2, 1) := by decide +kernel
theorem dX12_stepOf_198 : decode cX12_stepOf 198 = .ok (.if_icmp .ne 32, 3) := by decide +kernel
theorem dX12_stepOf_201 : decode cX12_stepOf 201 = .ok (.aload_n 0, 1) := by decide +kernel
theorem dX12_stepOf_202 : decode cX12_stepOf 202 = .ok (.invokevirtual 250, 3) := by decide +kernel
theorem dX12_stepOf_205 : decode cX12_stepOf 205 = .ok (.aload_n 0, 1) := by decide +kernel
theorem dX12_stepOf_206 : decode cX12_stepOf 206 = .ok (.getfield 23, 3) := by decide +kernel
theorem dX12_stepOf_209 : decode cX12_stepOf 209 = .ok (.bipush 54, 2) := by decide +kernel
theorem dX12_stepOf_211 : decode cX12_stepOf 211 = .ok (.iload_n 3, 1) := by decide +kernel
theorem dX12_stepOf_212 : decode cX12_stepOf 212 = .ok (.iadd, 1) := by decide +kernel
theorem dX12_stepOf_213 : decode cX12_stepOf 213 = .ok (.aload_n 0, 1) := by decide +kernel
theorem dX12_stepOf_214 : decode cX12_stepOf 214 = .ok (.iconst 1, 1) := by decide +kernel
theorem dX12_stepOf_215 : decode cX12_stepOf 215 = .ok (.iload_n 2, 1) := by decide +kernel
theorem dX12_stepOf_216 : decode cX12_stepOf 216 = .ok (.iconst 1, 1) := by decide +kernel
theorem dX12_stepOf_217 : decode cX12_stepOf 217 = .ok (.if_icmp .ne 7, 3) := by decide +kernel
theorem dX12_stepOf_220 : decode cX12_stepOf 220 = .ok (.iconst 3, 1) := by decide +kernel
theorem dX12_stepOf_221 : decode cX12_stepOf 221 = .ok (.goto 5, 3) := by decide +kernel
theorem dX12_stepOf_224 : decode cX12_stepOf 224 = .ok (.bipush 99, 2) := by decide +kernel
theorem dX12_stepOf_226 : decode cX12_stepOf 226 = .ok (.invokevirtual 207, 3) := by decide +kernel
theorem dX12_stepOf_229 : decode cX12_stepOf 229 = .ok (.iastore, 1) := by decide +kernel
theorem dX12_stepOf_230 : decode cX12_stepOf 230 = .ok (.aload_n 0, 1) := by decide +kernel
theorem dX12_stepOf_231 : decode cX12_stepOf 231 = .ok (.getfield 23, 3) := by decide +kernel
theorem dX12_stepOf_234 : decode cX12_stepOf 234 = .ok (.iconst 0, 1) := by decide +kernel
theorem dX12_stepOf_235 : decode cX12_stepOf 235 = .ok (.iload_n 1, 1) := by decide +kernel
theorem dX12_stepOf_236 : decode cX12_stepOf 236 = .ok (.iadd, 1) := by decide +kernel
theorem dX12_stepOf_237 : decode cX12_stepOf 237 = .ok (.dup2, 1) := by decide +kernel
theorem dX12_stepOf_238 : decode cX12_stepOf 238 = .ok (.iaload, 1) := by decide +kernel
theorem dX12_stepOf_239 : decode cX12_stepOf 239 = .ok (.iconst 1, 1) := by decide +kernel
theorem dX12_stepOf_240 : decode cX12_stepOf 240 = .ok (.iadd, 1) := by decide +kernel
theorem dX12_stepOf_241 : decode cX12_stepOf 241 = .ok (.iastore, 1) := by decide +kernel
theorem dX12_stepOf_242 : decode cX12_stepOf 242 = .ok (.return_, 1) := by decide +kernel
theorem dX12_senseLine_0 : decode cX12_senseLine 0 = .ok (.aload_n 0, 1) := by decide +kernel
theorem dX12_senseLine_1 : decode cX12_senseLine 1 = .ok (.getfield 143, 3) := by decide +kernel
theorem dX12_senseLine_4 : decode cX12_senseLine 4 = .ok (.ifCond .eq 4, 3) := by decide +kernel
theorem dX12_senseLine_7 : decode cX12_senseLine 7 = .ok (.return_, 1) := by decide +kernel
theorem dX12_senseLine_8 : decode cX12_senseLine 8 = .ok (.aload_n 0, 1) := by decide +kernel
theorem dX12_senseLine_9 : decode cX12_senseLine 9 = .ok (.getfield 23, 3) := by decide +kernel
theorem dX12_senseLine_12 : decode cX12_senseLine 12 = .ok (.sipush 238, 3) := by decide +kernel
theorem dX12_senseLine_15 : decode cX12_senseLine 15 = .ok (.iaload, 1) := by decide +kernel
theorem dX12_senseLine_16 : decode cX12_senseLine 16 = .ok (.istore_n 1, 1) := by decide +kernel
theorem dX12_senseLine_17 : decode cX12_senseLine 17 = .ok (.aload_n 0, 1) := by decide +kernel
theorem dX12_senseLine_18 : decode cX12_senseLine 18 = .ok (.iconst 0, 1) := by decide +kernel
theorem dX12_senseLine_19 : decode cX12_senseLine 19 = .ok (.iload_n 1, 1) := by decide +kernel
theorem dX12_senseLine_20 : decode cX12_senseLine 20 = .ok (.invokevirtual 253, 3) := by decide +kernel
theorem dX12_senseLine_23 : decode cX12_senseLine 23 = .ok (.aload_n 0, 1) := by decide +kernel
theorem dX12_senseLine_24 : decode cX12_senseLine 24 = .ok (.iload_n 1, 1) := by decide +kernel
theorem dX12_senseLine_25 : decode cX12_senseLine 25 = .ok (.invokevirtual 256, 3) := by decide +kernel
theorem dX12_senseLine_28 : decode cX12_senseLine 28 = .ok (.aload_n 0, 1) := by decide +kernel
theorem dX12_senseLine_29 : decode cX12_senseLine 29 = .ok (.getfield 143, 3) := by decide +kernel
theorem dX12_senseLine_32 : decode cX12_senseLine 32 = .ok (.ifCond .ne 20, 3) := by decide +kernel
theorem dX12_senseLine_35 : decode cX12_senseLine 35 = .ok (.aload_n 0, 1) := by decide +kernel
theorem dX12_senseLine_36 : decode cX12_senseLine 36 = .ok (.ldc 182, 2) := by decide +kernel
theorem dX12_senseLine_38 : decode cX12_senseLine 38 = .ok (.invokevirtual 167, 3) := by decide +kernel
theorem dX12_senseLine_41 : decode cX12_senseLine 41 = .ok (.ifCond .eq 11, 3) := by decide +kernel
theorem dX12_senseLine_44 : decode cX12_senseLine 44 = .ok (.aload_n 0, 1) := by decide +kernel
theorem dX12_senseLine_45 : decode cX12_senseLine 45 = .ok (.iload_n 1, 1) := by decide +kernel
theorem dX12_senseLine_46 : decode cX12_senseLine 46 = .ok (.invokevirtual 256, 3) := by decide +kernel
theorem dX12_senseLine_49 : decode cX12_senseLine 49 = .ok (.goto (-21), 3) := by decide +kernel
theorem dX12_senseLine_52 : decode cX12_senseLine 52 = .ok (.aload_n 0, 1) := by decide +kernel
theorem dX12_senseLine_53 : decode cX12_senseLine 53 = .ok (.ldc 183, 2) := by decide +kernel
theorem dX12_senseLine_55 : decode cX12_senseLine 55 = .ok (.invokevirtual 260, 3) := by decide +kernel
theorem dX12_senseLine_58 : decode cX12_senseLine 58 = .ok (.aload_n 0, 1) := by decide +kernel
theorem dX12_senseLine_59 : decode cX12_senseLine 59 = .ok (.getfield 143, 3) := by decide +kernel
theorem dX12_senseLine_62 : decode cX12_senseLine 62 = .ok (.ifCond .eq 4, 3) := by decide +kernel
theorem dX12_senseLine_65 : decode cX12_senseLine 65 = .ok (.return_, 1) := by decide +kernel
theorem dX12_senseLine_66 : decode cX12_senseLine 66 = .ok (.aload_n 0, 1) := by decide +kernel
theorem dX12_senseLine_67 : decode cX12_senseLine 67 = .ok (.getfield 23, 3) := by decide +kernel
theorem dX12_senseLine_70 : decode cX12_senseLine 70 = .ok (.bipush 84, 2) := by decide +kernel
theorem dX12_senseLine_72 : decode cX12_senseLine 72 = .ok (.bipush 6, 2) := by decide +kernel
theorem dX12_senseLine_74 : decode cX12_senseLine 74 = .ok (.iload_n 1, 1) := by decide +kernel
theorem dX12_senseLine_75 : decode cX12_senseLine 75 = .ok (.imul, 1) := by decide +kernel
theorem dX12_senseLine_76 : decode cX12_senseLine 76 = .ok (.iadd, 1) := by decide +kernel
theorem dX12_senseLine_77 : decode cX12_senseLine 77 = .ok (.aload_n 0, 1) := by decide +kernel
theorem dX12_senseLine_78 : decode cX12_senseLine 78 = .ok (.iconst 1, 1) := by decide +kernel
theorem dX12_senseLine_79 : decode cX12_senseLine 79 = .ok (.bipush 9, 2) := by decide +kernel
theorem dX12_senseLine_81 : decode cX12_senseLine 81 = .ok (.invokevirtual 207, 3) := by decide +kernel
theorem dX12_senseLine_84 : decode cX12_senseLine 84 = .ok (.iastore, 1) := by decide +kernel
theorem dX12_senseLine_85 : decode cX12_senseLine 85 = .ok (.aload_n 0, 1) := by decide +kernel
theorem dX12_senseLine_86 : decode cX12_senseLine 86 = .ok (.getfield 23, 3) := by decide +kernel
theorem dX12_senseLine_89 : decode cX12_senseLine 89 = .ok (.bipush 78, 2) := by decide +kernel
theorem dX12_senseLine_91 : decode cX12_senseLine 91 = .ok (.iload_n 1, 1) := by decide +kernel
theorem dX12_senseLine_92 : decode cX12_senseLine 92 = .ok (.iadd, 1) := by decide +kernel
theorem dX12_senseLine_93 : decode cX12_senseLine 93 = .ok (.iconst 1, 1) := by decide +kernel
theorem dX12_senseLine_94 : decode cX12_senseLine 94 = .ok (.iastore, 1) := by decide +kernel
theorem dX12_senseLine_95 : decode cX12_senseLine 95 = .ok (.aload_n 0, 1) := by decide +kernel
theorem dX12_senseLine_96 : decode cX12_senseLine 96 = .ok (.getfield 143, 3) := by decide +kernel
theorem dX12_senseLine_99 : decode cX12_senseLine 99 = .ok (.ifCond .ne 112, 3) := by decide +kernel
theorem dX12_senseLine_102 : decode cX12_senseLine 102 = .ok (.aload_n 0, 1) := by decide +kernel
theorem dX12_senseLine_103 : decode cX12_senseLine 103 = .ok (.getfield 133, 3) := by decide +kernel
theorem dX12_senseLine_106 : decode cX12_senseLine 106 = .ok (.iconst 3, 1) := by decide +kernel
theorem dX12_senseLine_107 : decode cX12_senseLine 107 = .ok (.if_icmp .ne 104, 3) := by decide +kernel
theorem dX12_senseLine_110 : decode cX12_senseLine 110 = .ok (.aload_n 0, 1) := by decide +kernel
theorem dX12_senseLine_111 : decode cX12_senseLine 111 = .ok (.getfield 130, 3) := by decide +kernel
theorem dX12_senseLine_114 : decode cX12_senseLine 114 = .ok (.iconst 0, 1) := by decide +kernel
theorem dX12_senseLine_115 : decode cX12_senseLine 115 = .ok (.bipush 9, 2) := by decide +kernel
theorem dX12_senseLine_117 : decode cX12_senseLine 117 = .ok (.invokestatic 203, 3) := by decide +kernel
theorem dX12_senseLine_120 : decode cX12_senseLine 120 = .ok (.ifCond .ne 15, 3) := by decide +kernel
theorem dX12_senseLine_123 : decode cX12_senseLine 123 = .ok (.aload_n 0, 1) := by decide +kernel
theorem dX12_senseLine_124 : decode cX12_senseLine 124 = .ok (.iconst 4, 1) := by decide +kernel
theorem dX12_senseLine_125 : decode cX12_senseLine 125 = .ok (.aload_n 0, 1) := by decide +kernel
theorem dX12_senseLine_126 : decode cX12_senseLine 126 = .ok (.getfield 124, 3) := by decide +kernel
theorem dX12_senseLine_129 : decode cX12_senseLine 129 = .ok (.invokevirtual 170, 3) := by decide +kernel
theorem dX12_senseLine_132 : decode cX12_senseLine 132 = .ok (.goto 26, 3) := by decide +kernel
theorem dX12_senseLine_135 : decode cX12_senseLine 135 = .ok (.aload_n 0, 1) := by decide +kernel
theorem dX12_senseLine_136 : decode cX12_senseLine 136 = .ok (.getfield 23, 3) := by decide +kernel
theorem dX12_senseLine_139 : decode cX12_senseLine 139 = .ok (.bipush 78, 2) := by decide +kernel
theorem dX12_senseLine_141 : decode cX12_senseLine 141 = .ok (.iload_n 1, 1) := by decide +kernel
theorem dX12_senseLine_142 : decode cX12_senseLine 142 = .ok (.iadd, 1) := by decide +kernel
theorem dX12_senseLine_143 : decode cX12_senseLine 143 = .ok (.iaload, 1) := by decide +kernel
theorem dX12_senseLine_144 : decode cX12_senseLine 144 = .ok (.bipush 6, 2) := by decide +kernel
theorem dX12_senseLine_146 : decode cX12_senseLine 146 = .ok (.if_icmp .ne 12, 3) := by decide +kernel
theorem dX12_senseLine_149 : decode cX12_senseLine 149 = .ok (.aload_n 0, 1) := by decide +kernel
theorem dX12_senseLine_150 : decode cX12_senseLine 150 = .ok (.iconst 5, 1) := by decide +kernel
theorem dX12_senseLine_151 : decode cX12_senseLine 151 = .ok (.aload_n 0, 1) := by decide +kernel
theorem dX12_senseLine_152 : decode cX12_senseLine 152 = .ok (.getfield 124, 3) := by decide +kernel
theorem dX12_senseLine_155 : decode cX12_senseLine 155 = .ok (.invokevirtual 170, 3) := by decide +kernel
theorem dX12_senseLine_158 : decode cX12_senseLine 158 = .ok (.aload_n 0, 1) := by decide +kernel
theorem dX12_senseLine_159 : decode cX12_senseLine 159 = .ok (.getfield 143, 3) := by decide +kernel
theorem dX12_senseLine_162 : decode cX12_senseLine 162 = .ok (.ifCond .eq 4, 3) := by decide +kernel
theorem dX12_senseLine_165 : decode cX12_senseLine 165 = .ok (.return_, 1) := by decide +kernel
theorem dX12_senseLine_166 : decode cX12_senseLine 166 = .ok (.aload_n 0, 1) := by decide +kernel
theorem dX12_senseLine_167 : decode cX12_senseLine 167 = .ok (.getfield 23, 3) := by decide +kernel
theorem dX12_senseLine_170 : decode cX12_senseLine 170 = .ok (.bipush 84, 2) := by decide +kernel
theorem dX12_senseLine_172 : decode cX12_senseLine 172 = .ok (.bipush 6, 2) := by decide +kernel
theorem dX12_senseLine_174 : decode cX12_senseLine 174 = .ok (.iload_n 1, 1) := by decide +kernel
theorem dX12_senseLine_175 : decode cX12_senseLine 175 = .ok (.imul, 1) := by decide +kernel
theorem dX12_senseLine_176 : decode cX12_senseLine 176 = .ok (.iadd, 1) := by decide +kernel
theorem dX12_senseLine_177 : decode cX12_senseLine 177 = .ok (.aload_n 0, 1) := by decide +kernel
theorem dX12_senseLine_178 : decode cX12_senseLine 178 = .ok (.getfield 23, 3) := by decide +kernel
theorem dX12_senseLine_181 : decode cX12_senseLine 181 = .ok (.bipush 78, 2) := by decide +kernel
theorem dX12_senseLine_183 : decode cX12_senseLine 183 = .ok (.iload_n 1, 1) := by decide +kernel
theorem dX12_senseLine_184 : decode cX12_senseLine 184 = .ok (.iadd, 1) := by decide +kernel
theorem dX12_senseLine_185 : decode cX12_senseLine 185 = .ok (.iaload, 1) := by decide +kernel
theorem dX12_senseLine_186 : decode cX12_senseLine 186 = .ok (.iadd, 1) := by decide +kernel
theorem dX12_senseLine_187 : decode cX12_senseLine 187 = .ok (.aload_n 0, 1) := by decide +kernel
theorem dX12_senseLine_188 : decode cX12_senseLine 188 = .ok (.iconst 0, 1) := by decide +kernel
theorem dX12_senseLine_189 : decode cX12_senseLine 189 = .ok (.bipush 9, 2) := by decide +kernel
theorem dX12_senseLine_191 : decode cX12_senseLine 191 = .ok (.invokevirtual 207, 3) := by decide +kernel
theorem dX12_senseLine_194 : decode cX12_senseLine 194 = .ok (.iastore, 1) := by decide +kernel
theorem dX12_senseLine_195 : decode cX12_senseLine 195 = .ok (.aload_n 0, 1) := by decide +kernel
theorem dX12_senseLine_196 : decode cX12_senseLine 196 = .ok (.getfield 23, 3) := by decide +kernel
theorem dX12_senseLine_199 : decode cX12_senseLine 199 = .ok (.bipush 78, 2) := by decide +kernel
theorem dX12_senseLine_201 : decode cX12_senseLine 201 = .ok (.iload_n 1, 1) := by decide +kernel
theorem dX12_senseLine_202 : decode cX12_senseLine 202 = .ok (.iadd, 1) := by decide +kernel
theorem dX12_senseLine_203 : decode cX12_senseLine 203 = .ok (.dup2, 1) := by decide +kernel
theorem dX12_senseLine_204 : decode cX12_senseLine 204 = .ok (.iaload, 1) := by decide +kernel
theorem dX12_senseLine_205 : decode cX12_senseLine 205 = .ok (.iconst 1, 1) := by decide +kernel
theorem dX12_senseLine_206 : decode cX12_senseLine 206 = .ok (.iadd, 1) := by decide +kernel
theorem dX12_senseLine_207 : decode cX12_senseLine 207 = .ok (.iastore, 1) := by decide +kernel
theorem dX12_senseLine_208 : decode cX12_senseLine 208 = .ok (.goto (-113), 3) := by decide +kernel
theorem dX12_senseLine_211 : decode cX12_senseLine 211 = .ok (.aload_n 0, 1) := by decide +kernel
theorem dX12_senseLine_212 : decode cX12_senseLine 212 = .ok (.getfield 23, 3) := by decide +kernel
theorem dX12_senseLine_215 : decode cX12_senseLine 215 = .ok (.sipush 238, 3) := by decide +kernel
theorem dX12_senseLine_218 : decode cX12_senseLine 218 = .ok (.dup2, 1) := by decide +kernel
theorem dX12_senseLine_219 : decode cX12_senseLine 219 = .ok (.iaload, 1) := by decide +kernel
theorem dX12_senseLine_220 : decode cX12_senseLine 220 = .ok (.iconst 1, 1) := by decide +kernel
theorem dX12_senseLine_221 : decode cX12_senseLine 221 = .ok (.iadd, 1) := by decide +kernel
theorem dX12_senseLine_222 : decode cX12_senseLine 222 = .ok (.iastore, 1) := by decide +kernel
theorem dX12_senseLine_223 : decode cX12_senseLine 223 = .ok (.return_, 1) := by decide +kernel
theorem dX12_sayerLine_0 : decode cX12_sayerLine 0 = .ok (.aload_n 0, 1) := by decide +kernel
theorem dX12_sayerLine_1 : decode cX12_sayerLine 1 = .ok (.getfield 143, 3) := by decide +kernel
theorem dX12_sayerLine_4 : decode cX12_sayerLine 4 = .ok (.ifCond .eq 4, 3) := by decide +kernel
theorem dX12_sayerLine_7 : decode cX12_sayerLine 7 = .ok (.return_, 1) := by decide +kernel
theorem dX12_sayerLine_8 : decode cX12_sayerLine 8 = .ok (.aload_n 0, 1) := by decide +kernel
theorem dX12_sayerLine_9 : decode cX12_sayerLine 9 = .ok (.getfield 23, 3) := by decide +kernel
theorem dX12_sayerLine_12 : decode cX12_sayerLine 12 = .ok (.sipush 239, 3) := by decide +kernel
theorem dX12_sayerLine_15 : decode cX12_sayerLine 15 = .ok (.iaload, 1) := by decide +kernel
theorem dX12_sayerLine_16 : decode cX12_sayerLine 16 = .ok (.istore_n 1, 1) := by decide +kernel
theorem dX12_sayerLine_17 : decode cX12_sayerLine 17 = .ok (.aload_n 0, 1) := by decide +kernel
theorem dX12_sayerLine_18 : decode cX12_sayerLine 18 = .ok (.iconst 1, 1) := by decide +kernel
theorem dX12_sayerLine_19 : decode cX12_sayerLine 19 = .ok (.iload_n 1, 1) := by decide +kernel
theorem dX12_sayerLine_20 : decode cX12_sayerLine 20 = .ok (.invokevirtual 253, 3) := by decide +kernel
theorem dX12_sayerLine_23 : decode cX12_sayerLine 23 = .ok (.aload_n 0, 1) := by decide +kernel
theorem dX12_sayerLine_24 : decode cX12_sayerLine 24 = .ok (.ldc_w 264, 3) := by decide +kernel
theorem dX12_sayerLine_27 : decode cX12_sayerLine 27 = .ok (.invokevirtual 260, 3) := by decide +kernel
theorem dX12_sayerLine_30 : decode cX12_sayerLine 30 = .ok (.aload_n 0, 1) := by decide +kernel
theorem dX12_sayerLine_31 : decode cX12_sayerLine 31 = .ok (.getfield 143, 3) := by decide +kernel
theorem dX12_sayerLine_34 : decode cX12_sayerLine 34 = .ok (.ifCond .eq 4, 3) := by decide +kernel
theorem dX12_sayerLine_37 : decode cX12_sayerLine 37 = .ok (.return_, 1) := by decide +kernel
theorem dX12_sayerLine_38 : decode cX12_sayerLine 38 = .ok (.aload_n 0, 1) := by decide +kernel
theorem dX12_sayerLine_39 : decode cX12_sayerLine 39 = .ok (.invokevirtual 197, 3) := by decide +kernel
theorem dX12_sayerLine_42 : decode cX12_sayerLine 42 = .ok (.aload_n 0, 1) := by decide +kernel
theorem dX12_sayerLine_43 : decode cX12_sayerLine 43 = .ok (.getfield 143, 3) := by decide +kernel
theorem dX12_sayerLine_46 : decode cX12_sayerLine 46 = .ok (.ifCond .eq 7, 3) := by decide +kernel
theorem dX12_sayerLine_49 : decode cX12_sayerLine 49 = .ok (.iconst (-1), 1) := by decide +kernel
theorem dX12_sayerLine_50 : decode cX12_sayerLine 50 = .ok (.goto 7, 3) := by decide +kernel
theorem dX12_sayerLine_53 : decode cX12_sayerLine 53 = .ok (.aload_n 0, 1) := by decide +kernel
theorem dX12_sayerLine_54 : decode cX12_sayerLine 54 = .ok (.invokevirtual 200, 3) := by decide +kernel
theorem dX12_sayerLine_57 : decode cX12_sayerLine 57 = .ok (.istore_n 2, 1) := by decide +kernel
theorem dX12_sayerLine_58 : decode cX12_sayerLine 58 = .ok (.aload_n 0, 1) := by decide +kernel
theorem dX12_sayerLine_59 : decode cX12_sayerLine 59 = .ok (.getfield 143, 3) := by decide +kernel
theorem dX12_sayerLine_62 : decode cX12_sayerLine 62 = .ok (.ifCond .ne 29, 3) := by decide +kernel
theorem dX12_sayerLine_65 : decode cX12_sayerLine 65 = .ok (.iload_n 2, 1) := by decide +kernel
theorem dX12_sayerLine_66 : decode cX12_sayerLine 66 = .ok (.ifCond .lt 16, 3) := by decide +kernel
theorem dX12_sayerLine_69 : decode cX12_sayerLine 69 = .ok (.aload_n 0, 1) := by decide +kernel
theorem dX12_sayerLine_70 : decode cX12_sayerLine 70 = .ok (.getfield 23, 3) := by decide +kernel
theorem dX12_sayerLine_73 : decode cX12_sayerLine 73 = .ok (.sipush 243, 3) := by decide +kernel
theorem dX12_sayerLine_76 : decode cX12_sayerLine 76 = .ok (.iload_n 2, 1) := by decide +kernel
theorem dX12_sayerLine_77 : decode cX12_sayerLine 77 = .ok (.iadd, 1) := by decide +kernel
theorem dX12_sayerLine_78 : decode cX12_sayerLine 78 = .ok (.iaload, 1) := by decide +kernel
theorem dX12_sayerLine_79 : decode cX12_sayerLine 79 = .ok (.ifCond .eq 12, 3) := by decide +kernel
theorem dX12_sayerLine_82 : decode cX12_sayerLine 82 = .ok (.aload_n 0, 1) := by decide +kernel
theorem dX12_sayerLine_83 : decode cX12_sayerLine 83 = .ok (.iconst 2, 1) := by decide +kernel
theorem dX12_sayerLine_84 : decode cX12_sayerLine 84 = .ok (.aload_n 0, 1) := by decide +kernel
theorem dX12_sayerLine_85 : decode cX12_sayerLine 85 = .ok (.getfield 124, 3) := by decide +kernel
theorem dX12_sayerLine_88 : decode cX12_sayerLine 88 = .ok (.invokevirtual 170, 3) := by decide +kernel
theorem dX12_sayerLine_91 : decode cX12_sayerLine 91 = .ok (.aload_n 0, 1) := by decide +kernel
theorem dX12_sayerLine_92 : decode cX12_sayerLine 92 = .ok (.getfield 143, 3) := by decide +kernel
theorem dX12_sayerLine_95 : decode cX12_sayerLine 95 = .ok (.ifCond .eq 4, 3) := by decide +kernel
theorem dX12_sayerLine_98 : decode cX12_sayerLine 98 = .ok (.return_, 1) := by decide +kernel
theorem dX12_sayerLine_99 : decode cX12_sayerLine 99 = .ok (.aload_n 0, 1) := by decide +kernel
theorem dX12_sayerLine_100 : decode cX12_sayerLine 100 = .ok (.getfield 23, 3) := by decide +kernel
theorem dX12_sayerLine_103 : decode cX12_sayerLine 103 = .ok (.bipush 120, 2) := by decide +kernel
theorem dX12_sayerLine_105 : decode cX12_sayerLine 105 = .ok (.iload_n 1, 1) := by decide +kernel
theorem dX12_sayerLine_106 : decode cX12_sayerLine 106 = .ok (.iadd, 1) := by decide +kernel
theorem dX12_sayerLine_107 : decode cX12_sayerLine 107 = .ok (.aload_n 0, 1) := by decide +kernel
theorem dX12_sayerLine_108 : decode cX12_sayerLine 108 = .ok (.getfield 23, 3) := by decide +kernel
theorem dX12_sayerLine_111 : decode cX12_sayerLine 111 = .ok (.sipush 263, 3) := by decide +kernel
theorem dX12_sayerLine_114 : decode cX12_sayerLine 114 = .ok (.iload_n 2, 1) := by decide +kernel
theorem dX12_sayerLine_115 : decode cX12_sayerLine 115 = .ok (.iadd, 1) := by decide +kernel
theorem dX12_sayerLine_116 : decode cX12_sayerLine 116 = .ok (.iaload, 1) := by decide +kernel
theorem dX12_sayerLine_117 : decode cX12_sayerLine 117 = .ok (.iastore, 1) := by decide +kernel
theorem dX12_sayerLine_118 : decode cX12_sayerLine 118 = .ok (.aload_n 0, 1) := by decide +kernel
theorem dX12_sayerLine_119 : decode cX12_sayerLine 119 = .ok (.invokevirtual 164, 3) := by decide +kernel
theorem dX12_sayerLine_122 : decode cX12_sayerLine 122 = .ok (.aload_n 0, 1) := by decide +kernel
theorem dX12_sayerLine_123 : decode cX12_sayerLine 123 = .ok (.ldc 185, 2) := by decide +kernel
theorem dX12_sayerLine_125 : decode cX12_sayerLine 125 = .ok (.invokevirtual 167, 3) := by decide +kernel
theorem dX12_sayerLine_128 : decode cX12_sayerLine 128 = .ok (.ifCond .eq 18, 3) := by decide +kernel
theorem dX12_sayerLine_131 : decode cX12_sayerLine 131 = .ok (.aload_n 0, 1) := by decide +kernel
theorem dX12_sayerLine_132 : decode cX12_sayerLine 132 = .ok (.getfield 23, 3) := by decide +kernel
theorem dX12_sayerLine_135 : decode cX12_sayerLine 135 = .ok (.bipush 126, 2) := by decide +kernel
theorem dX12_sayerLine_137 : decode cX12_sayerLine 137 = .ok (.iload_n 1, 1) := by decide +kernel
theorem dX12_sayerLine_138 : decode cX12_sayerLine 138 = .ok (.iadd, 1) := by decide +kernel
theorem dX12_sayerLine_139 : decode cX12_sayerLine 139 = .ok (.aload_n 0, 1) := by decide +kernel
theorem dX12_sayerLine_140 : decode cX12_sayerLine 140 = .ok (.bipush 50, 2) := by decide +kernel
theorem dX12_sayerLine_142 : decode cX12_sayerLine 142 = .ok (.invokevirtual 266, 3) := by decide +kernel
theorem dX12_sayerLine_145 : decode cX12_sayerLine 145 = .ok (.iastore, 1) := by decide +kernel
theorem dX12_sayerLine_146 : decode cX12_sayerLine 146 = .ok (.aload_n 0, 1) := by decide +kernel
theorem dX12_sayerLine_147 : decode cX12_sayerLine 147 = .ok (.ldc_w 269, 3) := by decide +kernel
theorem dX12_sayerLine_150 : decode cX12_sayerLine 150 = .ok (.invokevirtual 167, 3) := by decide +kernel
theorem dX12_sayerLine_153 : decode cX12_sayerLine 153 = .ok (.ifCond .eq 19, 3) := by decide +kernel
theorem dX12_sayerLine_156 : decode cX12_sayerLine 156 = .ok (.aload_n 0, 1) := by decide +kernel
theorem dX12_sayerLine_157 : decode cX12_sayerLine 157 = .ok (.getfield 23, 3) := by decide +kernel
theorem dX12_sayerLine_160 : decode cX12_sayerLine 160 = .ok (.sipush 132, 3) := by decide +kernel
theorem dX12_sayerLine_163 : decode cX12_sayerLine 163 = .ok (.iload_n 1, 1) := by decide +kernel
theorem dX12_sayerLine_164 : decode cX12_sayerLine 164 = .ok (.iadd, 1) := by decide +kernel
theorem dX12_sayerLine_165 : decode cX12_sayerLine 165 = .ok (.aload_n 0, 1) := by decide +kernel
theorem dX12_sayerLine_166 : decode cX12_sayerLine 166 = .ok (.bipush 50, 2) := by decide +kernel
theorem dX12_sayerLine_168 : decode cX12_sayerLine 168 = .ok (.invokevirtual 266, 3) := by decide +kernel
theorem dX12_sayerLine_171 : decode cX12_sayerLine 171 = .ok (.iastore, 1) := by decide +kernel
theorem dX12_sayerLine_172 : decode cX12_sayerLine 172 = .ok (.aload_n 0, 1) := by decide +kernel
theorem dX12_sayerLine_173 : decode cX12_sayerLine 173 = .ok (.ldc_w 271, 3) := by decide +kernel
theorem dX12_sayerLine_176 : decode cX12_sayerLine 176 = .ok (.invokevirtual 167, 3) := by decide +kernel
theorem dX12_sayerLine_179 : decode cX12_sayerLine 179 = .ok (.ifCond .eq 20, 3) := by decide +kernel
theorem dX12_sayerLine_182 : decode cX12_sayerLine 182 = .ok (.aload_n 0, 1) := by decide +kernel
theorem dX12_sayerLine_183 : decode cX12_sayerLine 183 = .ok (.getfield 23, 3) := by decide +kernel
theorem dX12_sayerLine_186 : decode cX12_sayerLine 186 = .ok (.sipush 138, 3) := by decide +kernel
theorem dX12_sayerLine_189 : decode cX12_sayerLine 189 = .ok (.iload_n 1, 1) := by decide +kernel
theorem dX12_sayerLine_190 : decode cX12_sayerLine 190 = .ok (.iadd, 1) := by decide +kernel
theorem dX12_sayerLine_191 : decode cX12_sayerLine 191 = .ok (.aload_n 0, 1) := by decide +kernel
theorem dX12_sayerLine_192 : decode cX12_sayerLine 192 = .ok (.iconst 1, 1) := by decide +kernel
theorem dX12_sayerLine_193 : decode cX12_sayerLine 193 = .ok (.bipush 99, 2) := by decide +kernel
theorem dX12_sayerLine_195 : decode cX12_sayerLine 195 = .ok (.invokevirtual 207, 3) := by decide +kernel
theorem dX12_sayerLine_198 : decode cX12_sayerLine 198 = .ok (.iastore, 1) := by decide +kernel
theorem dX12_sayerLine_199 : decode cX12_sayerLine 199 = .ok (.aload_n 0, 1) := by decide +kernel
theorem dX12_sayerLine_200 : decode cX12_sayerLine 200 = .ok (.ldc_w 273, 3) := by decide +kernel
theorem dX12_sayerLine_203 : decode cX12_sayerLine 203 = .ok (.invokevirtual 167, 3) := by decide +kernel
theorem dX12_sayerLine_206 : decode cX12_sayerLine 206 = .ok (.ifCond .eq 20, 3) := by decide +kernel
theorem dX12_sayerLine_209 : decode cX12_sayerLine 209 = .ok (.aload_n 0, 1) := by decide +kernel
theorem dX12_sayerLine_210 : decode cX12_sayerLine 210 = .ok (.getfield 23, 3) := by decide +kernel
theorem dX12_sayerLine_213 : decode cX12_sayerLine 213 = .ok (.sipush 144, 3) := by decide +kernel
theorem dX12_sayerLine_216 : decode cX12_sayerLine 216 = .ok (.iload_n 1, 1) := by decide +kernel
theorem dX12_sayerLine_217 : decode cX12_sayerLine 217 = .ok (.iadd, 1) := by decide +kernel
theorem dX12_sayerLine_218 : decode cX12_sayerLine 218 = .ok (.aload_n 0, 1) := by decide +kernel
theorem dX12_sayerLine_219 : decode cX12_sayerLine 219 = .ok (.iconst 1, 1) := by decide +kernel
theorem dX12_sayerLine_220 : decode cX12_sayerLine 220 = .ok (.bipush 99, 2) := by decide +kernel
theorem dX12_sayerLine_222 : decode cX12_sayerLine 222 = .ok (.invokevirtual 207, 3) := by decide +kernel
theorem dX12_sayerLine_225 : decode cX12_sayerLine 225 = .ok (.iastore, 1) := by decide +kernel
theorem dX12_sayerLine_226 : decode cX12_sayerLine 226 = .ok (.aload_n 0, 1) := by decide +kernel
theorem dX12_sayerLine_227 : decode cX12_sayerLine 227 = .ok (.ldc 195, 2) := by decide +kernel
theorem dX12_sayerLine_229 : decode cX12_sayerLine 229 = .ok (.invokevirtual 167, 3) := by decide +kernel
theorem dX12_sayerLine_232 : decode cX12_sayerLine 232 = .ok (.ifCond .eq 14, 3) := by decide +kernel
theorem dX12_sayerLine_235 : decode cX12_sayerLine 235 = .ok (.aload_n 0, 1) := by decide +kernel
theorem dX12_sayerLine_236 : decode cX12_sayerLine 236 = .ok (.getfield 23, 3) := by decide +kernel
theorem dX12_sayerLine_239 : decode cX12_sayerLine 239 = .ok (.sipush 150, 3) := by decide +kernel
theorem dX12_sayerLine_242 : decode cX12_sayerLine 242 = .ok (.iload_n 1, 1) := by decide +kernel
theorem dX12_sayerLine_243 : decode cX12_sayerLine 243 = .ok (.iadd, 1) := by decide +kernel
theorem dX12_sayerLine_244 : decode cX12_sayerLine 244 = .ok (.iconst 1, 1) := by decide +kernel
theorem dX12_sayerLine_245 : decode cX12_sayerLine 245 = .ok (.iastore, 1) := by decide +kernel
theorem dX12_sayerLine_246 : decode cX12_sayerLine 246 = .ok (.aload_n 0, 1) := by decide +kernel
theorem dX12_sayerLine_247 : decode cX12_sayerLine 247 = .ok (.ldc 193, 2) := by decide +kernel
theorem dX12_sayerLine_249 : decode cX12_sayerLine 249 = .ok (.invokevirtual 167, 3) := by decide +kernel
theorem dX12_sayerLine_252 : decode cX12_sayerLine 252 = .ok (.ifCond .eq 36, 3) := by decide +kernel
theorem dX12_sayerLine_255 : decode cX12_sayerLine 255 = .ok (.aload_n 0, 1) := by decide +kernel
theorem dX12_sayerLine_256 : decode cX12_sayerLine 256 = .ok (.iload_n 1, 1) := by decide +kernel
theorem dX12_sayerLine_257 : decode cX12_sayerLine 257 = .ok (.invokevirtual 275, 3) := by decide +kernel
theorem dX12_sayerLine_260 : decode cX12_sayerLine 260 = .ok (.aload_n 0, 1) := by decide +kernel
theorem dX12_sayerLine_261 : decode cX12_sayerLine 261 = .ok (.getfield 143, 3) := by decide +kernel
theorem dX12_sayerLine_264 : decode cX12_sayerLine 264 = .ok (.ifCond .ne 24, 3) := by decide +kernel
theorem dX12_sayerLine_267 : decode cX12_sayerLine 267 = .ok (.aload_n 0, 1) := by decide +kernel
theorem dX12_sayerLine_268 : decode cX12_sayerLine 268 = .ok (.getfield 133, 3) := by decide +kernel
theorem dX12_sayerLine_271 : decode cX12_sayerLine 271 = .ok (.bipush 44, 2) := by decide +kernel
theorem dX12_sayerLine_273 : decode cX12_sayerLine 273 = .ok (.if_icmp .ne 15, 3) := by decide +kernel
theorem dX12_sayerLine_276 : decode cX12_sayerLine 276 = .ok (.aload_n 0, 1) := by decide +kernel
theorem dX12_sayerLine_277 : decode cX12_sayerLine 277 = .ok (.invokevirtual 164, 3) := by decide +kernel
theorem dX12_sayerLine_280 : decode cX12_sayerLine 280 = .ok (.aload_n 0, 1) := by decide +kernel
theorem dX12_sayerLine_281 : decode cX12_sayerLine 281 = .ok (.iload_n 1, 1) := by decide +kernel
theorem dX12_sayerLine_282 : decode cX12_sayerLine 282 = .ok (.invokevirtual 275, 3) := by decide +kernel
theorem dX12_sayerLine_285 : decode cX12_sayerLine 285 = .ok (.goto (-25), 3) := by decide +kernel
theorem dX12_sayerLine_288 : decode cX12_sayerLine 288 = .ok (.aload_n 0, 1) := by decide +kernel
theorem dX12_sayerLine_289 : decode cX12_sayerLine 289 = .ok (.getfield 23, 3) := by decide +kernel
theorem dX12_sayerLine_292 : decode cX12_sayerLine 292 = .ok (.sipush 239, 3) := by decide +kernel
theorem dX12_sayerLine_295 : decode cX12_sayerLine 295 = .ok (.dup2, 1) := by decide +kernel
theorem dX12_sayerLine_296 : decode cX12_sayerLine 296 = .ok (.iaload, 1) := by decide +kernel
theorem dX12_sayerLine_297 : decode cX12_sayerLine 297 = .ok (.iconst 1, 1) := by decide +kernel
theorem dX12_sayerLine_298 : decode cX12_sayerLine 298 = .ok (.iadd, 1) := by decide +kernel
theorem dX12_sayerLine_299 : decode cX12_sayerLine 299 = .ok (.iastore, 1) := by decide +kernel
theorem dX12_sayerLine_300 : decode cX12_sayerLine 300 = .ok (.return_, 1) := by decide +kernel
theorem dX12_liked_0 : decode cX12_liked 0 = .ok (.aload_n 0, 1) := by decide +kernel
theorem dX12_liked_1 : decode cX12_liked 1 = .ok (.getfield 143, 3) := by decide +kernel
theorem dX12_liked_4 : decode cX12_liked 4 = .ok (.ifCond .eq 4, 3) := by decide +kernel
theorem dX12_liked_7 : decode cX12_liked 7 = .ok (.return_, 1) := by decide +kernel
theorem dX12_liked_8 : decode cX12_liked 8 = .ok (.aload_n 0, 1) := by decide +kernel
theorem dX12_liked_9 : decode cX12_liked 9 = .ok (.getfield 133, 3) := by decide +kernel
theorem dX12_liked_12 : decode cX12_liked 12 = .ok (.iconst 3, 1) := by decide +kernel
theorem dX12_liked_13 : decode cX12_liked 13 = .ok (.if_icmp .eq 13, 3) := by decide +kernel
theorem dX12_liked_16 : decode cX12_liked 16 = .ok (.aload_n 0, 1) := by decide +kernel
theorem dX12_liked_17 : decode cX12_liked 17 = .ok (.iconst 1, 1) := by decide +kernel
theorem dX12_liked_18 : decode cX12_liked 18 = .ok (.aload_n 0, 1) := by decide +kernel
theorem dX12_liked_19 : decode cX12_liked 19 = .ok (.getfield 124, 3) := by decide +kernel
theorem dX12_liked_22 : decode cX12_liked 22 = .ok (.invokevirtual 170, 3) := by decide +kernel
theorem dX12_liked_25 : decode cX12_liked 25 = .ok (.return_, 1) := by decide +kernel
theorem dX12_liked_26 : decode cX12_liked 26 = .ok (.aload_n 0, 1) := by decide +kernel
theorem dX12_liked_27 : decode cX12_liked 27 = .ok (.getfield 23, 3) := by decide +kernel
theorem dX12_liked_30 : decode cX12_liked 30 = .ok (.sipush 156, 3) := by decide +kernel
theorem dX12_liked_33 : decode cX12_liked 33 = .ok (.iload_n 1, 1) := by decide +kernel
theorem dX12_liked_34 : decode cX12_liked 34 = .ok (.iadd, 1) := by decide +kernel
theorem dX12_liked_35 : decode cX12_liked 35 = .ok (.iaload, 1) := by decide +kernel
theorem dX12_liked_36 : decode cX12_liked 36 = .ok (.istore_n 2, 1) := by decide +kernel
theorem dX12_liked_37 : decode cX12_liked 37 = .ok (.iconst 0, 1) := by decide +kernel
theorem dX12_liked_38 : decode cX12_liked 38 = .ok (.istore_n 3, 1) := by decide +kernel
theorem dX12_liked_39 : decode cX12_liked 39 = .ok (.iconst 0, 1) := by decide +kernel
theorem dX12_liked_40 : decode cX12_liked 40 = .ok (.istore 4, 2) := by decide +kernel
theorem dX12_liked_42 : decode cX12_liked 42 = .ok (.iload 4, 2) := by decide +kernel
theorem dX12_liked_44 : decode cX12_liked 44 = .ok (.iload_n 2, 1) := by decide +kernel
theorem dX12_liked_45 : decode cX12_liked 45 = .ok (.if_icmp .ge 42, 3) := by decide +kernel
theorem dX12_liked_48 : decode cX12_liked 48 = .ok (.iload_n 3, 1) := by decide +kernel
theorem dX12_liked_49 : decode cX12_liked 49 = .ok (.ifCond .ne 26, 3) := by decide +kernel
theorem dX12_liked_52 : decode cX12_liked 52 = .ok (.aload_n 0, 1) := by decide +kernel
theorem dX12_liked_53 : decode cX12_liked 53 = .ok (.getfield 23, 3) := by decide +kernel
theorem dX12_liked_56 : decode cX12_liked 56 = .ok (.sipush 162, 3) := by decide +kernel
theorem dX12_liked_59 : decode cX12_liked 59 = .ok (.bipush 6, 2) := by decide +kernel
theorem dX12_liked_61 : decode cX12_liked 61 = .ok (.iload_n 1, 1) := by decide +kernel
theorem dX12_liked_62 : decode cX12_liked 62 = .ok (.imul, 1) := by decide +kernel
theorem dX12_liked_63 : decode cX12_liked 63 = .ok (.iadd, 1) := by decide +kernel
theorem dX12_liked_64 : decode cX12_liked 64 = .ok (.iload 4, 2) := by decide +kernel
theorem dX12_liked_66 : decode cX12_liked 66 = .ok (.iadd, 1) := by decide +kernel
theorem dX12_liked_67 : decode cX12_liked 67 = .ok (.iaload, 1) := by decide +kernel
theorem dX12_liked_68 : decode cX12_liked 68 = .ok (.aload_n 0, 1) := by decide +kernel
theorem dX12_liked_69 : decode cX12_liked 69 = .ok (.getfield 130, 3) := by decide +kernel
theorem dX12_liked_72 : decode cX12_liked 72 = .ok (.if_icmp .ne 7, 3) := by decide +kernel
theorem dX12_liked_75 : decode cX12_liked 75 = .ok (.iconst 1, 1) := by decide +kernel
theorem dX12_liked_76 : decode cX12_liked 76 = .ok (.goto 4, 3) := by decide +kernel
theorem dX12_liked_79 : decode cX12_liked 79 = .ok (.iconst 0, 1) := by decide +kernel
theorem dX12_liked_80 : decode cX12_liked 80 = .ok (.istore_n 3, 1) := by decide +kernel
theorem dX12_liked_81 : decode cX12_liked 81 = .ok (.iinc 4 1, 3) := by decide +kernel
theorem dX12_liked_84 : decode cX12_liked 84 = .ok (.goto (-42), 3) := by decide +kernel
theorem dX12_liked_87 : decode cX12_liked 87 = .ok (.iload_n 3, 1) := by decide +kernel
theorem dX12_liked_88 : decode cX12_liked 88 = .ok (.ifCond .eq 15, 3) := by decide +kernel
theorem dX12_liked_91 : decode cX12_liked 91 = .ok (.aload_n 0, 1) := by decide +kernel
theorem dX12_liked_92 : decode cX12_liked 92 = .ok (.iconst 3, 1) := by decide +kernel
theorem dX12_liked_93 : decode cX12_liked 93 = .ok (.aload_n 0, 1) := by decide +kernel
theorem dX12_liked_94 : decode cX12_liked 94 = .ok (.getfield 124, 3) := by decide +kernel
theorem dX12_liked_97 : decode cX12_liked 97 = .ok (.invokevirtual 170, 3) := by decide +kernel
theorem dX12_liked_100 : decode cX12_liked 100 = .ok (.goto 18, 3) := by decide +kernel
theorem dX12_liked_103 : decode cX12_liked 103 = .ok (.iload_n 2, 1) := by decide +kernel
theorem dX12_liked_104 : decode cX12_liked 104 = .ok (.bipush 6, 2) := by decide +kernel
theorem dX12_liked_106 : decode cX12_liked 106 = .ok (.if_icmp .ne 12, 3) := by decide +kernel
theorem dX12_liked_109 : decode cX12_liked 109 = .ok (.aload_n 0, 1) := by decide +kernel
theorem dX12_liked_110 : decode cX12_liked 110 = .ok (.iconst 5, 1) := by decide +kernel
theorem dX12_liked_111 : decode cX12_liked 111 = .ok (.aload_n 0, 1) := by decide +kernel
theorem dX12_liked_112 : decode cX12_liked 112 = .ok (.getfield 124, 3) := by decide +kernel
theorem dX12_liked_115 : decode cX12_liked 115 = .ok (.invokevirtual 170, 3) := by decide +kernel
theorem dX12_liked_118 : decode cX12_liked 118 = .ok (.aload_n 0, 1) := by decide +kernel
theorem dX12_liked_119 : decode cX12_liked 119 = .ok (.getfield 143, 3) := by decide +kernel
theorem dX12_liked_122 : decode cX12_liked 122 = .ok (.ifCond .eq 4, 3) := by decide +kernel
theorem dX12_liked_125 : decode cX12_liked 125 = .ok (.return_, 1) := by decide +kernel
theorem dX12_liked_126 : decode cX12_liked 126 = .ok (.aload_n 0, 1) := by decide +kernel
theorem dX12_liked_127 : decode cX12_liked 127 = .ok (.getfield 23, 3) := by decide +kernel
theorem dX12_liked_130 : decode cX12_liked 130 = .ok (.sipush 162, 3) := by decide +kernel
theorem dX12_liked_133 : decode cX12_liked 133 = .ok (.bipush 6, 2) := by decide +kernel
theorem dX12_liked_135 : decode cX12_liked 135 = .ok (.iload_n 1, 1) := by decide +kernel
theorem dX12_liked_136 : decode cX12_liked 136 = .ok (.imul, 1) := by decide +kernel
theorem dX12_liked_137 : decode cX12_liked 137 = .ok (.iadd, 1) := by decide +kernel
theorem dX12_liked_138 : decode cX12_liked 138 = .ok (.iload_n 2, 1) := by decide +kernel
theorem dX12_liked_139 : decode cX12_liked 139 = .ok (.iadd, 1) := by decide +kernel
theorem dX12_liked_140 : decode cX12_liked 140 = .ok (.aload_n 0, 1) := by decide +kernel
theorem dX12_liked_141 : decode cX12_liked 141 = .ok (.getfield 130, 3) := by decide +kernel
theorem dX12_liked_144 : decode cX12_liked 144 = .ok (.iastore, 1) := by decide +kernel
theorem dX12_liked_145 : decode cX12_liked 145 = .ok (.aload_n 0, 1) := by decide +kernel
theorem dX12_liked_146 : decode cX12_liked 146 = .ok (.getfield 23, 3) := by decide +kernel
theorem dX12_liked_149 : decode cX12_liked 149 = .ok (.sipush 156, 3) := by decide +kernel
theorem dX12_liked_152 : decode cX12_liked 152 = .ok (.iload_n 1, 1) := by decide +kernel
theorem dX12_liked_153 : decode cX12_liked 153 = .ok (.iadd, 1) := by decide +kernel
theorem dX12_liked_154 : decode cX12_liked 154 = .ok (.dup2, 1) := by decide +kernel
theorem dX12_liked_155 : decode cX12_liked 155 = .ok (.iaload, 1) := by decide +kernel
theorem dX12_liked_156 : decode cX12_liked 156 = .ok (.iconst 1, 1) := by decide +kernel
theorem dX12_liked_157 : decode cX12_liked 157 = .ok (.iadd, 1) := by decide +kernel
theorem dX12_liked_158 : decode cX12_liked 158 = .ok (.iastore, 1) := by decide +kernel
theorem dX12_liked_159 : decode cX12_liked 159 = .ok (.aload_n 0, 1) := by decide +kernel
theorem dX12_liked_160 : decode cX12_liked 160 = .ok (.invokevirtual 164, 3) := by decide +kernel
theorem dX12_liked_163 : decode cX12_liked 163 = .ok (.return_, 1) := by decide +kernel
theorem dX12_planLine_0 : decode cX12_planLine 0 = .ok (.aload_n 0, 1) := by decide +kernel
theorem dX12_planLine_1 : decode cX12_planLine 1 = .ok (.getfield 143, 3) := by decide +kernel
theorem dX12_planLine_4 : decode cX12_planLine 4 = .ok (.ifCond .eq 4, 3) := by decide +kernel
theorem dX12_planLine_7 : decode cX12_planLine 7 = .ok (.return_, 1) := by decide +kernel
theorem dX12_planLine_8 : decode cX12_planLine 8 = .ok (.aload_n 0, 1) := by decide +kernel
theorem dX12_planLine_9 : decode cX12_planLine 9 = .ok (.getfield 23, 3) := by decide +kernel
theorem dX12_planLine_12 : decode cX12_planLine 12 = .ok (.sipush 240, 3) := by decide +kernel
theorem dX12_planLine_15 : decode cX12_planLine 15 = .ok (.iaload, 1) := by decide +kernel
theorem dX12_planLine_16 : decode cX12_planLine 16 = .ok (.istore_n 1, 1) := by decide +kernel
theorem dX12_planLine_17 : decode cX12_planLine 17 = .ok (.aload_n 0, 1) := by decide +kernel
theorem dX12_planLine_18 : decode cX12_planLine 18 = .ok (.iconst 2, 1) := by decide +kernel
theorem dX12_planLine_19 : decode cX12_planLine 19 = .ok (.iload_n 1, 1) := by decide +kernel
theorem dX12_planLine_20 : decode cX12_planLine 20 = .ok (.invokevirtual 253, 3) := by decide +kernel
theorem dX12_planLine_23 : decode cX12_planLine 23 = .ok (.aload_n 0, 1) := by decide +kernel
theorem dX12_planLine_24 : decode cX12_planLine 24 = .ok (.getfield 143, 3) := by decide +kernel
theorem dX12_planLine_27 : decode cX12_planLine 27 = .ok (.ifCond .eq 4, 3) := by decide +kernel
theorem dX12_planLine_30 : decode cX12_planLine 30 = .ok (.return_, 1) := by decide +kernel
theorem dX12_planLine_31 : decode cX12_planLine 31 = .ok (.aload_n 0, 1) := by decide +kernel
theorem dX12_planLine_32 : decode cX12_planLine 32 = .ok (.ldc_w 278, 3) := by decide +kernel
theorem dX12_planLine_35 : decode cX12_planLine 35 = .ok (.invokevirtual 160, 3) := by decide +kernel
theorem dX12_planLine_38 : decode cX12_planLine 38 = .ok (.ifCond .eq 7, 3) := by decide +kernel
theorem dX12_planLine_41 : decode cX12_planLine 41 = .ok (.iconst 0, 1) := by decide +kernel
theorem dX12_planLine_42 : decode cX12_planLine 42 = .ok (.goto 32, 3) := by decide +kernel
theorem dX12_planLine_45 : decode cX12_planLine 45 = .ok (.aload_n 0, 1) := by decide +kernel
theorem dX12_planLine_46 : decode cX12_planLine 46 = .ok (.ldc_w 280, 3) := by decide +kernel
theorem dX12_planLine_49 : decode cX12_planLine 49 = .ok (.invokevirtual 160, 3) := by decide +kernel
theorem dX12_planLine_52 : decode cX12_planLine 52 = .ok (.ifCond .eq 7, 3) := by decide +kernel
theorem dX12_planLine_55 : decode cX12_planLine 55 = .ok (.iconst 1, 1) := by decide +kernel
theorem dX12_planLine_56 : decode cX12_planLine 56 = .ok (.goto 18, 3) := by decide +kernel
theorem dX12_planLine_59 : decode cX12_planLine 59 = .ok (.aload_n 0, 1) := by decide +kernel
theorem dX12_planLine_60 : decode cX12_planLine 60 = .ok (.ldc_w 282, 3) := by decide +kernel
theorem dX12_planLine_63 : decode cX12_planLine 63 = .ok (.invokevirtual 160, 3) := by decide +kernel
theorem dX12_planLine_66 : decode cX12_planLine 66 = .ok (.ifCond .eq 7, 3) := by decide +kernel
theorem dX12_planLine_69 : decode cX12_planLine 69 = .ok (.iconst 2, 1) := by decide +kernel
theorem dX12_planLine_70 : decode cX12_planLine 70 = .ok (.goto 4, 3) := by decide +kernel
theorem dX12_planLine_73 : decode cX12_planLine 73 = .ok (.iconst (-1), 1) := by decide +kernel
theorem dX12_planLine_74 : decode cX12_planLine 74 = .ok (.istore_n 2, 1) := by decide +kernel
theorem dX12_planLine_75 : decode cX12_planLine 75 = .ok (.iload_n 2, 1) := by decide +kernel
theorem dX12_planLine_76 : decode cX12_planLine 76 = .ok (.iconst (-1), 1) := by decide +kernel
theorem dX12_planLine_77 : decode cX12_planLine 77 = .ok (.if_icmp .ne 12, 3) := by decide +kernel
theorem dX12_planLine_80 : decode cX12_planLine 80 = .ok (.aload_n 0, 1) := by decide +kernel
theorem dX12_planLine_81 : decode cX12_planLine 81 = .ok (.iconst 1, 1) := by decide +kernel
theorem dX12_planLine_82 : decode cX12_planLine 82 = .ok (.aload_n 0, 1) := by decide +kernel
theorem dX12_planLine_83 : decode cX12_planLine 83 = .ok (.getfield 124, 3) := by decide +kernel
theorem dX12_planLine_86 : decode cX12_planLine 86 = .ok (.invokevirtual 170, 3) := by decide +kernel
theorem dX12_planLine_89 : decode cX12_planLine 89 = .ok (.aload_n 0, 1) := by decide +kernel
theorem dX12_planLine_90 : decode cX12_planLine 90 = .ok (.getfield 143, 3) := by decide +kernel
theorem dX12_planLine_93 : decode cX12_planLine 93 = .ok (.ifCond .eq 4, 3) := by decide +kernel
theorem dX12_planLine_96 : decode cX12_planLine 96 = .ok (.return_, 1) := by decide +kernel
theorem dX12_planLine_97 : decode cX12_planLine 97 = .ok (.aload_n 0, 1) := by decide +kernel
theorem dX12_planLine_98 : decode cX12_planLine 98 = .ok (.invokevirtual 164, 3) := by decide +kernel
theorem dX12_planLine_101 : decode cX12_planLine 101 = .ok (.aload_n 0, 1) := by decide +kernel
theorem dX12_planLine_102 : decode cX12_planLine 102 = .ok (.getfield 23, 3) := by decide +kernel
theorem dX12_planLine_105 : decode cX12_planLine 105 = .ok (.sipush 198, 3) := by decide +kernel
theorem dX12_planLine_108 : decode cX12_planLine 108 = .ok (.iload_n 1, 1) := by decide +kernel
theorem dX12_planLine_109 : decode cX12_planLine 109 = .ok (.iadd, 1) := by decide +kernel
theorem dX12_planLine_110 : decode cX12_planLine 110 = .ok (.iload_n 2, 1) := by decide +kernel
theorem dX12_planLine_111 : decode cX12_planLine 111 = .ok (.iastore, 1) := by decide +kernel
theorem dX12_planLine_112 : decode cX12_planLine 112 = .ok (.aload_n 0, 1) := by decide +kernel
theorem dX12_planLine_113 : decode cX12_planLine 113 = .ok (.getfield 23, 3) := by decide +kernel
theorem dX12_planLine_116 : decode cX12_planLine 116 = .ok (.sipush 202, 3) := by decide +kernel
theorem dX12_planLine_119 : decode cX12_planLine 119 = .ok (.iload_n 1, 1) := by decide +kernel
theorem dX12_planLine_120 : decode cX12_planLine 120 = .ok (.iadd, 1) := by decide +kernel
theorem dX12_planLine_121 : decode cX12_planLine 121 = .ok (.aload_n 0, 1) := by decide +kernel
theorem dX12_planLine_122 : decode cX12_planLine 122 = .ok (.iconst 1, 1) := by decide +kernel
theorem dX12_planLine_123 : decode cX12_planLine 123 = .ok (.sipush 400, 3) := by decide +kernel
theorem dX12_planLine_126 : decode cX12_planLine 126 = .ok (.invokevirtual 207, 3) := by decide +kernel
theorem dX12_planLine_129 : decode cX12_planLine 129 = .ok (.iastore, 1) := by decide +kernel
theorem dX12_planLine_130 : decode cX12_planLine 130 = .ok (.aload_n 0, 1) := by decide +kernel
theorem dX12_planLine_131 : decode cX12_planLine 131 = .ok (.ldc 189, 2) := by decide +kernel
theorem dX12_planLine_133 : decode cX12_planLine 133 = .ok (.invokevirtual 260, 3) := by decide +kernel
theorem dX12_planLine_136 : decode cX12_planLine 136 = .ok (.aload_n 0, 1) := by decide +kernel
theorem dX12_planLine_137 : decode cX12_planLine 137 = .ok (.getfield 23, 3) := by decide +kernel
theorem dX12_planLine_140 : decode cX12_planLine 140 = .ok (.sipush 206, 3) := by decide +kernel
theorem dX12_planLine_143 : decode cX12_planLine 143 = .ok (.iload_n 1, 1) := by decide +kernel
theorem dX12_planLine_144 : decode cX12_planLine 144 = .ok (.iadd, 1) := by decide +kernel
theorem dX12_planLine_145 : decode cX12_planLine 145 = .ok (.aload_n 0, 1) := by decide +kernel
theorem dX12_planLine_146 : decode cX12_planLine 146 = .ok (.aload_n 0, 1) := by decide +kernel
theorem dX12_planLine_147 : decode cX12_planLine 147 = .ok (.getfield 23, 3) := by decide +kernel
theorem dX12_planLine_150 : decode cX12_planLine 150 = .ok (.sipush 202, 3) := by decide +kernel
theorem dX12_planLine_153 : decode cX12_planLine 153 = .ok (.iload_n 1, 1) := by decide +kernel
theorem dX12_planLine_154 : decode cX12_planLine 154 = .ok (.iadd, 1) := by decide +kernel
theorem dX12_planLine_155 : decode cX12_planLine 155 = .ok (.iaload, 1) := by decide +kernel
theorem dX12_planLine_156 : decode cX12_planLine 156 = .ok (.sipush 400, 3) := by decide +kernel
theorem dX12_planLine_159 : decode cX12_planLine 159 = .ok (.invokevirtual 207, 3) := by decide +kernel
theorem dX12_planLine_162 : decode cX12_planLine 162 = .ok (.iastore, 1) := by decide +kernel
theorem dX12_planLine_163 : decode cX12_planLine 163 = .ok (.aload_n 0, 1) := by decide +kernel
theorem dX12_planLine_164 : decode cX12_planLine 164 = .ok (.ldc 191, 2) := by decide +kernel
theorem dX12_planLine_166 : decode cX12_planLine 166 = .ok (.invokevirtual 260, 3) := by decide +kernel
theorem dX12_planLine_169 : decode cX12_planLine 169 = .ok (.aload_n 0, 1) := by decide +kernel
theorem dX12_planLine_170 : decode cX12_planLine 170 = .ok (.getfield 23, 3) := by decide +kernel
theorem dX12_planLine_173 : decode cX12_planLine 173 = .ok (.sipush 210, 3) := by decide +kernel
theorem dX12_planLine_176 : decode cX12_planLine 176 = .ok (.iload_n 1, 1) := by decide +kernel
theorem dX12_planLine_177 : decode cX12_planLine 177 = .ok (.iadd, 1) := by decide +kernel
theorem dX12_planLine_178 : decode cX12_planLine 178 = .ok (.aload_n 0, 1) := by decide +kernel
theorem dX12_planLine_179 : decode cX12_planLine 179 = .ok (.iconst 1, 1) := by decide +kernel
theorem dX12_planLine_180 : decode cX12_planLine 180 = .ok (.sipush 400, 3) := by decide +kernel
theorem dX12_planLine_183 : decode cX12_planLine 183 = .ok (.invokevirtual 207, 3) := by decide +kernel
theorem dX12_planLine_186 : decode cX12_planLine 186 = .ok (.iastore, 1) := by decide +kernel
theorem dX12_planLine_187 : decode cX12_planLine 187 = .ok (.aload_n 0, 1) := by decide +kernel
theorem dX12_planLine_188 : decode cX12_planLine 188 = .ok (.ldc_w 284, 3) := by decide +kernel
theorem dX12_planLine_191 : decode cX12_planLine 191 = .ok (.invokevirtual 260, 3) := by decide +kernel
theorem dX12_planLine_194 : decode cX12_planLine 194 = .ok (.aload_n 0, 1) := by decide +kernel
theorem dX12_planLine_195 : decode cX12_planLine 195 = .ok (.getfield 124, 3) := by decide +kernel
theorem dX12_planLine_198 : decode cX12_planLine 198 = .ok (.istore_n 3, 1) := by decide +kernel
theorem dX12_planLine_199 : decode cX12_planLine 199 = .ok (.aload_n 0, 1) := by decide +kernel
theorem dX12_planLine_200 : decode cX12_planLine 200 = .ok (.getfield 23, 3) := by decide +kernel
theorem dX12_planLine_203 : decode cX12_planLine 203 = .ok (.sipush 214, 3) := by decide +kernel
theorem dX12_planLine_206 : decode cX12_planLine 206 = .ok (.iload_n 1, 1) := by decide +kernel
theorem dX12_planLine_207 : decode cX12_planLine 207 = .ok (.iadd, 1) := by decide +kernel
theorem dX12_planLine_208 : decode cX12_planLine 208 = .ok (.aload_n 0, 1) := by decide +kernel
theorem dX12_planLine_209 : decode cX12_planLine 209 = .ok (.iconst 1, 1) := by decide +kernel
theorem dX12_planLine_210 : decode cX12_planLine 210 = .ok (.bipush 20, 2) := by decide +kernel
theorem dX12_planLine_212 : decode cX12_planLine 212 = .ok (.invokevirtual 207, 3) := by decide +kernel
theorem dX12_planLine_215 : decode cX12_planLine 215 = .ok (.iastore, 1) := by decide +kernel
theorem dX12_planLine_216 : decode cX12_planLine 216 = .ok (.aload_n 0, 1) := by decide +kernel
theorem dX12_planLine_217 : decode cX12_planLine 217 = .ok (.getfield 143, 3) := by decide +kernel
theorem dX12_planLine_220 : decode cX12_planLine 220 = .ok (.ifCond .ne 60, 3) := by decide +kernel
theorem dX12_planLine_223 : decode cX12_planLine 223 = .ok (.aload_n 0, 1) := by decide +kernel
theorem dX12_planLine_224 : decode cX12_planLine 224 = .ok (.getfield 23, 3) := by decide +kernel
theorem dX12_planLine_227 : decode cX12_planLine 227 = .ok (.sipush 206, 3) := by decide +kernel
theorem dX12_planLine_230 : decode cX12_planLine 230 = .ok (.iload_n 1, 1) := by decide +kernel
theorem dX12_planLine_231 : decode cX12_planLine 231 = .ok (.iadd, 1) := by decide +kernel
theorem dX12_planLine_232 : decode cX12_planLine 232 = .ok (.iaload, 1) := by decide +kernel
theorem dX12_planLine_233 : decode cX12_planLine 233 = .ok (.aload_n 0, 1) := by decide +kernel
theorem dX12_planLine_234 : decode cX12_planLine 234 = .ok (.getfield 23, 3) := by decide +kernel
theorem dX12_planLine_237 : decode cX12_planLine 237 = .ok (.sipush 202, 3) := by decide +kernel
theorem dX12_planLine_240 : decode cX12_planLine 240 = .ok (.iload_n 1, 1) := by decide +kernel
theorem dX12_planLine_241 : decode cX12_planLine 241 = .ok (.iadd, 1) := by decide +kernel
theorem dX12_planLine_242 : decode cX12_planLine 242 = .ok (.iaload, 1) := by decide +kernel
theorem dX12_planLine_243 : decode cX12_planLine 243 = .ok (.isub, 1) := by decide +kernel
theorem dX12_planLine_244 : decode cX12_planLine 244 = .ok (.aload_n 0, 1) := by decide +kernel
theorem dX12_planLine_245 : decode cX12_planLine 245 = .ok (.getfield 23, 3) := by decide +kernel
theorem dX12_planLine_248 : decode cX12_planLine 248 = .ok (.sipush 210, 3) := by decide +kernel
theorem dX12_planLine_251 : decode cX12_planLine 251 = .ok (.iload_n 1, 1) := by decide +kernel
theorem dX12_planLine_252 : decode cX12_planLine 252 = .ok (.iadd, 1) := by decide +kernel
theorem dX12_planLine_253 : decode cX12_planLine 253 = .ok (.iaload, 1) := by decide +kernel
theorem dX12_planLine_254 : decode cX12_planLine 254 = .ok (.idiv, 1) := by decide +kernel
theorem dX12_planLine_255 : decode cX12_planLine 255 = .ok (.iconst 1, 1) := by decide +kernel
theorem dX12_planLine_256 : decode cX12_planLine 256 = .ok (.iadd, 1) := by decide +kernel
theorem dX12_planLine_257 : decode cX12_planLine 257 = .ok (.aload_n 0, 1) := by decide +kernel
theorem dX12_planLine_258 : decode cX12_planLine 258 = .ok (.getfield 23, 3) := by decide +kernel
theorem dX12_planLine_261 : decode cX12_planLine 261 = .ok (.sipush 214, 3) := by decide +kernel
theorem dX12_planLine_264 : decode cX12_planLine 264 = .ok (.iload_n 1, 1) := by decide +kernel
theorem dX12_planLine_265 : decode cX12_planLine 265 = .ok (.iadd, 1) := by decide +kernel
theorem dX12_planLine_266 : decode cX12_planLine 266 = .ok (.iaload, 1) := by decide +kernel
theorem dX12_planLine_267 : decode cX12_planLine 267 = .ok (.imul, 1) := by decide +kernel
theorem dX12_planLine_268 : decode cX12_planLine 268 = .ok (.sipush 200, 3) := by decide +kernel
theorem dX12_planLine_271 : decode cX12_planLine 271 = .ok (.if_icmp .le 9, 3) := by decide +kernel
theorem dX12_planLine_274 : decode cX12_planLine 274 = .ok (.aload_n 0, 1) := by decide +kernel
theorem dX12_planLine_275 : decode cX12_planLine 275 = .ok (.iconst 4, 1) := by decide +kernel
theorem dX12_planLine_276 : decode cX12_planLine 276 = .ok (.iload_n 3, 1) := by decide +kernel
theorem dX12_planLine_277 : decode cX12_planLine 277 = .ok (.invokevirtual 170, 3) := by decide +kernel
theorem dX12_planLine_280 : decode cX12_planLine 280 = .ok (.aload_n 0, 1) := by decide +kernel
theorem dX12_planLine_281 : decode cX12_planLine 281 = .ok (.getfield 23, 3) := by decide +kernel
theorem dX12_planLine_284 : decode cX12_planLine 284 = .ok (.sipush 240, 3) := by decide +kernel
theorem dX12_planLine_287 : decode cX12_planLine 287 = .ok (.dup2, 1) := by decide +kernel
theorem dX12_planLine_288 : decode cX12_planLine 288 = .ok (.iaload, 1) := by decide +kernel
theorem dX12_planLine_289 : decode cX12_planLine 289 = .ok (.iconst 1, 1) := by decide +kernel
theorem dX12_planLine_290 : decode cX12_planLine 290 = .ok (.iadd, 1) := by decide +kernel
theorem dX12_planLine_291 : decode cX12_planLine 291 = .ok (.iastore, 1) := by decide +kernel
theorem dX12_planLine_292 : decode cX12_planLine 292 = .ok (.return_, 1) := by decide +kernel
theorem dX12_payLine_0 : decode cX12_payLine 0 = .ok (.aload_n 0, 1) := by decide +kernel
theorem dX12_payLine_1 : decode cX12_payLine 1 = .ok (.getfield 143, 3) := by decide +kernel
theorem dX12_payLine_4 : decode cX12_payLine 4 = .ok (.ifCond .eq 4, 3) := by decide +kernel
theorem dX12_payLine_7 : decode cX12_payLine 7 = .ok (.return_, 1) := by decide +kernel
theorem dX12_payLine_8 : decode cX12_payLine 8 = .ok (.aload_n 0, 1) := by decide +kernel
theorem dX12_payLine_9 : decode cX12_payLine 9 = .ok (.getfield 23, 3) := by decide +kernel
theorem dX12_payLine_12 : decode cX12_payLine 12 = .ok (.sipush 241, 3) := by decide +kernel
theorem dX12_payLine_15 : decode cX12_payLine 15 = .ok (.iaload, 1) := by decide +kernel
theorem dX12_payLine_16 : decode cX12_payLine 16 = .ok (.istore_n 1, 1) := by decide +kernel
theorem dX12_payLine_17 : decode cX12_payLine 17 = .ok (.aload_n 0, 1) := by decide +kernel
theorem dX12_payLine_18 : decode cX12_payLine 18 = .ok (.iconst 3, 1) := by decide +kernel
theorem dX12_payLine_19 : decode cX12_payLine 19 = .ok (.iload_n 1, 1) := by decide +kernel
theorem dX12_payLine_20 : decode cX12_payLine 20 = .ok (.invokevirtual 253, 3) := by decide +kernel
theorem dX12_payLine_23 : decode cX12_payLine 23 = .ok (.aload_n 0, 1) := by decide +kernel
theorem dX12_payLine_24 : decode cX12_payLine 24 = .ok (.ldc_w 286, 3) := by decide +kernel
theorem dX12_payLine_27 : decode cX12_payLine 27 = .ok (.invokevirtual 260, 3) := by decide +kernel
theorem dX12_payLine_30 : decode cX12_payLine 30 = .ok (.aload_n 0, 1) := by decide +kernel
theorem dX12_payLine_31 : decode cX12_payLine 31 = .ok (.getfield 23, 3) := by decide +kernel
theorem dX12_payLine_34 : decode cX12_payLine 34 = .ok (.sipush 218, 3) := by decide +kernel
theorem dX12_payLine_37 : decode cX12_payLine 37 = .ok (.iload_n 1, 1) := by decide +kernel
theorem dX12_payLine_38 : decode cX12_payLine 38 = .ok (.iadd, 1) := by decide +kernel
theorem dX12_payLine_39 : decode cX12_payLine 39 = .ok (.aload_n 0, 1) := by decide +kernel
theorem dX12_payLine_40 : decode cX12_payLine 40 = .ok (.bipush 99, 2) := by decide +kernel
theorem dX12_payLine_42 : decode cX12_payLine 42 = .ok (.invokevirtual 266, 3) := by decide +kernel
theorem dX12_payLine_45 : decode cX12_payLine 45 = .ok (.iastore, 1) := by decide +kernel
theorem dX12_payLine_46 : decode cX12_payLine 46 = .ok (.aload_n 0, 1) := by decide +kernel
theorem dX12_payLine_47 : decode cX12_payLine 47 = .ok (.ldc_w 288, 3) := by decide +kernel
theorem dX12_payLine_50 : decode cX12_payLine 50 = .ok (.invokevirtual 260, 3) := by decide +kernel
theorem dX12_payLine_53 : decode cX12_payLine 53 = .ok (.aload_n 0, 1) := by decide +kernel
theorem dX12_payLine_54 : decode cX12_payLine 54 = .ok (.getfield 23, 3) := by decide +kernel
theorem dX12_payLine_57 : decode cX12_payLine 57 = .ok (.sipush 222, 3) := by decide +kernel
theorem dX12_payLine_60 : decode cX12_payLine 60 = .ok (.iload_n 1, 1) := by decide +kernel
theorem dX12_payLine_61 : decode cX12_payLine 61 = .ok (.iadd, 1) := by decide +kernel
theorem dX12_payLine_62 : decode cX12_payLine 62 = .ok (.aload_n 0, 1) := by decide +kernel
theorem dX12_payLine_63 : decode cX12_payLine 63 = .ok (.bipush 99, 2) := by decide +kernel
theorem dX12_payLine_65 : decode cX12_payLine 65 = .ok (.invokevirtual 266, 3) := by decide +kernel
theorem dX12_payLine_68 : decode cX12_payLine 68 = .ok (.iastore, 1) := by decide +kernel
theorem dX12_payLine_69 : decode cX12_payLine 69 = .ok (.aload_n 0, 1) := by decide +kernel
theorem dX12_payLine_70 : decode cX12_payLine 70 = .ok (.ldc_w 290, 3) := by decide +kernel
theorem dX12_payLine_73 : decode cX12_payLine 73 = .ok (.invokevirtual 260, 3) := by decide +kernel
theorem dX12_payLine_76 : decode cX12_payLine 76 = .ok (.aload_n 0, 1) := by decide +kernel
theorem dX12_payLine_77 : decode cX12_payLine 77 = .ok (.getfield 23, 3) := by decide +kernel
theorem dX12_payLine_80 : decode cX12_payLine 80 = .ok (.sipush 226, 3) := by decide +kernel
theorem dX12_payLine_83 : decode cX12_payLine 83 = .ok (.iload_n 1, 1) := by decide +kernel
theorem dX12_payLine_84 : decode cX12_payLine 84 = .ok (.iadd, 1) := by decide +kernel
theorem dX12_payLine_85 : decode cX12_payLine 85 = .ok (.aload_n 0, 1) := by decide +kernel
theorem dX12_payLine_86 : decode cX12_payLine 86 = .ok (.bipush 99, 2) := by decide +kernel
theorem dX12_payLine_88 : decode cX12_payLine 88 = .ok (.invokevirtual 266, 3) := by decide +kernel
theorem dX12_payLine_91 : decode cX12_payLine 91 = .ok (.iastore, 1) := by decide +kernel
theorem dX12_payLine_92 : decode cX12_payLine 92 = .ok (.aload_n 0, 1) := by decide +kernel
theorem dX12_payLine_93 : decode cX12_payLine 93 = .ok (.ldc_w 292, 3) := by decide +kernel
theorem dX12_payLine_96 : decode cX12_payLine 96 = .ok (.invokevirtual 260, 3) := by decide +kernel
theorem dX12_payLine_99 : decode cX12_payLine 99 = .ok (.aload_n 0, 1) := by decide +kernel
theorem dX12_payLine_100 : decode cX12_payLine 100 = .ok (.getfield 23, 3) := by decide +kernel
theorem dX12_payLine_103 : decode cX12_payLine 103 = .ok (.sipush 230, 3) := by decide +kernel
theorem dX12_payLine_106 : decode cX12_payLine 106 = .ok (.iload_n 1, 1) := by decide +kernel
theorem dX12_payLine_107 : decode cX12_payLine 107 = .ok (.iadd, 1) := by decide +kernel
theorem dX12_payLine_108 : decode cX12_payLine 108 = .ok (.aload_n 0, 1) := by decide +kernel
theorem dX12_payLine_109 : decode cX12_payLine 109 = .ok (.bipush 99, 2) := by decide +kernel
theorem dX12_payLine_111 : decode cX12_payLine 111 = .ok (.invokevirtual 266, 3) := by decide +kernel
theorem dX12_payLine_114 : decode cX12_payLine 114 = .ok (.iastore, 1) := by decide +kernel
theorem dX12_payLine_115 : decode cX12_payLine 115 = .ok (.aload_n 0, 1) := by decide +kernel
theorem dX12_payLine_116 : decode cX12_payLine 116 = .ok (.ldc_w 294, 3) := by decide +kernel
theorem dX12_payLine_119 : decode cX12_payLine 119 = .ok (.invokevirtual 260, 3) := by decide +kernel
theorem dX12_payLine_122 : decode cX12_payLine 122 = .ok (.aload_n 0, 1) := by decide +kernel
theorem dX12_payLine_123 : decode cX12_payLine 123 = .ok (.getfield 23, 3) := by decide +kernel
theorem dX12_payLine_126 : decode cX12_payLine 126 = .ok (.sipush 234, 3) := by decide +kernel
theorem dX12_payLine_129 : decode cX12_payLine 129 = .ok (.iload_n 1, 1) := by decide +kernel
theorem dX12_payLine_130 : decode cX12_payLine 130 = .ok (.iadd, 1) := by decide +kernel
theorem dX12_payLine_131 : decode cX12_payLine 131 = .ok (.aload_n 0, 1) := by decide +kernel
theorem dX12_payLine_132 : decode cX12_payLine 132 = .ok (.iconst 0, 1) := by decide +kernel
theorem dX12_payLine_133 : decode cX12_payLine 133 = .ok (.bipush 100, 2) := by decide +kernel
theorem dX12_payLine_135 : decode cX12_payLine 135 = .ok (.invokevirtual 207, 3) := by decide +kernel
theorem dX12_payLine_138 : decode cX12_payLine 138 = .ok (.iastore, 1) := by decide +kernel
theorem dX12_payLine_139 : decode cX12_payLine 139 = .ok (.aload_n 0, 1) := by decide +kernel
theorem dX12_payLine_140 : decode cX12_payLine 140 = .ok (.getfield 23, 3) := by decide +kernel
theorem dX12_payLine_143 : decode cX12_payLine 143 = .ok (.sipush 241, 3) := by decide +kernel
theorem dX12_payLine_146 : decode cX12_payLine 146 = .ok (.dup2, 1) := by decide +kernel
theorem dX12_payLine_147 : decode cX12_payLine 147 = .ok (.iaload, 1) := by decide +kernel
theorem dX12_payLine_148 : decode cX12_payLine 148 = .ok (.iconst 1, 1) := by decide +kernel
theorem dX12_payLine_149 : decode cX12_payLine 149 = .ok (.iadd, 1) := by decide +kernel
theorem dX12_payLine_150 : decode cX12_payLine 150 = .ok (.iastore, 1) := by decide +kernel
theorem dX12_payLine_151 : decode cX12_payLine 151 = .ok (.return_, 1) := by decide +kernel
theorem dX12_fault_0 : decode cX12_fault 0 = .ok (.aload_n 0, 1) := by decide +kernel
theorem dX12_fault_1 : decode cX12_fault 1 = .ok (.iconst 0, 1) := by decide +kernel
theorem dX12_fault_2 : decode cX12_fault 2 = .ok (.putfield 103, 3) := by decide +kernel
theorem dX12_fault_5 : decode cX12_fault 5 = .ok (.aload_n 0, 1) := by decide +kernel
theorem dX12_fault_6 : decode cX12_fault 6 = .ok (.getfield 147, 3) := by decide +kernel
theorem dX12_fault_9 : decode cX12_fault 9 = .ok (.ireturn, 1) := by decide +kernel
theorem dX12_where_0 : decode cX12_where 0 = .ok (.aload_n 0, 1) := by decide +kernel
theorem dX12_where_1 : decode cX12_where 1 = .ok (.iconst 0, 1) := by decide +kernel
theorem dX12_where_2 : decode cX12_where 2 = .ok (.putfield 103, 3) := by decide +kernel
theorem dX12_where_5 : decode cX12_where 5 = .ok (.aload_n 0, 1) := by decide +kernel
theorem dX12_where_6 : decode cX12_where 6 = .ok (.getfield 106, 3) := by decide +kernel
theorem dX12_where_9 : decode cX12_where 9 = .ok (.iconst 4, 1) := by decide +kernel
theorem dX12_where_10 : decode cX12_where 10 = .ok (.if_icmp .ne 10, 3) := by decide +kernel
theorem dX12_where_13 : decode cX12_where 13 = .ok (.aload_n 0, 1) := by decide +kernel
theorem dX12_where_14 : decode cX12_where 14 = .ok (.getfield 13, 3) := by decide +kernel
theorem dX12_where_17 : decode cX12_where 17 = .ok (.goto 4, 3) := by decide +kernel
theorem dX12_where_20 : decode cX12_where 20 = .ok (.iconst (-1), 1) := by decide +kernel
theorem dX12_where_21 : decode cX12_where 21 = .ok (.ireturn, 1) := by decide +kernel
theorem dX12_marks_0 : decode cX12_marks 0 = .ok (.iconst 1, 1) := by decide +kernel
theorem dX12_marks_1 : decode cX12_marks 1 = .ok (.istore_n 2, 1) := by decide +kernel
theorem dX12_marks_2 : decode cX12_marks 2 = .ok (.iconst 0, 1) := by decide +kernel
theorem dX12_marks_3 : decode cX12_marks 3 = .ok (.istore_n 3, 1) := by decide +kernel
theorem dX12_marks_4 : decode cX12_marks 4 = .ok (.iload_n 2, 1) := by decide +kernel
theorem dX12_marks_5 : decode cX12_marks 5 = .ok (.iload_n 1, 1) := by decide +kernel
theorem dX12_marks_6 : decode cX12_marks 6 = .ok (.if_icmp .gt 36, 3) := by decide +kernel
theorem dX12_marks_9 : decode cX12_marks 9 = .ok (.iload_n 3, 1) := by decide +kernel
theorem dX12_marks_10 : decode cX12_marks 10 = .ok (.sipush 9999, 3) := by decide +kernel
theorem dX12_marks_13 : decode cX12_marks 13 = .ok (.if_icmp .ge 29, 3) := by decide +kernel
theorem dX12_marks_16 : decode cX12_marks 16 = .ok (.iload_n 2, 1) := by decide +kernel
theorem dX12_marks_17 : decode cX12_marks 17 = .ok (.iload_n 0, 1) := by decide +kernel
theorem dX12_marks_18 : decode cX12_marks 18 = .ok (.idiv, 1) := by decide +kernel
theorem dX12_marks_19 : decode cX12_marks 19 = .ok (.istore 4, 2) := by decide +kernel
theorem dX12_marks_21 : decode cX12_marks 21 = .ok (.iload_n 2, 1) := by decide +kernel
theorem dX12_marks_22 : decode cX12_marks 22 = .ok (.iload 4, 2) := by decide +kernel
theorem dX12_marks_24 : decode cX12_marks 24 = .ok (.iconst 1, 1) := by decide +kernel
theorem dX12_marks_25 : decode cX12_marks 25 = .ok (.if_icmp .ge 7, 3) := by decide +kernel
theorem dX12_marks_28 : decode cX12_marks 28 = .ok (.iconst 1, 1) := by decide +kernel
theorem dX12_marks_29 : decode cX12_marks 29 = .ok (.goto 5, 3) := by decide +kernel
theorem dX12_marks_32 : decode cX12_marks 32 = .ok (.iload 4, 2) := by decide +kernel
theorem dX12_marks_34 : decode cX12_marks 34 = .ok (.iadd, 1) := by decide +kernel
theorem dX12_marks_35 : decode cX12_marks 35 = .ok (.istore_n 2, 1) := by decide +kernel
theorem dX12_marks_36 : decode cX12_marks 36 = .ok (.iinc 3 1, 3) := by decide +kernel
theorem dX12_marks_39 : decode cX12_marks 39 = .ok (.goto (-35), 3) := by decide +kernel
theorem dX12_marks_42 : decode cX12_marks 42 = .ok (.iload_n 3, 1) := by decide +kernel
theorem dX12_marks_43 : decode cX12_marks 43 = .ok (.ireturn, 1) := by decide +kernel
theorem dX12_power_0 : decode cX12_power 0 = .ok (.iload_n 2, 1) := by decide +kernel
theorem dX12_power_1 : decode cX12_power 1 = .ok (.iconst 1, 1) := by decide +kernel
theorem dX12_power_2 : decode cX12_power 2 = .ok (.if_icmp .ne 7, 3) := by decide +kernel
theorem dX12_power_5 : decode cX12_power 5 = .ok (.lload_n 0, 1) := by decide +kernel
theorem dX12_power_6 : decode cX12_power 6 = .ok (.goto 19, 3) := by decide +kernel
theorem dX12_power_9 : decode cX12_power 9 = .ok (.iload_n 2, 1) := by decide +kernel
theorem dX12_power_10 : decode cX12_power 10 = .ok (.iconst 2, 1) := by decide +kernel
theorem dX12_power_11 : decode cX12_power 11 = .ok (.if_icmp .ne 9, 3) := by decide +kernel
theorem dX12_power_14 : decode cX12_power 14 = .ok (.lload_n 0, 1) := by decide +kernel
theorem dX12_power_15 : decode cX12_power 15 = .ok (.lload_n 0, 1) := by decide +kernel
theorem dX12_power_16 : decode cX12_power 16 = .ok (.lmul, 1) := by decide +kernel
theorem dX12_power_17 : decode cX12_power 17 = .ok (.goto 8, 3) := by decide +kernel
theorem dX12_power_20 : decode cX12_power 20 = .ok (.lload_n 0, 1) := by decide +kernel
theorem dX12_power_21 : decode cX12_power 21 = .ok (.lload_n 0, 1) := by decide +kernel
theorem dX12_power_22 : decode cX12_power 22 = .ok (.lmul, 1) := by decide +kernel
theorem dX12_power_23 : decode cX12_power 23 = .ok (.lload_n 0, 1) := by decide +kernel
theorem dX12_power_24 : decode cX12_power 24 = .ok (.lmul, 1) := by decide +kernel
theorem dX12_power_25 : decode cX12_power 25 = .ok (.lreturn, 1) := by decide +kernel
theorem dX12_root_0 : decode cX12_root 0 = .ok (.iload_n 0, 1) := by decide +kernel
theorem dX12_root_1 : decode cX12_root 1 = .ok (.i2l, 1) := by decide +kernel
theorem dX12_root_2 : decode cX12_root 2 = .ok (.iload_n 1, 1) := by decide +kernel
theorem dX12_root_3 : decode cX12_root 3 = .ok (.invokestatic 296, 3) := by decide +kernel
theorem dX12_root_6 : decode cX12_root 6 = .ok (.lstore_n 3, 1) := by decide +kernel
theorem dX12_root_7 : decode cX12_root 7 = .ok (.iconst 0, 1) := by decide +kernel
theorem dX12_root_8 : decode cX12_root 8 = .ok (.istore 5, 2) := by decide +kernel
theorem dX12_root_10 : decode cX12_root 10 = .ok (.sipush 10000, 3) := by decide +kernel
theorem dX12_root_13 : decode cX12_root 13 = .ok (.istore 6, 2) := by decide +kernel
theorem dX12_root_15 : decode cX12_root 15 = .ok (.iload 6, 2) := by decide +kernel
theorem dX12_root_17 : decode cX12_root 17 = .ok (.iload 5, 2) := by decide +kernel
theorem dX12_root_19 : decode cX12_root 19 = .ok (.isub, 1) := by decide +kernel
theorem dX12_root_20 : decode cX12_root 20 = .ok (.iconst 1, 1) := by decide +kernel
theorem dX12_root_21 : decode cX12_root 21 = .ok (.if_icmp .le 38, 3) := by decide +kernel
theorem dX12_root_24 : decode cX12_root 24 = .ok (.iload 5, 2) := by decide +kernel
theorem dX12_root_26 : decode cX12_root 26 = .ok (.iload 6, 2) := by decide +kernel
theorem dX12_root_28 : decode cX12_root 28 = .ok (.iadd, 1) := by decide +kernel
theorem dX12_root_29 : decode cX12_root 29 = .ok (.iconst 2, 1) := by decide +kernel
theorem dX12_root_30 : decode cX12_root 30 = .ok (.idiv, 1) := by decide +kernel
theorem dX12_root_31 : decode cX12_root 31 = .ok (.istore 7, 2) := by decide +kernel
theorem dX12_root_33 : decode cX12_root 33 = .ok (.iload 7, 2) := by decide +kernel
theorem dX12_root_35 : decode cX12_root 35 = .ok (.i2l, 1) := by decide +kernel
theorem dX12_root_36 : decode cX12_root 36 = .ok (.iload_n 2, 1) := by decide +kernel
theorem dX12_root_37 : decode cX12_root 37 = .ok (.invokestatic 296, 3) := by decide +kernel
theorem dX12_root_40 : decode cX12_root 40 = .ok (.lload_n 3, 1) := by decide +kernel
theorem dX12_root_41 : decode cX12_root 41 = .ok (.lcmp, 1) := by decide +kernel
theorem dX12_root_42 : decode cX12_root 42 = .ok (.ifCond .gt 10, 3) := by decide +kernel
theorem dX12_root_45 : decode cX12_root 45 = .ok (.iload 7, 2) := by decide +kernel
theorem dX12_root_47 : decode cX12_root 47 = .ok (.istore 5, 2) := by decide +kernel
theorem dX12_root_49 : decode cX12_root 49 = .ok (.goto 7, 3) := by decide +kernel
theorem dX12_root_52 : decode cX12_root 52 = .ok (.iload 7, 2) := by decide +kernel
theorem dX12_root_54 : decode cX12_root 54 = .ok (.istore 6, 2) := by decide +kernel
theorem dX12_root_56 : decode cX12_root 56 = .ok (.goto (-41), 3) := by decide +kernel
theorem dX12_root_59 : decode cX12_root 59 = .ok (.iload 5, 2) := by decide +kernel
theorem dX12_root_61 : decode cX12_root 61 = .ok (.ireturn, 1) := by decide +kernel
theorem dX12_reckoned_0 : decode cX12_reckoned 0 = .ok (.iload_n 2, 1) := by decide +kernel
theorem dX12_reckoned_1 : decode cX12_reckoned 1 = .ok (.istore_n 3, 1) := by decide +kernel
theorem dX12_reckoned_2 : decode cX12_reckoned 2 = .ok (.iconst 4, 1) := by decide +kernel
theorem dX12_reckoned_3 : decode cX12_reckoned 3 = .ok (.iload_n 1, 1) := by decide +kernel
theorem dX12_reckoned_4 : decode cX12_reckoned 4 = .ok (.imul, 1) := by decide +kernel
theorem dX12_reckoned_5 : decode cX12_reckoned 5 = .ok (.istore 4, 2) := by decide +kernel
theorem dX12_reckoned_7 : decode cX12_reckoned 7 = .ok (.iload 4, 2) := by decide +kernel
theorem dX12_reckoned_9 : decode cX12_reckoned 9 = .ok (.iconst 4, 1) := by decide +kernel
theorem dX12_reckoned_10 : decode cX12_reckoned 10 = .ok (.iload_n 1, 1) := by decide +kernel
theorem dX12_reckoned_11 : decode cX12_reckoned 11 = .ok (.imul, 1) := by decide +kernel
theorem dX12_reckoned_12 : decode cX12_reckoned 12 = .ok (.aload_n 0, 1) := by decide +kernel
theorem dX12_reckoned_13 : decode cX12_reckoned 13 = .ok (.getfield 20, 3) := by decide +kernel
theorem dX12_reckoned_16 : decode cX12_reckoned 16 = .ok (.iconst 0, 1) := by decide +kernel
theorem dX12_reckoned_17 : decode cX12_reckoned 17 = .ok (.iload_n 1, 1) := by decide +kernel
theorem dX12_reckoned_18 : decode cX12_reckoned 18 = .ok (.iadd, 1) := by decide +kernel
theorem dX12_reckoned_19 : decode cX12_reckoned 19 = .ok (.iaload, 1) := by decide +kernel
theorem dX12_reckoned_20 : decode cX12_reckoned 20 = .ok (.iadd, 1) := by decide +kernel
theorem dX12_reckoned_21 : decode cX12_reckoned 21 = .ok (.if_icmp .ge 122, 3) := by decide +kernel
theorem dX12_reckoned_24 : decode cX12_reckoned 24 = .ok (.aload_n 0, 1) := by decide +kernel
theorem dX12_reckoned_25 : decode cX12_reckoned 25 = .ok (.getfield 20, 3) := by decide +kernel
theorem dX12_reckoned_28 : decode cX12_reckoned 28 = .ok (.bipush 30, 2) := by decide +kernel
theorem dX12_reckoned_30 : decode cX12_reckoned 30 = .ok (.iload 4, 2) := by decide +kernel
theorem dX12_reckoned_32 : decode cX12_reckoned 32 = .ok (.iadd, 1) := by decide +kernel
theorem dX12_reckoned_33 : decode cX12_reckoned 33 = .ok (.iaload, 1) := by decide +kernel
theorem dX12_reckoned_34 : decode cX12_reckoned 34 = .ok (.istore 5, 2) := by decide +kernel
theorem dX12_reckoned_36 : decode cX12_reckoned 36 = .ok (.aload_n 0, 1) := by decide +kernel
theorem dX12_reckoned_37 : decode cX12_reckoned 37 = .ok (.getfield 20, 3) := by decide +kernel
theorem dX12_reckoned_40 : decode cX12_reckoned 40 = .ok (.bipush 54, 2) := by decide +kernel
theorem dX12_reckoned_42 : decode cX12_reckoned 42 = .ok (.iload 4, 2) := by decide +kernel
theorem dX12_reckoned_44 : decode cX12_reckoned 44 = .ok (.iadd, 1) := by decide +kernel
theorem dX12_reckoned_45 : decode cX12_reckoned 45 = .ok (.iaload, 1) := by decide +kernel
theorem dX12_reckoned_46 : decode cX12_reckoned 46 = .ok (.istore 6, 2) := by decide +kernel
theorem dX12_reckoned_48 : decode cX12_reckoned 48 = .ok (.aload_n 0, 1) := by decide +kernel
theorem dX12_reckoned_49 : decode cX12_reckoned 49 = .ok (.getfield 20, 3) := by decide +kernel
theorem dX12_reckoned_52 : decode cX12_reckoned 52 = .ok (.bipush 6, 2) := by decide +kernel
theorem dX12_reckoned_54 : decode cX12_reckoned 54 = .ok (.iload 4, 2) := by decide +kernel
theorem dX12_reckoned_56 : decode cX12_reckoned 56 = .ok (.iadd, 1) := by decide +kernel
theorem dX12_reckoned_57 : decode cX12_reckoned 57 = .ok (.iaload, 1) := by decide +kernel
theorem dX12_reckoned_58 : decode cX12_reckoned 58 = .ok (.istore 7, 2) := by decide +kernel
theorem dX12_reckoned_60 : decode cX12_reckoned 60 = .ok (.iload 7, 2) := by decide +kernel
theorem dX12_reckoned_62 : decode cX12_reckoned 62 = .ok (.ifCond .ne 12, 3) := by decide +kernel
theorem dX12_reckoned_65 : decode cX12_reckoned 65 = .ok (.iload 5, 2) := by decide +kernel
theorem dX12_reckoned_67 : decode cX12_reckoned 67 = .ok (.iload_n 3, 1) := by decide +kernel
theorem dX12_reckoned_68 : decode cX12_reckoned 68 = .ok (.invokestatic 299, 3) := by decide +kernel
theorem dX12_reckoned_71 : decode cX12_reckoned 71 = .ok (.goto 50, 3) := by decide +kernel
theorem dX12_reckoned_74 : decode cX12_reckoned 74 = .ok (.iload 7, 2) := by decide +kernel
theorem dX12_reckoned_76 : decode cX12_reckoned 76 = .ok (.iconst 1, 1) := by decide +kernel
theorem dX12_reckoned_77 : decode cX12_reckoned 77 = .ok (.if_icmp .ne 14, 3) := by decide +kernel
theorem dX12_reckoned_80 : decode cX12_reckoned 80 = .ok (.iload_n 3, 1) := by decide +kernel
theorem dX12_reckoned_81 : decode cX12_reckoned 81 = .ok (.iload 5, 2) := by decide +kernel
theorem dX12_reckoned_83 : decode cX12_reckoned 83 = .ok (.iload 6, 2) := by decide +kernel
theorem dX12_reckoned_85 : decode cX12_reckoned 85 = .ok (.invokestatic 302, 3) := by decide +kernel
theorem dX12_reckoned_88 : decode cX12_reckoned 88 = .ok (.goto 33, 3) := by decide +kernel
theorem dX12_reckoned_91 : decode cX12_reckoned 91 = .ok (.iload 7, 2) := by decide +kernel
theorem dX12_reckoned_93 : decode cX12_reckoned 93 = .ok (.iconst 2, 1) := by decide +kernel
theorem dX12_reckoned_94 : decode cX12_reckoned 94 = .ok (.if_icmp .ne 13, 3) := by decide +kernel
theorem dX12_reckoned_97 : decode cX12_reckoned 97 = .ok (.iload 5, 2) := by decide +kernel
theorem dX12_reckoned_99 : decode cX12_reckoned 99 = .ok (.iload_n 3, 1) := by decide +kernel
theorem dX12_reckoned_100 : decode cX12_reckoned 100 = .ok (.imul, 1) := by decide +kernel
theorem dX12_reckoned_101 : decode cX12_reckoned 101 = .ok (.iload 6, 2) := by decide +kernel
theorem dX12_reckoned_103 : decode cX12_reckoned 103 = .ok (.idiv, 1) := by decide +kernel
theorem dX12_reckoned_104 : decode cX12_reckoned 104 = .ok (.goto 17, 3) := by decide +kernel
theorem dX12_reckoned_107 : decode cX12_reckoned 107 = .ok (.iload_n 3, 1) := by decide +kernel
theorem dX12_reckoned_108 : decode cX12_reckoned 108 = .ok (.iload 5, 2) := by decide +kernel
theorem dX12_reckoned_110 : decode cX12_reckoned 110 = .ok (.if_icmp .ge 7, 3) := by decide +kernel
theorem dX12_reckoned_113 : decode cX12_reckoned 113 = .ok (.iconst 0, 1) := by decide +kernel
theorem dX12_reckoned_114 : decode cX12_reckoned 114 = .ok (.goto 7, 3) := by decide +kernel
theorem dX12_reckoned_117 : decode cX12_reckoned 117 = .ok (.iload_n 3, 1) := by decide +kernel
theorem dX12_reckoned_118 : decode cX12_reckoned 118 = .ok (.iload 5, 2) := by decide +kernel
theorem dX12_reckoned_120 : decode cX12_reckoned 120 = .ok (.isub, 1) := by decide +kernel
theorem dX12_reckoned_121 : decode cX12_reckoned 121 = .ok (.istore_n 3, 1) := by decide +kernel
theorem dX12_reckoned_122 : decode cX12_reckoned 122 = .ok (.iload_n 3, 1) := by decide +kernel
theorem dX12_reckoned_123 : decode cX12_reckoned 123 = .ok (.sipush 9999, 3) := by decide +kernel
theorem dX12_reckoned_126 : decode cX12_reckoned 126 = .ok (.if_icmp .le 9, 3) := by decide +kernel
theorem dX12_reckoned_129 : decode cX12_reckoned 129 = .ok (.sipush 9999, 3) := by decide +kernel
theorem dX12_reckoned_132 : decode cX12_reckoned 132 = .ok (.goto 4, 3) := by decide +kernel
theorem dX12_reckoned_135 : decode cX12_reckoned 135 = .ok (.iload_n 3, 1) := by decide +kernel
theorem dX12_reckoned_136 : decode cX12_reckoned 136 = .ok (.istore_n 3, 1) := by decide +kernel
theorem dX12_reckoned_137 : decode cX12_reckoned 137 = .ok (.iinc 4 1, 3) := by decide +kernel
theorem dX12_reckoned_140 : decode cX12_reckoned 140 = .ok (.goto (-133), 3) := by decide +kernel
theorem dX12_reckoned_143 : decode cX12_reckoned 143 = .ok (.iload_n 3, 1) := by decide +kernel
theorem dX12_reckoned_144 : decode cX12_reckoned 144 = .ok (.ireturn, 1) := by decide +kernel
theorem dX12_isSense_0 : decode cX12_isSense 0 = .ok (.aload_n 0, 1) := by decide +kernel
theorem dX12_isSense_1 : decode cX12_isSense 1 = .ok (.getfield 220, 3) := by decide +kernel
theorem dX12_isSense_4 : decode cX12_isSense 4 = .ok (.ifCond .eq 25, 3) := by decide +kernel
theorem dX12_isSense_7 : decode cX12_isSense 7 = .ok (.iload_n 1, 1) := by decide +kernel
theorem dX12_isSense_8 : decode cX12_isSense 8 = .ok (.iconst 0, 1) := by decide +kernel
theorem dX12_isSense_9 : decode cX12_isSense 9 = .ok (.aload_n 0, 1) := by decide +kernel
theorem dX12_isSense_10 : decode cX12_isSense 10 = .ok (.getfield 20, 3) := by decide +kernel
theorem dX12_isSense_13 : decode cX12_isSense 13 = .ok (.sipush 238, 3) := by decide +kernel
theorem dX12_isSense_16 : decode cX12_isSense 16 = .ok (.iaload, 1) := by decide +kernel
theorem dX12_isSense_17 : decode cX12_isSense 17 = .ok (.iconst 1, 1) := by decide +kernel
theorem dX12_isSense_18 : decode cX12_isSense 18 = .ok (.isub, 1) := by decide +kernel
theorem dX12_isSense_19 : decode cX12_isSense 19 = .ok (.invokestatic 203, 3) := by decide +kernel
theorem dX12_isSense_22 : decode cX12_isSense 22 = .ok (.ifCond .eq 7, 3) := by decide +kernel
theorem dX12_isSense_25 : decode cX12_isSense 25 = .ok (.iconst 1, 1) := by decide +kernel
theorem dX12_isSense_26 : decode cX12_isSense 26 = .ok (.goto 4, 3) := by decide +kernel
theorem dX12_isSense_29 : decode cX12_isSense 29 = .ok (.iconst 0, 1) := by decide +kernel
theorem dX12_isSense_30 : decode cX12_isSense 30 = .ok (.ireturn, 1) := by decide +kernel
theorem dX12_isSayer_0 : decode cX12_isSayer 0 = .ok (.aload_n 0, 1) := by decide +kernel
theorem dX12_isSayer_1 : decode cX12_isSayer 1 = .ok (.getfield 220, 3) := by decide +kernel
theorem dX12_isSayer_4 : decode cX12_isSayer 4 = .ok (.ifCond .eq 25, 3) := by decide +kernel
theorem dX12_isSayer_7 : decode cX12_isSayer 7 = .ok (.iload_n 1, 1) := by decide +kernel
theorem dX12_isSayer_8 : decode cX12_isSayer 8 = .ok (.iconst 0, 1) := by decide +kernel
theorem dX12_isSayer_9 : decode cX12_isSayer 9 = .ok (.aload_n 0, 1) := by decide +kernel
theorem dX12_isSayer_10 : decode cX12_isSayer 10 = .ok (.getfield 20, 3) := by decide +kernel
theorem dX12_isSayer_13 : decode cX12_isSayer 13 = .ok (.sipush 239, 3) := by decide +kernel
theorem dX12_isSayer_16 : decode cX12_isSayer 16 = .ok (.iaload, 1) := by decide +kernel
theorem dX12_isSayer_17 : decode cX12_isSayer 17 = .ok (.iconst 1, 1) := by decide +kernel
theorem dX12_isSayer_18 : decode cX12_isSayer 18 = .ok (.isub, 1) := by decide +kernel
theorem dX12_isSayer_19 : decode cX12_isSayer 19 = .ok (.invokestatic 203, 3) := by decide +kernel
theorem dX12_isSayer_22 : decode cX12_isSayer 22 = .ok (.ifCond .eq 7, 3) := by decide +kernel
theorem dX12_isSayer_25 : decode cX12_isSayer 25 = .ok (.iconst 1, 1) := by decide +kernel
theorem dX12_isSayer_26 : decode cX12_isSayer 26 = .ok (.goto 4, 3) := by decide +kernel
theorem dX12_isSayer_29 : decode cX12_isSayer 29 = .ok (.iconst 0, 1) := by decide +kernel
theorem dX12_isSayer_30 : decode cX12_isSayer 30 = .ok (.ireturn, 1) := by decide +kernel
theorem dX12_level_0 : decode cX12_level 0 = .ok (.aload_n 0, 1) := by decide +kernel
theorem dX12_level_1 : decode cX12_level 1 = .ok (.iconst 0, 1) := by decide +kernel
theorem dX12_level_2 : decode cX12_level 2 = .ok (.putfield 103, 3) := by decide +kernel
theorem dX12_level_5 : decode cX12_level 5 = .ok (.aload_n 0, 1) := by decide +kernel
theorem dX12_level_6 : decode cX12_level 6 = .ok (.iload_n 1, 1) := by decide +kernel
theorem dX12_level_7 : decode cX12_level 7 = .ok (.invokevirtual 306, 3) := by decide +kernel
theorem dX12_level_10 : decode cX12_level 10 = .ok (.ifCond .eq 29, 3) := by decide +kernel
theorem dX12_level_13 : decode cX12_level 13 = .ok (.iload_n 2, 1) := by decide +kernel
theorem dX12_level_14 : decode cX12_level 14 = .ok (.iconst 0, 1) := by decide +kernel
theorem dX12_level_15 : decode cX12_level 15 = .ok (.sipush 400, 3) := by decide +kernel
theorem dX12_level_18 : decode cX12_level 18 = .ok (.invokestatic 203, 3) := by decide +kernel
theorem dX12_level_21 : decode cX12_level 21 = .ok (.ifCond .eq 18, 3) := by decide +kernel
theorem dX12_level_24 : decode cX12_level 24 = .ok (.aload_n 0, 1) := by decide +kernel
theorem dX12_level_25 : decode cX12_level 25 = .ok (.getfield 26, 3) := by decide +kernel
theorem dX12_level_28 : decode cX12_level 28 = .ok (.sipush 401, 3) := by decide +kernel
theorem dX12_level_31 : decode cX12_level 31 = .ok (.iload_n 1, 1) := by decide +kernel
theorem dX12_level_32 : decode cX12_level 32 = .ok (.imul, 1) := by decide +kernel
theorem dX12_level_33 : decode cX12_level 33 = .ok (.iload_n 2, 1) := by decide +kernel
theorem dX12_level_34 : decode cX12_level 34 = .ok (.iadd, 1) := by decide +kernel
theorem dX12_level_35 : decode cX12_level 35 = .ok (.iaload, 1) := by decide +kernel
theorem dX12_level_36 : decode cX12_level 36 = .ok (.goto 4, 3) := by decide +kernel
theorem dX12_level_39 : decode cX12_level 39 = .ok (.iconst (-1), 1) := by decide +kernel
theorem dX12_level_40 : decode cX12_level 40 = .ok (.ireturn, 1) := by decide +kernel
theorem dX12_levelOf_0 : decode cX12_levelOf 0 = .ok (.aload_n 0, 1) := by decide +kernel
theorem dX12_levelOf_1 : decode cX12_levelOf 1 = .ok (.getfield 26, 3) := by decide +kernel
theorem dX12_levelOf_4 : decode cX12_levelOf 4 = .ok (.sipush 401, 3) := by decide +kernel
theorem dX12_levelOf_7 : decode cX12_levelOf 7 = .ok (.iload_n 1, 1) := by decide +kernel
theorem dX12_levelOf_8 : decode cX12_levelOf 8 = .ok (.imul, 1) := by decide +kernel
theorem dX12_levelOf_9 : decode cX12_levelOf 9 = .ok (.iload_n 2, 1) := by decide +kernel
theorem dX12_levelOf_10 : decode cX12_levelOf 10 = .ok (.iadd, 1) := by decide +kernel
theorem dX12_levelOf_11 : decode cX12_levelOf 11 = .ok (.iaload, 1) := by decide +kernel
theorem dX12_levelOf_12 : decode cX12_levelOf 12 = .ok (.ireturn, 1) := by decide +kernel
theorem dX12_noise_0 : decode cX12_noise 0 = .ok (.aload_n 0, 1) := by decide +kernel
theorem dX12_noise_1 : decode cX12_noise 1 = .ok (.iconst 0, 1) := by decide +kernel
theorem dX12_noise_2 : decode cX12_noise 2 = .ok (.putfield 103, 3) := by decide +kernel
theorem dX12_noise_5 : decode cX12_noise 5 = .ok (.aload_n 0, 1) := by decide +kernel
theorem dX12_noise_6 : decode cX12_noise 6 = .ok (.iload_n 1, 1) := by decide +kernel
theorem dX12_noise_7 : decode cX12_noise 7 = .ok (.invokevirtual 306, 3) := by decide +kernel
theorem dX12_noise_10 : decode cX12_noise 10 = .ok (.ifCond .ne 5, 3) := by decide +kernel
theorem dX12_noise_13 : decode cX12_noise 13 = .ok (.iconst (-1), 1) := by decide +kernel
theorem dX12_noise_14 : decode cX12_noise 14 = .ok (.ireturn, 1) := by decide +kernel
theorem dX12_noise_15 : decode cX12_noise 15 = .ok (.iload_n 2, 1) := by decide +kernel
theorem dX12_noise_16 : decode cX12_noise 16 = .ok (.bipush (-5), 2) := by decide +kernel
theorem dX12_noise_18 : decode cX12_noise 18 = .ok (.iconst 5, 1) := by decide +kernel
theorem dX12_noise_19 : decode cX12_noise 19 = .ok (.invokestatic 203, 3) := by decide +kernel
theorem dX12_noise_22 : decode cX12_noise 22 = .ok (.ifCond .eq 21, 3) := by decide +kernel
theorem dX12_noise_25 : decode cX12_noise 25 = .ok (.aload_n 0, 1) := by decide +kernel
theorem dX12_noise_26 : decode cX12_noise 26 = .ok (.iload_n 1, 1) := by decide +kernel
theorem dX12_noise_27 : decode cX12_noise 27 = .ok (.iload_n 2, 1) := by decide +kernel
theorem dX12_noise_28 : decode cX12_noise 28 = .ok (.aload_n 0, 1) := by decide +kernel
theorem dX12_noise_29 : decode cX12_noise 29 = .ok (.getfield 20, 3) := by decide +kernel
theorem dX12_noise_32 : decode cX12_noise 32 = .ok (.bipush 78, 2) := by decide +kernel
theorem dX12_noise_34 : decode cX12_noise 34 = .ok (.iload_n 1, 1) := by decide +kernel
theorem dX12_noise_35 : decode cX12_noise 35 = .ok (.iadd, 1) := by decide +kernel
theorem dX12_noise_36 : decode cX12_noise 36 = .ok (.iaload, 1) := by decide +kernel
theorem dX12_noise_37 : decode cX12_noise 37 = .ok (.invokevirtual 309, 3) := by decide +kernel
theorem dX12_noise_40 : decode cX12_noise 40 = .ok (.goto 4, 3) := by decide +kernel
theorem dX12_noise_43 : decode cX12_noise 43 = .ok (.iconst 0, 1) := by decide +kernel
theorem dX12_noise_44 : decode cX12_noise 44 = .ok (.ireturn, 1) := by decide +kernel
theorem dX12_often_0 : decode cX12_often 0 = .ok (.iload_n 2, 1) := by decide +kernel
theorem dX12_often_1 : decode cX12_often 1 = .ok (.ifCond .ge 8, 3) := by decide +kernel
theorem dX12_often_4 : decode cX12_often 4 = .ok (.iload_n 2, 1) := by decide +kernel
theorem dX12_often_5 : decode cX12_often 5 = .ok (.ineg, 1) := by decide +kernel
theorem dX12_often_6 : decode cX12_often 6 = .ok (.goto 4, 3) := by decide +kernel
theorem dX12_often_9 : decode cX12_often 9 = .ok (.iload_n 2, 1) := by decide +kernel
theorem dX12_often_10 : decode cX12_often 10 = .ok (.istore 4, 2) := by decide +kernel
theorem dX12_often_12 : decode cX12_often 12 = .ok (.iload 4, 2) := by decide +kernel
theorem dX12_often_14 : decode cX12_often 14 = .ok (.iload_n 3, 1) := by decide +kernel
theorem dX12_often_15 : decode cX12_often 15 = .ok (.if_icmp .ge 21, 3) := by decide +kernel
theorem dX12_often_18 : decode cX12_often 18 = .ok (.aload_n 0, 1) := by decide +kernel
theorem dX12_often_19 : decode cX12_often 19 = .ok (.getfield 20, 3) := by decide +kernel
theorem dX12_often_22 : decode cX12_often 22 = .ok (.bipush 84, 2) := by decide +kernel
theorem dX12_often_24 : decode cX12_often 24 = .ok (.bipush 6, 2) := by decide +kernel
theorem dX12_often_26 : decode cX12_often 26 = .ok (.iload_n 1, 1) := by decide +kernel
theorem dX12_often_27 : decode cX12_often 27 = .ok (.imul, 1) := by decide +kernel
theorem dX12_often_28 : decode cX12_often 28 = .ok (.iadd, 1) := by decide +kernel
theorem dX12_often_29 : decode cX12_often 29 = .ok (.iload 4, 2) := by decide +kernel
theorem dX12_often_31 : decode cX12_often 31 = .ok (.iadd, 1) := by decide +kernel
theorem dX12_often_32 : decode cX12_often 32 = .ok (.iaload, 1) := by decide +kernel
theorem dX12_often_33 : decode cX12_often 33 = .ok (.goto 4, 3) := by decide +kernel
theorem dX12_often_36 : decode cX12_often 36 = .ok (.iconst 0, 1) := by decide +kernel
theorem dX12_often_37 : decode cX12_often 37 = .ok (.ireturn, 1) := by decide +kernel
theorem dX12_all_0 : decode cX12_all 0 = .ok (.iconst 0, 1) := by decide +kernel
theorem dX12_all_1 : decode cX12_all 1 = .ok (.istore_n 3, 1) := by decide +kernel
theorem dX12_all_2 : decode cX12_all 2 = .ok (.bipush (-5), 2) := by decide +kernel
theorem dX12_all_4 : decode cX12_all 4 = .ok (.istore 4, 2) := by decide +kernel
theorem dX12_all_6 : decode cX12_all 6 = .ok (.iload 4, 2) := by decide +kernel
theorem dX12_all_8 : decode cX12_all 8 = .ok (.iconst 5, 1) := by decide +kernel
theorem dX12_all_9 : decode cX12_all 9 = .ok (.if_icmp .gt 20, 3) := by decide +kernel
theorem dX12_all_12 : decode cX12_all 12 = .ok (.iload_n 3, 1) := by decide +kernel
theorem dX12_all_13 : decode cX12_all 13 = .ok (.aload_n 0, 1) := by decide +kernel
theorem dX12_all_14 : decode cX12_all 14 = .ok (.iload_n 1, 1) := by decide +kernel
theorem dX12_all_15 : decode cX12_all 15 = .ok (.iload 4, 2) := by decide +kernel
theorem dX12_all_17 : decode cX12_all 17 = .ok (.iload_n 2, 1) := by decide +kernel
theorem dX12_all_18 : decode cX12_all 18 = .ok (.invokevirtual 309, 3) := by decide +kernel
theorem dX12_all_21 : decode cX12_all 21 = .ok (.iadd, 1) := by decide +kernel
theorem dX12_all_22 : decode cX12_all 22 = .ok (.istore_n 3, 1) := by decide +kernel
theorem dX12_all_23 : decode cX12_all 23 = .ok (.iinc 4 1, 3) := by decide +kernel
theorem dX12_all_26 : decode cX12_all 26 = .ok (.goto (-20), 3) := by decide +kernel
theorem dX12_all_29 : decode cX12_all 29 = .ok (.iload_n 3, 1) := by decide +kernel
theorem dX12_all_30 : decode cX12_all 30 = .ok (.ireturn, 1) := by decide +kernel
theorem dX12_fullOf_0 : decode cX12_fullOf 0 = .ok (.aload_n 0, 1) := by decide +kernel
theorem dX12_fullOf_1 : decode cX12_fullOf 1 = .ok (.getfield 20, 3) := by decide +kernel
theorem dX12_fullOf_4 : decode cX12_fullOf 4 = .ok (.bipush 78, 2) := by decide +kernel
theorem dX12_fullOf_6 : decode cX12_fullOf 6 = .ok (.iload_n 1, 1) := by decide +kernel
theorem dX12_fullOf_7 : decode cX12_fullOf 7 = .ok (.iadd, 1) := by decide +kernel
theorem dX12_fullOf_8 : decode cX12_fullOf 8 = .ok (.iaload, 1) := by decide +kernel
theorem dX12_fullOf_9 : decode cX12_fullOf 9 = .ok (.ireturn, 1) := by decide +kernel
theorem dX12_tired_0 : decode cX12_tired 0 = .ok (.aload_n 0, 1) := by decide +kernel
theorem dX12_tired_1 : decode cX12_tired 1 = .ok (.getfield 20, 3) := by decide +kernel
theorem dX12_tired_4 : decode cX12_tired 4 = .ok (.sipush 138, 3) := by decide +kernel
theorem dX12_tired_7 : decode cX12_tired 7 = .ok (.iload_n 1, 1) := by decide +kernel
theorem dX12_tired_8 : decode cX12_tired 8 = .ok (.iadd, 1) := by decide +kernel
theorem dX12_tired_9 : decode cX12_tired 9 = .ok (.iaload, 1) := by decide +kernel
theorem dX12_tired_10 : decode cX12_tired 10 = .ok (.ifCond .ne 7, 3) := by decide +kernel
theorem dX12_tired_13 : decode cX12_tired 13 = .ok (.iconst 0, 1) := by decide +kernel
theorem dX12_tired_14 : decode cX12_tired 14 = .ok (.goto 20, 3) := by decide +kernel
theorem dX12_tired_17 : decode cX12_tired 17 = .ok (.aload_n 0, 1) := by decide +kernel
theorem dX12_tired_18 : decode cX12_tired 18 = .ok (.getfield 32, 3) := by decide +kernel
theorem dX12_tired_21 : decode cX12_tired 21 = .ok (.iload_n 1, 1) := by decide +kernel
theorem dX12_tired_22 : decode cX12_tired 22 = .ok (.iaload, 1) := by decide +kernel
theorem dX12_tired_23 : decode cX12_tired 23 = .ok (.aload_n 0, 1) := by decide +kernel
theorem dX12_tired_24 : decode cX12_tired 24 = .ok (.getfield 20, 3) := by decide +kernel
theorem dX12_tired_27 : decode cX12_tired 27 = .ok (.sipush 138, 3) := by decide +kernel
theorem dX12_tired_30 : decode cX12_tired 30 = .ok (.iload_n 1, 1) := by decide +kernel
theorem dX12_tired_31 : decode cX12_tired 31 = .ok (.iadd, 1) := by decide +kernel
theorem dX12_tired_32 : decode cX12_tired 32 = .ok (.iaload, 1) := by decide +kernel
theorem dX12_tired_33 : decode cX12_tired 33 = .ok (.idiv, 1) := by decide +kernel
theorem dX12_tired_34 : decode cX12_tired 34 = .ok (.ireturn, 1) := by decide +kernel
theorem dX12_learned_0 : decode cX12_learned 0 = .ok (.aload_n 0, 1) := by decide +kernel
theorem dX12_learned_1 : decode cX12_learned 1 = .ok (.getfield 20, 3) := by decide +kernel
theorem dX12_learned_4 : decode cX12_learned 4 = .ok (.sipush 144, 3) := by decide +kernel
theorem dX12_learned_7 : decode cX12_learned 7 = .ok (.iload_n 1, 1) := by decide +kernel
theorem dX12_learned_8 : decode cX12_learned 8 = .ok (.iadd, 1) := by decide +kernel
theorem dX12_learned_9 : decode cX12_learned 9 = .ok (.iaload, 1) := by decide +kernel
theorem dX12_learned_10 : decode cX12_learned 10 = .ok (.ifCond .ne 7, 3) := by decide +kernel
theorem dX12_learned_13 : decode cX12_learned 13 = .ok (.iconst 0, 1) := by decide +kernel
theorem dX12_learned_14 : decode cX12_learned 14 = .ok (.goto 20, 3) := by decide +kernel
theorem dX12_learned_17 : decode cX12_learned 17 = .ok (.aload_n 0, 1) := by decide +kernel
theorem dX12_learned_18 : decode cX12_learned 18 = .ok (.getfield 29, 3) := by decide +kernel
theorem dX12_learned_21 : decode cX12_learned 21 = .ok (.iload_n 1, 1) := by decide +kernel
theorem dX12_learned_22 : decode cX12_learned 22 = .ok (.iaload, 1) := by decide +kernel
theorem dX12_learned_23 : decode cX12_learned 23 = .ok (.aload_n 0, 1) := by decide +kernel
theorem dX12_learned_24 : decode cX12_learned 24 = .ok (.getfield 20, 3) := by decide +kernel
theorem dX12_learned_27 : decode cX12_learned 27 = .ok (.sipush 144, 3) := by decide +kernel
theorem dX12_learned_30 : decode cX12_learned 30 = .ok (.iload_n 1, 1) := by decide +kernel
theorem dX12_learned_31 : decode cX12_learned 31 = .ok (.iadd, 1) := by decide +kernel
theorem dX12_learned_32 : decode cX12_learned 32 = .ok (.iaload, 1) := by decide +kernel
theorem dX12_learned_33 : decode cX12_learned 33 = .ok (.idiv, 1) := by decide +kernel
theorem dX12_learned_34 : decode cX12_learned 34 = .ok (.istore_n 2, 1) := by decide +kernel
theorem dX12_learned_35 : decode cX12_learned 35 = .ok (.aload_n 0, 1) := by decide +kernel
theorem dX12_learned_36 : decode cX12_learned 36 = .ok (.getfield 20, 3) := by decide +kernel
theorem dX12_learned_39 : decode cX12_learned 39 = .ok (.bipush 78, 2) := by decide +kernel
theorem dX12_learned_41 : decode cX12_learned 41 = .ok (.aload_n 0, 1) := by decide +kernel
theorem dX12_learned_42 : decode cX12_learned 42 = .ok (.getfield 20, 3) := by decide +kernel
theorem dX12_learned_45 : decode cX12_learned 45 = .ok (.bipush 120, 2) := by decide +kernel
theorem dX12_learned_47 : decode cX12_learned 47 = .ok (.iload_n 1, 1) := by decide +kernel
theorem dX12_learned_48 : decode cX12_learned 48 = .ok (.iadd, 1) := by decide +kernel
theorem dX12_learned_49 : decode cX12_learned 49 = .ok (.iaload, 1) := by decide +kernel
theorem dX12_learned_50 : decode cX12_learned 50 = .ok (.iadd, 1) := by decide +kernel
theorem dX12_learned_51 : decode cX12_learned 51 = .ok (.iaload, 1) := by decide +kernel
theorem dX12_learned_52 : decode cX12_learned 52 = .ok (.iconst 1, 1) := by decide +kernel
theorem dX12_learned_53 : decode cX12_learned 53 = .ok (.isub, 1) := by decide +kernel
theorem dX12_learned_54 : decode cX12_learned 54 = .ok (.istore_n 3, 1) := by decide +kernel
theorem dX12_learned_55 : decode cX12_learned 55 = .ok (.iload_n 2, 1) := by decide +kernel
theorem dX12_learned_56 : decode cX12_learned 56 = .ok (.iload_n 3, 1) := by decide +kernel
theorem dX12_learned_57 : decode cX12_learned 57 = .ok (.if_icmp .ge 7, 3) := by decide +kernel
theorem dX12_learned_60 : decode cX12_learned 60 = .ok (.iload_n 2, 1) := by decide +kernel
theorem dX12_learned_61 : decode cX12_learned 61 = .ok (.goto 4, 3) := by decide +kernel
theorem dX12_learned_64 : decode cX12_learned 64 = .ok (.iload_n 3, 1) := by decide +kernel
theorem dX12_learned_65 : decode cX12_learned 65 = .ok (.ireturn, 1) := by decide +kernel
theorem dX12_wholesNow_0 : decode cX12_wholesNow 0 = .ok (.aload_n 0, 1) := by decide +kernel
theorem dX12_wholesNow_1 : decode cX12_wholesNow 1 = .ok (.getfield 20, 3) := by decide +kernel
theorem dX12_wholesNow_4 : decode cX12_wholesNow 4 = .ok (.bipush 78, 2) := by decide +kernel
theorem dX12_wholesNow_6 : decode cX12_wholesNow 6 = .ok (.aload_n 0, 1) := by decide +kernel
theorem dX12_wholesNow_7 : decode cX12_wholesNow 7 = .ok (.getfield 20, 3) := by decide +kernel
theorem dX12_wholesNow_10 : decode cX12_wholesNow 10 = .ok (.bipush 120, 2) := by decide +kernel
theorem dX12_wholesNow_12 : decode cX12_wholesNow 12 = .ok (.iload_n 1, 1) := by decide +kernel
theorem dX12_wholesNow_13 : decode cX12_wholesNow 13 = .ok (.iadd, 1) := by decide +kernel
theorem dX12_wholesNow_14 : decode cX12_wholesNow 14 = .ok (.iaload, 1) := by decide +kernel
theorem dX12_wholesNow_15 : decode cX12_wholesNow 15 = .ok (.iadd, 1) := by decide +kernel
theorem dX12_wholesNow_16 : decode cX12_wholesNow 16 = .ok (.iaload, 1) := by decide +kernel
theorem dX12_wholesNow_17 : decode cX12_wholesNow 17 = .ok (.aload_n 0, 1) := by decide +kernel
theorem dX12_wholesNow_18 : decode cX12_wholesNow 18 = .ok (.iload_n 1, 1) := by decide +kernel
theorem dX12_wholesNow_19 : decode cX12_wholesNow 19 = .ok (.invokevirtual 312, 3) := by decide +kernel
theorem dX12_wholesNow_22 : decode cX12_wholesNow 22 = .ok (.isub, 1) := by decide +kernel
theorem dX12_wholesNow_23 : decode cX12_wholesNow 23 = .ok (.ireturn, 1) := by decide +kernel
theorem dX12_sayer_0 : decode cX12_sayer 0 = .ok (.aload_n 0, 1) := by decide +kernel
theorem dX12_sayer_1 : decode cX12_sayer 1 = .ok (.iconst 0, 1) := by decide +kernel
theorem dX12_sayer_2 : decode cX12_sayer 2 = .ok (.putfield 103, 3) := by decide +kernel
theorem dX12_sayer_5 : decode cX12_sayer 5 = .ok (.aload_n 0, 1) := by decide +kernel
theorem dX12_sayer_6 : decode cX12_sayer 6 = .ok (.iload_n 1, 1) := by decide +kernel
theorem dX12_sayer_7 : decode cX12_sayer 7 = .ok (.invokevirtual 315, 3) := by decide +kernel
theorem dX12_sayer_10 : decode cX12_sayer 10 = .ok (.ifCond .ne 7, 3) := by decide +kernel
theorem dX12_sayer_13 : decode cX12_sayer 13 = .ok (.sipush (-1000), 3) := by decide +kernel
theorem dX12_sayer_16 : decode cX12_sayer 16 = .ok (.ireturn, 1) := by decide +kernel
theorem dX12_sayer_17 : decode cX12_sayer 17 = .ok (.iload_n 2, 1) := by decide +kernel
theorem dX12_sayer_18 : decode cX12_sayer 18 = .ok (.tableswitch 152 0 9 #[54, 64, 74, 85, 91, 97, 104, 111, 130, 141], 54) := by decide +kernel
theorem dX12_sayer_72 : decode cX12_sayer 72 = .ok (.aload_n 0, 1) := by decide +kernel
theorem dX12_sayer_73 : decode cX12_sayer 73 = .ok (.getfield 20, 3) := by decide +kernel
theorem dX12_sayer_76 : decode cX12_sayer 76 = .ok (.bipush 120, 2) := by decide +kernel
theorem dX12_sayer_78 : decode cX12_sayer 78 = .ok (.iload_n 1, 1) := by decide +kernel
theorem dX12_sayer_79 : decode cX12_sayer 79 = .ok (.iadd, 1) := by decide +kernel
theorem dX12_sayer_80 : decode cX12_sayer 80 = .ok (.iaload, 1) := by decide +kernel
theorem dX12_sayer_81 : decode cX12_sayer 81 = .ok (.ireturn, 1) := by decide +kernel
theorem dX12_sayer_82 : decode cX12_sayer 82 = .ok (.aload_n 0, 1) := by decide +kernel
theorem dX12_sayer_83 : decode cX12_sayer 83 = .ok (.getfield 20, 3) := by decide +kernel
theorem dX12_sayer_86 : decode cX12_sayer 86 = .ok (.bipush 126, 2) := by decide +kernel
theorem dX12_sayer_88 : decode cX12_sayer 88 = .ok (.iload_n 1, 1) := by decide +kernel
theorem dX12_sayer_89 : decode cX12_sayer 89 = .ok (.iadd, 1) := by decide +kernel
theorem dX12_sayer_90 : decode cX12_sayer 90 = .ok (.iaload, 1) := by decide +kernel
theorem dX12_sayer_91 : decode cX12_sayer 91 = .ok (.ireturn, 1) := by decide +kernel
theorem dX12_sayer_92 : decode cX12_sayer 92 = .ok (.aload_n 0, 1) := by decide +kernel
theorem dX12_sayer_93 : decode cX12_sayer 93 = .ok (.getfield 20, 3) := by decide +kernel
theorem dX12_sayer_96 : decode cX12_sayer 96 = .ok (.sipush 132, 3) := by decide +kernel
theorem dX12_sayer_99 : decode cX12_sayer 99 = .ok (.iload_n 1, 1) := by decide +kernel
theorem dX12_sayer_100 : decode cX12_sayer 100 = .ok (.iadd, 1) := by decide +kernel
theorem dX12_sayer_101 : decode cX12_sayer 101 = .ok (.iaload, 1) := by decide +kernel
theorem dX12_sayer_102 : decode cX12_sayer 102 = .ok (.ireturn, 1) := by decide +kernel
theorem dX12_sayer_103 : decode cX12_sayer 103 = .ok (.aload_n 0, 1) := by decide +kernel
theorem dX12_sayer_104 : decode cX12_sayer 104 = .ok (.iload_n 1, 1) := by decide +kernel
theorem dX12_sayer_105 : decode cX12_sayer 105 = .ok (.invokevirtual 318, 3) := by decide +kernel
theorem dX12_sayer_108 : decode cX12_sayer 108 = .ok (.ireturn, 1) := by decide +kernel
theorem dX12_sayer_109 : decode cX12_sayer 109 = .ok (.aload_n 0, 1) := by decide +kernel
theorem dX12_sayer_110 : decode cX12_sayer 110 = .ok (.iload_n 1, 1) := by decide +kernel
theorem dX12_sayer_111 : decode cX12_sayer 111 = .ok (.invokevirtual 312, 3) := by decide +kernel
theorem dX12_sayer_114 : decode cX12_sayer 114 = .ok (.ireturn, 1) := by decide +kernel
theorem dX12_sayer_115 : decode cX12_sayer 115 = .ok (.aload_n 0, 1) := by decide +kernel
theorem dX12_sayer_116 : decode cX12_sayer 116 = .ok (.getfield 29, 3) := by decide +kernel
theorem dX12_sayer_119 : decode cX12_sayer 119 = .ok (.iload_n 1, 1) := by decide +kernel
theorem dX12_sayer_120 : decode cX12_sayer 120 = .ok (.iaload, 1) := by decide +kernel
theorem dX12_sayer_121 : decode cX12_sayer 121 = .ok (.ireturn, 1) := by decide +kernel
theorem dX12_sayer_122 : decode cX12_sayer 122 = .ok (.aload_n 0, 1) := by decide +kernel
theorem dX12_sayer_123 : decode cX12_sayer 123 = .ok (.getfield 32, 3) := by decide +kernel
theorem dX12_sayer_126 : decode cX12_sayer 126 = .ok (.iload_n 1, 1) := by decide +kernel
theorem dX12_sayer_127 : decode cX12_sayer 127 = .ok (.iaload, 1) := by decide +kernel
theorem dX12_sayer_128 : decode cX12_sayer 128 = .ok (.ireturn, 1) := by decide +kernel
theorem dX12_sayer_129 : decode cX12_sayer 129 = .ok (.aload_n 0, 1) := by decide +kernel
theorem dX12_sayer_130 : decode cX12_sayer 130 = .ok (.aload_n 0, 1) := by decide +kernel
theorem dX12_sayer_131 : decode cX12_sayer 131 = .ok (.getfield 20, 3) := by decide +kernel
theorem dX12_sayer_134 : decode cX12_sayer 134 = .ok (.bipush 120, 2) := by decide +kernel
theorem dX12_sayer_136 : decode cX12_sayer 136 = .ok (.iload_n 1, 1) := by decide +kernel
theorem dX12_sayer_137 : decode cX12_sayer 137 = .ok (.iadd, 1) := by decide +kernel
theorem dX12_sayer_138 : decode cX12_sayer 138 = .ok (.iaload, 1) := by decide +kernel
theorem dX12_sayer_139 : decode cX12_sayer 139 = .ok (.aload_n 0, 1) := by decide +kernel
theorem dX12_sayer_140 : decode cX12_sayer 140 = .ok (.iload_n 1, 1) := by decide +kernel
theorem dX12_sayer_141 : decode cX12_sayer 141 = .ok (.invokevirtual 321, 3) := by decide +kernel
theorem dX12_sayer_144 : decode cX12_sayer 144 = .ok (.invokevirtual 324, 3) := by decide +kernel
theorem dX12_sayer_147 : decode cX12_sayer 147 = .ok (.ireturn, 1) := by decide +kernel
theorem dX12_sayer_148 : decode cX12_sayer 148 = .ok (.aload_n 0, 1) := by decide +kernel
theorem dX12_sayer_149 : decode cX12_sayer 149 = .ok (.getfield 20, 3) := by decide +kernel
theorem dX12_sayer_152 : decode cX12_sayer 152 = .ok (.sipush 150, 3) := by decide +kernel
theorem dX12_sayer_155 : decode cX12_sayer 155 = .ok (.iload_n 1, 1) := by decide +kernel
theorem dX12_sayer_156 : decode cX12_sayer 156 = .ok (.iadd, 1) := by decide +kernel
theorem dX12_sayer_157 : decode cX12_sayer 157 = .ok (.iaload, 1) := by decide +kernel
theorem dX12_sayer_158 : decode cX12_sayer 158 = .ok (.ireturn, 1) := by decide +kernel
theorem dX12_sayer_159 : decode cX12_sayer 159 = .ok (.aload_n 0, 1) := by decide +kernel
theorem dX12_sayer_160 : decode cX12_sayer 160 = .ok (.getfield 20, 3) := by decide +kernel
theorem dX12_sayer_163 : decode cX12_sayer 163 = .ok (.sipush 156, 3) := by decide +kernel
theorem dX12_sayer_166 : decode cX12_sayer 166 = .ok (.iload_n 1, 1) := by decide +kernel
theorem dX12_sayer_167 : decode cX12_sayer 167 = .ok (.iadd, 1) := by decide +kernel
theorem dX12_sayer_168 : decode cX12_sayer 168 = .ok (.iaload, 1) := by decide +kernel
theorem dX12_sayer_169 : decode cX12_sayer 169 = .ok (.ireturn, 1) := by decide +kernel
theorem dX12_sayer_170 : decode cX12_sayer 170 = .ok (.sipush (-1000), 3) := by decide +kernel
theorem dX12_sayer_173 : decode cX12_sayer 173 = .ok (.ireturn, 1) := by decide +kernel
theorem dX12_rest_0 : decode cX12_rest 0 = .ok (.aload_n 0, 1) := by decide +kernel
theorem dX12_rest_1 : decode cX12_rest 1 = .ok (.invokevirtual 211, 3) := by decide +kernel
theorem dX12_rest_4 : decode cX12_rest 4 = .ok (.aload_n 0, 1) := by decide +kernel
theorem dX12_rest_5 : decode cX12_rest 5 = .ok (.iload_n 1, 1) := by decide +kernel
theorem dX12_rest_6 : decode cX12_rest 6 = .ok (.invokevirtual 315, 3) := by decide +kernel
theorem dX12_rest_9 : decode cX12_rest 9 = .ok (.ifCond .ne 9, 3) := by decide +kernel
theorem dX12_rest_12 : decode cX12_rest 12 = .ok (.aload_n 0, 1) := by decide +kernel
theorem dX12_rest_13 : decode cX12_rest 13 = .ok (.iconst 1, 1) := by decide +kernel
theorem dX12_rest_14 : decode cX12_rest 14 = .ok (.invokevirtual 327, 3) := by decide +kernel
theorem dX12_rest_17 : decode cX12_rest 17 = .ok (.ireturn, 1) := by decide +kernel
theorem dX12_rest_18 : decode cX12_rest 18 = .ok (.aload_n 0, 1) := by decide +kernel
theorem dX12_rest_19 : decode cX12_rest 19 = .ok (.getfield 32, 3) := by decide +kernel
theorem dX12_rest_22 : decode cX12_rest 22 = .ok (.iload_n 1, 1) := by decide +kernel
theorem dX12_rest_23 : decode cX12_rest 23 = .ok (.iconst 0, 1) := by decide +kernel
theorem dX12_rest_24 : decode cX12_rest 24 = .ok (.iastore, 1) := by decide +kernel
theorem dX12_rest_25 : decode cX12_rest 25 = .ok (.iconst 1, 1) := by decide +kernel
theorem dX12_rest_26 : decode cX12_rest 26 = .ok (.ireturn, 1) := by decide +kernel
theorem dX12_without_0 : decode cX12_without 0 = .ok (.iload_n 0, 1) := by decide +kernel
theorem dX12_without_1 : decode cX12_without 1 = .ok (.ifCond .ge 8, 3) := by decide +kernel
theorem dX12_without_4 : decode cX12_without 4 = .ok (.iload_n 0, 1) := by decide +kernel
theorem dX12_without_5 : decode cX12_without 5 = .ok (.ineg, 1) := by decide +kernel
theorem dX12_without_6 : decode cX12_without 6 = .ok (.goto 4, 3) := by decide +kernel
theorem dX12_without_9 : decode cX12_without 9 = .ok (.iload_n 0, 1) := by decide +kernel
theorem dX12_without_10 : decode cX12_without 10 = .ok (.ireturn, 1) := by decide +kernel
theorem dX12_ordered_0 : decode cX12_ordered 0 = .ok (.iload_n 0, 1) := by decide +kernel
theorem dX12_ordered_1 : decode cX12_ordered 1 = .ok (.ifCond .le 7, 3) := by decide +kernel
theorem dX12_ordered_4 : decode cX12_ordered 4 = .ok (.iconst 1, 1) := by decide +kernel
theorem dX12_ordered_5 : decode cX12_ordered 5 = .ok (.goto 12, 3) := by decide +kernel
theorem dX12_ordered_8 : decode cX12_ordered 8 = .ok (.iload_n 0, 1) := by decide +kernel
theorem dX12_ordered_9 : decode cX12_ordered 9 = .ok (.ifCond .ge 7, 3) := by decide +kernel
theorem dX12_ordered_12 : decode cX12_ordered 12 = .ok (.iconst 0, 1) := by decide +kernel
theorem dX12_ordered_13 : decode cX12_ordered 13 = .ok (.goto 4, 3) := by decide +kernel
theorem dX12_ordered_16 : decode cX12_ordered 16 = .ok (.iconst 2, 1) := by decide +kernel
theorem dX12_ordered_17 : decode cX12_ordered 17 = .ok (.ireturn, 1) := by decide +kernel
theorem dX12_matched_0 : decode cX12_matched 0 = .ok (.iconst 1, 1) := by decide +kernel
theorem dX12_matched_1 : decode cX12_matched 1 = .ok (.istore_n 3, 1) := by decide +kernel
theorem dX12_matched_2 : decode cX12_matched 2 = .ok (.iconst 2, 1) := by decide +kernel
theorem dX12_matched_3 : decode cX12_matched 3 = .ok (.istore 4, 2) := by decide +kernel
theorem dX12_matched_5 : decode cX12_matched 5 = .ok (.iload 4, 2) := by decide +kernel
theorem dX12_matched_7 : decode cX12_matched 7 = .ok (.sipush 401, 3) := by decide +kernel
theorem dX12_matched_10 : decode cX12_matched 10 = .ok (.if_icmp .ge 38, 3) := by decide +kernel
theorem dX12_matched_13 : decode cX12_matched 13 = .ok (.aload_n 0, 1) := by decide +kernel
theorem dX12_matched_14 : decode cX12_matched 14 = .ok (.iload_n 1, 1) := by decide +kernel
theorem dX12_matched_15 : decode cX12_matched 15 = .ok (.iload 4, 2) := by decide +kernel
theorem dX12_matched_17 : decode cX12_matched 17 = .ok (.invokevirtual 330, 3) := by decide +kernel
theorem dX12_matched_20 : decode cX12_matched 20 = .ok (.iload_n 2, 1) := by decide +kernel
theorem dX12_matched_21 : decode cX12_matched 21 = .ok (.isub, 1) := by decide +kernel
theorem dX12_matched_22 : decode cX12_matched 22 = .ok (.invokestatic 333, 3) := by decide +kernel
theorem dX12_matched_25 : decode cX12_matched 25 = .ok (.aload_n 0, 1) := by decide +kernel
theorem dX12_matched_26 : decode cX12_matched 26 = .ok (.iload_n 1, 1) := by decide +kernel
theorem dX12_matched_27 : decode cX12_matched 27 = .ok (.iload_n 3, 1) := by decide +kernel
theorem dX12_matched_28 : decode cX12_matched 28 = .ok (.invokevirtual 330, 3) := by decide +kernel
theorem dX12_matched_31 : decode cX12_matched 31 = .ok (.iload_n 2, 1) := by decide +kernel
theorem dX12_matched_32 : decode cX12_matched 32 = .ok (.isub, 1) := by decide +kernel
theorem dX12_matched_33 : decode cX12_matched 33 = .ok (.invokestatic 333, 3) := by decide +kernel
theorem dX12_matched_36 : decode cX12_matched 36 = .ok (.if_icmp .ge 6, 3) := by decide +kernel
theorem dX12_matched_39 : decode cX12_matched 39 = .ok (.iload 4, 2) := by decide +kernel
theorem dX12_matched_41 : decode cX12_matched 41 = .ok (.istore_n 3, 1) := by decide +kernel
theorem dX12_matched_42 : decode cX12_matched 42 = .ok (.iinc 4 1, 3) := by decide +kernel
theorem dX12_matched_45 : decode cX12_matched 45 = .ok (.goto (-40), 3) := by decide +kernel
theorem dX12_matched_48 : decode cX12_matched 48 = .ok (.iload_n 3, 1) := by decide +kernel
theorem dX12_matched_49 : decode cX12_matched 49 = .ok (.ireturn, 1) := by decide +kernel
theorem dX12_named_0 : decode cX12_named 0 = .ok (.iload_n 2, 1) := by decide +kernel
theorem dX12_named_1 : decode cX12_named 1 = .ok (.ifCond .ge 7, 3) := by decide +kernel
theorem dX12_named_4 : decode cX12_named 4 = .ok (.iconst 0, 1) := by decide +kernel
theorem dX12_named_5 : decode cX12_named 5 = .ok (.goto 4, 3) := by decide +kernel
theorem dX12_named_8 : decode cX12_named 8 = .ok (.iload_n 2, 1) := by decide +kernel
theorem dX12_named_9 : decode cX12_named 9 = .ok (.istore_n 3, 1) := by decide +kernel
theorem dX12_named_10 : decode cX12_named 10 = .ok (.aload_n 0, 1) := by decide +kernel
theorem dX12_named_11 : decode cX12_named 11 = .ok (.getfield 20, 3) := by decide +kernel
theorem dX12_named_14 : decode cX12_named 14 = .ok (.sipush 156, 3) := by decide +kernel
theorem dX12_named_17 : decode cX12_named 17 = .ok (.iload_n 1, 1) := by decide +kernel
theorem dX12_named_18 : decode cX12_named 18 = .ok (.iadd, 1) := by decide +kernel
theorem dX12_named_19 : decode cX12_named 19 = .ok (.iaload, 1) := by decide +kernel
theorem dX12_named_20 : decode cX12_named 20 = .ok (.istore 4, 2) := by decide +kernel
theorem dX12_named_22 : decode cX12_named 22 = .ok (.iload 4, 2) := by decide +kernel
theorem dX12_named_24 : decode cX12_named 24 = .ok (.ifCond .ne 5, 3) := by decide +kernel
theorem dX12_named_27 : decode cX12_named 27 = .ok (.iload_n 3, 1) := by decide +kernel
theorem dX12_named_28 : decode cX12_named 28 = .ok (.ireturn, 1) := by decide +kernel
theorem dX12_named_29 : decode cX12_named 29 = .ok (.aload_n 0, 1) := by decide +kernel
theorem dX12_named_30 : decode cX12_named 30 = .ok (.getfield 20, 3) := by decide +kernel
theorem dX12_named_33 : decode cX12_named 33 = .ok (.sipush 162, 3) := by decide +kernel
theorem dX12_named_36 : decode cX12_named 36 = .ok (.bipush 6, 2) := by decide +kernel
theorem dX12_named_38 : decode cX12_named 38 = .ok (.iload_n 1, 1) := by decide +kernel
theorem dX12_named_39 : decode cX12_named 39 = .ok (.imul, 1) := by decide +kernel
theorem dX12_named_40 : decode cX12_named 40 = .ok (.iadd, 1) := by decide +kernel
theorem dX12_named_41 : decode cX12_named 41 = .ok (.iaload, 1) := by decide +kernel
theorem dX12_named_42 : decode cX12_named 42 = .ok (.istore 5, 2) := by decide +kernel
theorem dX12_named_44 : decode cX12_named 44 = .ok (.iconst 1, 1) := by decide +kernel
theorem dX12_named_45 : decode cX12_named 45 = .ok (.istore 6, 2) := by decide +kernel
theorem dX12_named_47 : decode cX12_named 47 = .ok (.iload 6, 2) := by decide +kernel
theorem dX12_named_49 : decode cX12_named 49 = .ok (.iload 4, 2) := by decide +kernel
theorem dX12_named_51 : decode cX12_named 51 = .ok (.if_icmp .ge 70, 3) := by decide +kernel
theorem dX12_named_54 : decode cX12_named 54 = .ok (.aload_n 0, 1) := by decide +kernel
theorem dX12_named_55 : decode cX12_named 55 = .ok (.getfield 20, 3) := by decide +kernel
theorem dX12_named_58 : decode cX12_named 58 = .ok (.sipush 162, 3) := by decide +kernel
theorem dX12_named_61 : decode cX12_named 61 = .ok (.bipush 6, 2) := by decide +kernel
theorem dX12_named_63 : decode cX12_named 63 = .ok (.iload_n 1, 1) := by decide +kernel
theorem dX12_named_64 : decode cX12_named 64 = .ok (.imul, 1) := by decide +kernel
theorem dX12_named_65 : decode cX12_named 65 = .ok (.iadd, 1) := by decide +kernel
theorem dX12_named_66 : decode cX12_named 66 = .ok (.iload 6, 2) := by decide +kernel
theorem dX12_named_68 : decode cX12_named 68 = .ok (.iadd, 1) := by decide +kernel
theorem dX12_named_69 : decode cX12_named 69 = .ok (.iaload, 1) := by decide +kernel
theorem dX12_named_70 : decode cX12_named 70 = .ok (.istore 7, 2) := by decide +kernel
theorem dX12_named_72 : decode cX12_named 72 = .ok (.iload 7, 2) := by decide +kernel
theorem dX12_named_74 : decode cX12_named 74 = .ok (.iload_n 3, 1) := by decide +kernel
theorem dX12_named_75 : decode cX12_named 75 = .ok (.isub, 1) := by decide +kernel
theorem dX12_named_76 : decode cX12_named 76 = .ok (.invokestatic 333, 3) := by decide +kernel
theorem dX12_named_79 : decode cX12_named 79 = .ok (.iload 5, 2) := by decide +kernel
theorem dX12_named_81 : decode cX12_named 81 = .ok (.iload_n 3, 1) := by decide +kernel
theorem dX12_named_82 : decode cX12_named 82 = .ok (.isub, 1) := by decide +kernel
theorem dX12_named_83 : decode cX12_named 83 = .ok (.invokestatic 333, 3) := by decide +kernel
theorem dX12_named_86 : decode cX12_named 86 = .ok (.isub, 1) := by decide +kernel
theorem dX12_named_87 : decode cX12_named 87 = .ok (.istore 8, 2) := by decide +kernel
theorem dX12_named_89 : decode cX12_named 89 = .ok (.iload 8, 2) := by decide +kernel
theorem dX12_named_91 : decode cX12_named 91 = .ok (.ifCond .lt 15, 3) := by decide +kernel
theorem dX12_named_94 : decode cX12_named 94 = .ok (.iload 8, 2) := by decide +kernel
theorem dX12_named_96 : decode cX12_named 96 = .ok (.ifCond .ne 15, 3) := by decide +kernel
theorem dX12_named_99 : decode cX12_named 99 = .ok (.iload 7, 2) := by decide +kernel
theorem dX12_named_101 : decode cX12_named 101 = .ok (.iload 5, 2) := by decide +kernel
theorem dX12_named_103 : decode cX12_named 103 = .ok (.if_icmp .ge 8, 3) := by decide +kernel
theorem dX12_named_106 : decode cX12_named 106 = .ok (.iload 7, 2) := by decide +kernel
theorem dX12_named_108 : decode cX12_named 108 = .ok (.goto 5, 3) := by decide +kernel
theorem dX12_named_111 : decode cX12_named 111 = .ok (.iload 5, 2) := by decide +kernel
theorem dX12_named_113 : decode cX12_named 113 = .ok (.istore 5, 2) := by decide +kernel
theorem dX12_named_115 : decode cX12_named 115 = .ok (.iinc 6 1, 3) := by decide +kernel
theorem dX12_named_118 : decode cX12_named 118 = .ok (.goto (-71), 3) := by decide +kernel
theorem dX12_named_121 : decode cX12_named 121 = .ok (.iload 5, 2) := by decide +kernel
theorem dX12_named_123 : decode cX12_named 123 = .ok (.ireturn, 1) := by decide +kernel
theorem dX12_oddOne_0 : decode cX12_oddOne 0 = .ok (.iconst 2, 1) := by decide +kernel
theorem dX12_oddOne_1 : decode cX12_oddOne 1 = .ok (.iload_n 0, 1) := by decide +kernel
theorem dX12_oddOne_2 : decode cX12_oddOne 2 = .ok (.imul, 1) := by decide +kernel
theorem dX12_oddOne_3 : decode cX12_oddOne 3 = .ok (.iload_n 1, 1) := by decide +kernel
theorem dX12_oddOne_4 : decode cX12_oddOne 4 = .ok (.isub, 1) := by decide +kernel
theorem dX12_oddOne_5 : decode cX12_oddOne 5 = .ok (.iload_n 2, 1) := by decide +kernel
theorem dX12_oddOne_6 : decode cX12_oddOne 6 = .ok (.isub, 1) := by decide +kernel
theorem dX12_oddOne_7 : decode cX12_oddOne 7 = .ok (.invokestatic 333, 3) := by decide +kernel
theorem dX12_oddOne_10 : decode cX12_oddOne 10 = .ok (.istore_n 3, 1) := by decide +kernel
theorem dX12_oddOne_11 : decode cX12_oddOne 11 = .ok (.iconst 2, 1) := by decide +kernel
theorem dX12_oddOne_12 : decode cX12_oddOne 12 = .ok (.iload_n 1, 1) := by decide +kernel
theorem dX12_oddOne_13 : decode cX12_oddOne 13 = .ok (.imul, 1) := by decide +kernel
theorem dX12_oddOne_14 : decode cX12_oddOne 14 = .ok (.iload_n 0, 1) := by decide +kernel
theorem dX12_oddOne_15 : decode cX12_oddOne 15 = .ok (.isub, 1) := by decide +kernel
theorem dX12_oddOne_16 : decode cX12_oddOne 16 = .ok (.iload_n 2, 1) := by decide +kernel
theorem dX12_oddOne_17 : decode cX12_oddOne 17 = .ok (.isub, 1) := by decide +kernel
theorem dX12_oddOne_18 : decode cX12_oddOne 18 = .ok (.invokestatic 333, 3) := by decide +kernel
theorem dX12_oddOne_21 : decode cX12_oddOne 21 = .ok (.istore 4, 2) := by decide +kernel
theorem dX12_oddOne_23 : decode cX12_oddOne 23 = .ok (.iconst 2, 1) := by decide +kernel
theorem dX12_oddOne_24 : decode cX12_oddOne 24 = .ok (.iload_n 2, 1) := by decide +kernel
theorem dX12_oddOne_25 : decode cX12_oddOne 25 = .ok (.imul, 1) := by decide +kernel
theorem dX12_oddOne_26 : decode cX12_oddOne 26 = .ok (.iload_n 0, 1) := by decide +kernel
theorem dX12_oddOne_27 : decode cX12_oddOne 27 = .ok (.isub, 1) := by decide +kernel
theorem dX12_oddOne_28 : decode cX12_oddOne 28 = .ok (.iload_n 1, 1) := by decide +kernel
theorem dX12_oddOne_29 : decode cX12_oddOne 29 = .ok (.isub, 1) := by decide +kernel
theorem dX12_oddOne_30 : decode cX12_oddOne 30 = .ok (.invokestatic 333, 3) := by decide +kernel
theorem dX12_oddOne_33 : decode cX12_oddOne 33 = .ok (.istore 5, 2) := by decide +kernel
theorem dX12_oddOne_35 : decode cX12_oddOne 35 = .ok (.iload_n 3, 1) := by decide +kernel
theorem dX12_oddOne_36 : decode cX12_oddOne 36 = .ok (.iload 4, 2) := by decide +kernel
theorem dX12_oddOne_38 : decode cX12_oddOne 38 = .ok (.if_icmp .lt 13, 3) := by decide +kernel
theorem dX12_oddOne_41 : decode cX12_oddOne 41 = .ok (.iload_n 3, 1) := by decide +kernel
theorem dX12_oddOne_42 : decode cX12_oddOne 42 = .ok (.iload 5, 2) := by decide +kernel
theorem dX12_oddOne_44 : decode cX12_oddOne 44 = .ok (.if_icmp .lt 7, 3) := by decide +kernel
theorem dX12_oddOne_47 : decode cX12_oddOne 47 = .ok (.iconst 0, 1) := by decide +kernel
theorem dX12_oddOne_48 : decode cX12_oddOne 48 = .ok (.goto 15, 3) := by decide +kernel
theorem dX12_oddOne_51 : decode cX12_oddOne 51 = .ok (.iload 4, 2) := by decide +kernel
theorem dX12_oddOne_53 : decode cX12_oddOne 53 = .ok (.iload 5, 2) := by decide +kernel
theorem dX12_oddOne_55 : decode cX12_oddOne 55 = .ok (.if_icmp .lt 7, 3) := by decide +kernel
theorem dX12_oddOne_58 : decode cX12_oddOne 58 = .ok (.iconst 1, 1) := by decide +kernel
theorem dX12_oddOne_59 : decode cX12_oddOne 59 = .ok (.goto 4, 3) := by decide +kernel
theorem dX12_oddOne_62 : decode cX12_oddOne 62 = .ok (.iconst 2, 1) := by decide +kernel
theorem dX12_oddOne_63 : decode cX12_oddOne 63 = .ok (.ireturn, 1) := by decide +kernel
theorem dX12_feelings_0 : decode cX12_feelings 0 = .ok (.iload_n 0, 1) := by decide +kernel
theorem dX12_feelings_1 : decode cX12_feelings 1 = .ok (.iconst 2, 1) := by decide +kernel
theorem dX12_feelings_2 : decode cX12_feelings 2 = .ok (.if_icmp .ne 7, 3) := by decide +kernel
theorem dX12_feelings_5 : decode cX12_feelings 5 = .ok (.iconst 3, 1) := by decide +kernel
theorem dX12_feelings_6 : decode cX12_feelings 6 = .ok (.goto 17, 3) := by decide +kernel
theorem dX12_feelings_9 : decode cX12_feelings 9 = .ok (.iload_n 0, 1) := by decide +kernel
theorem dX12_feelings_10 : decode cX12_feelings 10 = .ok (.ifCond .eq 8, 3) := by decide +kernel
theorem dX12_feelings_13 : decode cX12_feelings 13 = .ok (.iload_n 0, 1) := by decide +kernel
theorem dX12_feelings_14 : decode cX12_feelings 14 = .ok (.iconst 5, 1) := by decide +kernel
theorem dX12_feelings_15 : decode cX12_feelings 15 = .ok (.if_icmp .ne 7, 3) := by decide +kernel
theorem dX12_feelings_18 : decode cX12_feelings 18 = .ok (.iconst 2, 1) := by decide +kernel
theorem dX12_feelings_19 : decode cX12_feelings 19 = .ok (.goto 4, 3) := by decide +kernel
theorem dX12_feelings_22 : decode cX12_feelings 22 = .ok (.iconst 1, 1) := by decide +kernel
theorem dX12_feelings_23 : decode cX12_feelings 23 = .ok (.ireturn, 1) := by decide +kernel
theorem dX12_levelAt_0 : decode cX12_levelAt 0 = .ok (.iload_n 2, 1) := by decide +kernel
theorem dX12_levelAt_1 : decode cX12_levelAt 1 = .ok (.iconst 2, 1) := by decide +kernel
theorem dX12_levelAt_2 : decode cX12_levelAt 2 = .ok (.if_icmp .ne 19, 3) := by decide +kernel
theorem dX12_levelAt_5 : decode cX12_levelAt 5 = .ok (.iload 6, 2) := by decide +kernel
theorem dX12_levelAt_7 : decode cX12_levelAt 7 = .ok (.iload 5, 2) := by decide +kernel
theorem dX12_levelAt_9 : decode cX12_levelAt 9 = .ok (.if_icmp .ne 8, 3) := by decide +kernel
theorem dX12_levelAt_12 : decode cX12_levelAt 12 = .ok (.iload 4, 2) := by decide +kernel
theorem dX12_levelAt_14 : decode cX12_levelAt 14 = .ok (.goto 18, 3) := by decide +kernel
theorem dX12_levelAt_17 : decode cX12_levelAt 17 = .ok (.iload_n 3, 1) := by decide +kernel
theorem dX12_levelAt_18 : decode cX12_levelAt 18 = .ok (.goto 14, 3) := by decide +kernel
theorem dX12_levelAt_21 : decode cX12_levelAt 21 = .ok (.iload 6, 2) := by decide +kernel
theorem dX12_levelAt_23 : decode cX12_levelAt 23 = .ok (.ifCond .ne 7, 3) := by decide +kernel
theorem dX12_levelAt_26 : decode cX12_levelAt 26 = .ok (.iload_n 3, 1) := by decide +kernel
theorem dX12_levelAt_27 : decode cX12_levelAt 27 = .ok (.goto 5, 3) := by decide +kernel
theorem dX12_levelAt_30 : decode cX12_levelAt 30 = .ok (.iload 4, 2) := by decide +kernel
theorem dX12_levelAt_32 : decode cX12_levelAt 32 = .ok (.istore 7, 2) := by decide +kernel
theorem dX12_levelAt_34 : decode cX12_levelAt 34 = .ok (.aload_n 0, 1) := by decide +kernel
theorem dX12_levelAt_35 : decode cX12_levelAt 35 = .ok (.iload_n 1, 1) := by decide +kernel
theorem dX12_levelAt_36 : decode cX12_levelAt 36 = .ok (.iload 7, 2) := by decide +kernel
theorem dX12_levelAt_38 : decode cX12_levelAt 38 = .ok (.invokevirtual 330, 3) := by decide +kernel
theorem dX12_levelAt_41 : decode cX12_levelAt 41 = .ok (.ireturn, 1) := by decide +kernel
theorem dX12_answered_0 : decode cX12_answered 0 = .ok (.iload 6, 2) := by decide +kernel
theorem dX12_answered_2 : decode cX12_answered 2 = .ok (.aload_n 0, 1) := by decide +kernel
theorem dX12_answered_3 : decode cX12_answered 3 = .ok (.getfield 20, 3) := by decide +kernel
theorem dX12_answered_6 : decode cX12_answered 6 = .ok (.sipush 132, 3) := by decide +kernel
theorem dX12_answered_9 : decode cX12_answered 9 = .ok (.iload_n 1, 1) := by decide +kernel
theorem dX12_answered_10 : decode cX12_answered 10 = .ok (.iadd, 1) := by decide +kernel
theorem dX12_answered_11 : decode cX12_answered 11 = .ok (.iaload, 1) := by decide +kernel
theorem dX12_answered_12 : decode cX12_answered 12 = .ok (.iadd, 1) := by decide +kernel
theorem dX12_answered_13 : decode cX12_answered 13 = .ok (.iload 8, 2) := by decide +kernel
theorem dX12_answered_15 : decode cX12_answered 15 = .ok (.iadd, 1) := by decide +kernel
theorem dX12_answered_16 : decode cX12_answered 16 = .ok (.iload 5, 2) := by decide +kernel
theorem dX12_answered_18 : decode cX12_answered 18 = .ok (.isub, 1) := by decide +kernel
theorem dX12_answered_19 : decode cX12_answered 19 = .ok (.istore 9, 2) := by decide +kernel
theorem dX12_answered_21 : decode cX12_answered 21 = .ok (.iload_n 2, 1) := by decide +kernel
theorem dX12_answered_22 : decode cX12_answered 22 = .ok (.tableswitch 112 0 4 #[34, 63, 86, 96, 104], 34) := by decide +kernel
theorem dX12_answered_56 : decode cX12_answered 56 = .ok (.iload 9, 2) := by decide +kernel
theorem dX12_answered_58 : decode cX12_answered 58 = .ok (.ifCond .ne 21, 3) := by decide +kernel
theorem dX12_answered_61 : decode cX12_answered 61 = .ok (.aload_n 0, 1) := by decide +kernel
theorem dX12_answered_62 : decode cX12_answered 62 = .ok (.getfield 20, 3) := by decide +kernel
theorem dX12_answered_65 : decode cX12_answered 65 = .ok (.sipush 150, 3) := by decide +kernel
theorem dX12_answered_68 : decode cX12_answered 68 = .ok (.iload_n 1, 1) := by decide +kernel
theorem dX12_answered_69 : decode cX12_answered 69 = .ok (.iadd, 1) := by decide +kernel
theorem dX12_answered_70 : decode cX12_answered 70 = .ok (.iaload, 1) := by decide +kernel
theorem dX12_answered_71 : decode cX12_answered 71 = .ok (.iconst 1, 1) := by decide +kernel
theorem dX12_answered_72 : decode cX12_answered 72 = .ok (.if_icmp .ne 7, 3) := by decide +kernel
theorem dX12_answered_75 : decode cX12_answered 75 = .ok (.iconst 1, 1) := by decide +kernel
theorem dX12_answered_76 : decode cX12_answered 76 = .ok (.goto 8, 3) := by decide +kernel
theorem dX12_answered_79 : decode cX12_answered 79 = .ok (.iload 9, 2) := by decide +kernel
theorem dX12_answered_81 : decode cX12_answered 81 = .ok (.invokestatic 336, 3) := by decide +kernel
theorem dX12_answered_84 : decode cX12_answered 84 = .ok (.ireturn, 1) := by decide +kernel
theorem dX12_answered_85 : decode cX12_answered 85 = .ok (.iload 5, 2) := by decide +kernel
theorem dX12_answered_87 : decode cX12_answered 87 = .ok (.aload_n 0, 1) := by decide +kernel
theorem dX12_answered_88 : decode cX12_answered 88 = .ok (.getfield 20, 3) := by decide +kernel
theorem dX12_answered_91 : decode cX12_answered 91 = .ok (.bipush 126, 2) := by decide +kernel
theorem dX12_answered_93 : decode cX12_answered 93 = .ok (.iload_n 1, 1) := by decide +kernel
theorem dX12_answered_94 : decode cX12_answered 94 = .ok (.iadd, 1) := by decide +kernel
theorem dX12_answered_95 : decode cX12_answered 95 = .ok (.iaload, 1) := by decide +kernel
theorem dX12_answered_96 : decode cX12_answered 96 = .ok (.iload 8, 2) := by decide +kernel
theorem dX12_answered_98 : decode cX12_answered 98 = .ok (.iadd, 1) := by decide +kernel
theorem dX12_answered_99 : decode cX12_answered 99 = .ok (.if_icmp .le 7, 3) := by decide +kernel
theorem dX12_answered_102 : decode cX12_answered 102 = .ok (.iconst 1, 1) := by decide +kernel
theorem dX12_answered_103 : decode cX12_answered 103 = .ok (.goto 4, 3) := by decide +kernel
theorem dX12_answered_106 : decode cX12_answered 106 = .ok (.iconst 0, 1) := by decide +kernel
theorem dX12_answered_107 : decode cX12_answered 107 = .ok (.ireturn, 1) := by decide +kernel
theorem dX12_answered_108 : decode cX12_answered 108 = .ok (.iload 5, 2) := by decide +kernel
theorem dX12_answered_110 : decode cX12_answered 110 = .ok (.iload 6, 2) := by decide +kernel
theorem dX12_answered_112 : decode cX12_answered 112 = .ok (.iload 7, 2) := by decide +kernel
theorem dX12_answered_114 : decode cX12_answered 114 = .ok (.invokestatic 339, 3) := by decide +kernel
theorem dX12_answered_117 : decode cX12_answered 117 = .ok (.ireturn, 1) := by decide +kernel
theorem dX12_answered_118 : decode cX12_answered 118 = .ok (.aload_n 0, 1) := by decide +kernel
theorem dX12_answered_119 : decode cX12_answered 119 = .ok (.iload_n 1, 1) := by decide +kernel
theorem dX12_answered_120 : decode cX12_answered 120 = .ok (.iload 5, 2) := by decide +kernel
theorem dX12_answered_122 : decode cX12_answered 122 = .ok (.invokevirtual 342, 3) := by decide +kernel
theorem dX12_answered_125 : decode cX12_answered 125 = .ok (.ireturn, 1) := by decide +kernel
theorem dX12_answered_126 : decode cX12_answered 126 = .ok (.aload_n 0, 1) := by decide +kernel
theorem dX12_answered_127 : decode cX12_answered 127 = .ok (.iload_n 3, 1) := by decide +kernel
theorem dX12_answered_128 : decode cX12_answered 128 = .ok (.iload 5, 2) := by decide +kernel
theorem dX12_answered_130 : decode cX12_answered 130 = .ok (.invokevirtual 345, 3) := by decide +kernel
theorem dX12_answered_133 : decode cX12_answered 133 = .ok (.ireturn, 1) := by decide +kernel
theorem dX12_answered_134 : decode cX12_answered 134 = .ok (.iload 4, 2) := by decide +kernel
theorem dX12_answered_136 : decode cX12_answered 136 = .ok (.iconst 1, 1) := by decide +kernel
theorem dX12_answered_137 : decode cX12_answered 137 = .ok (.if_icmp .ne 18, 3) := by decide +kernel
theorem dX12_answered_140 : decode cX12_answered 140 = .ok (.iload 9, 2) := by decide +kernel
theorem dX12_answered_142 : decode cX12_answered 142 = .ok (.bipush (-2), 2) := by decide +kernel
theorem dX12_answered_144 : decode cX12_answered 144 = .ok (.if_icmp .ge 7, 3) := by decide +kernel
theorem dX12_answered_147 : decode cX12_answered 147 = .ok (.iconst 0, 1) := by decide +kernel
theorem dX12_answered_148 : decode cX12_answered 148 = .ok (.goto 18, 3) := by decide +kernel
theorem dX12_answered_151 : decode cX12_answered 151 = .ok (.iconst 1, 1) := by decide +kernel
theorem dX12_answered_152 : decode cX12_answered 152 = .ok (.goto 14, 3) := by decide +kernel
theorem dX12_answered_155 : decode cX12_answered 155 = .ok (.iload 9, 2) := by decide +kernel
theorem dX12_answered_157 : decode cX12_answered 157 = .ok (.iconst 2, 1) := by decide +kernel
theorem dX12_answered_158 : decode cX12_answered 158 = .ok (.if_icmp .le 7, 3) := by decide +kernel
theorem dX12_answered_161 : decode cX12_answered 161 = .ok (.iconst 1, 1) := by decide +kernel
theorem dX12_answered_162 : decode cX12_answered 162 = .ok (.goto 4, 3) := by decide +kernel
theorem dX12_answered_165 : decode cX12_answered 165 = .ok (.iconst 0, 1) := by decide +kernel
theorem dX12_answered_166 : decode cX12_answered 166 = .ok (.ireturn, 1) := by decide +kernel
theorem dX12_bars_0 : decode cX12_bars 0 = .ok (.aload_n 0, 1) := by decide +kernel
theorem dX12_bars_1 : decode cX12_bars 1 = .ok (.iload_n 1, 1) := by decide +kernel
theorem dX12_bars_2 : decode cX12_bars 2 = .ok (.invokevirtual 315, 3) := by decide +kernel
theorem dX12_bars_5 : decode cX12_bars 5 = .ok (.ifCond .eq 26, 3) := by decide +kernel
theorem dX12_bars_8 : decode cX12_bars 8 = .ok (.iload_n 2, 1) := by decide +kernel
theorem dX12_bars_9 : decode cX12_bars 9 = .ok (.iconst 0, 1) := by decide +kernel
theorem dX12_bars_10 : decode cX12_bars 10 = .ok (.iconst 5, 1) := by decide +kernel
theorem dX12_bars_11 : decode cX12_bars 11 = .ok (.invokestatic 203, 3) := by decide +kernel
theorem dX12_bars_14 : decode cX12_bars 14 = .ok (.ifCond .eq 17, 3) := by decide +kernel
theorem dX12_bars_17 : decode cX12_bars 17 = .ok (.iload_n 2, 1) := by decide +kernel
theorem dX12_bars_18 : decode cX12_bars 18 = .ok (.iconst 4, 1) := by decide +kernel
theorem dX12_bars_19 : decode cX12_bars 19 = .ok (.if_icmp .ne 14, 3) := by decide +kernel
theorem dX12_bars_22 : decode cX12_bars 22 = .ok (.aload_n 0, 1) := by decide +kernel
theorem dX12_bars_23 : decode cX12_bars 23 = .ok (.iload 4, 2) := by decide +kernel
theorem dX12_bars_25 : decode cX12_bars 25 = .ok (.invokevirtual 306, 3) := by decide +kernel
theorem dX12_bars_28 : decode cX12_bars 28 = .ok (.ifCond .ne 5, 3) := by decide +kernel
theorem dX12_bars_31 : decode cX12_bars 31 = .ok (.iconst 1, 1) := by decide +kernel
theorem dX12_bars_32 : decode cX12_bars 32 = .ok (.ireturn, 1) := by decide +kernel
theorem dX12_bars_33 : decode cX12_bars 33 = .ok (.iload_n 3, 1) := by decide +kernel
theorem dX12_bars_34 : decode cX12_bars 34 = .ok (.iload_n 2, 1) := by decide +kernel
theorem dX12_bars_35 : decode cX12_bars 35 = .ok (.iconst 1, 1) := by decide +kernel
theorem dX12_bars_36 : decode cX12_bars 36 = .ok (.if_icmp .ne 7, 3) := by decide +kernel
theorem dX12_bars_39 : decode cX12_bars 39 = .ok (.iconst 0, 1) := by decide +kernel
theorem dX12_bars_40 : decode cX12_bars 40 = .ok (.goto 4, 3) := by decide +kernel
theorem dX12_bars_43 : decode cX12_bars 43 = .ok (.iconst 1, 1) := by decide +kernel
theorem dX12_bars_44 : decode cX12_bars 44 = .ok (.sipush 400, 3) := by decide +kernel
theorem dX12_bars_47 : decode cX12_bars 47 = .ok (.invokestatic 203, 3) := by decide +kernel
theorem dX12_bars_50 : decode cX12_bars 50 = .ok (.ifCond .ne 5, 3) := by decide +kernel
theorem dX12_bars_53 : decode cX12_bars 53 = .ok (.iconst 2, 1) := by decide +kernel
theorem dX12_bars_54 : decode cX12_bars 54 = .ok (.ireturn, 1) := by decide +kernel
theorem dX12_bars_55 : decode cX12_bars 55 = .ok (.iload_n 2, 1) := by decide +kernel
theorem dX12_bars_56 : decode cX12_bars 56 = .ok (.ifCond .eq 13, 3) := by decide +kernel
theorem dX12_bars_59 : decode cX12_bars 59 = .ok (.iload_n 2, 1) := by decide +kernel
theorem dX12_bars_60 : decode cX12_bars 60 = .ok (.iconst 2, 1) := by decide +kernel
theorem dX12_bars_61 : decode cX12_bars 61 = .ok (.if_icmp .eq 8, 3) := by decide +kernel
theorem dX12_bars_64 : decode cX12_bars 64 = .ok (.iload_n 2, 1) := by decide +kernel
theorem dX12_bars_65 : decode cX12_bars 65 = .ok (.iconst 5, 1) := by decide +kernel
theorem dX12_bars_66 : decode cX12_bars 66 = .ok (.if_icmp .ne 17, 3) := by decide +kernel
theorem dX12_bars_69 : decode cX12_bars 69 = .ok (.iload 4, 2) := by decide +kernel
theorem dX12_bars_71 : decode cX12_bars 71 = .ok (.iconst 1, 1) := by decide +kernel
theorem dX12_bars_72 : decode cX12_bars 72 = .ok (.sipush 400, 3) := by decide +kernel
theorem dX12_bars_75 : decode cX12_bars 75 = .ok (.invokestatic 203, 3) := by decide +kernel
theorem dX12_bars_78 : decode cX12_bars 78 = .ok (.ifCond .ne 5, 3) := by decide +kernel
theorem dX12_bars_81 : decode cX12_bars 81 = .ok (.iconst 2, 1) := by decide +kernel
theorem dX12_bars_82 : decode cX12_bars 82 = .ok (.ireturn, 1) := by decide +kernel
theorem dX12_bars_83 : decode cX12_bars 83 = .ok (.iload_n 2, 1) := by decide +kernel
theorem dX12_bars_84 : decode cX12_bars 84 = .ok (.iconst 2, 1) := by decide +kernel
theorem dX12_bars_85 : decode cX12_bars 85 = .ok (.if_icmp .ne 13, 3) := by decide +kernel
theorem dX12_bars_88 : decode cX12_bars 88 = .ok (.iload 5, 2) := by decide +kernel
theorem dX12_bars_90 : decode cX12_bars 90 = .ok (.iconst 0, 1) := by decide +kernel
theorem dX12_bars_91 : decode cX12_bars 91 = .ok (.iconst 2, 1) := by decide +kernel
theorem dX12_bars_92 : decode cX12_bars 92 = .ok (.invokestatic 203, 3) := by decide +kernel
theorem dX12_bars_95 : decode cX12_bars 95 = .ok (.ifCond .eq 18, 3) := by decide +kernel
theorem dX12_bars_98 : decode cX12_bars 98 = .ok (.iload_n 2, 1) := by decide +kernel
theorem dX12_bars_99 : decode cX12_bars 99 = .ok (.iconst 5, 1) := by decide +kernel
theorem dX12_bars_100 : decode cX12_bars 100 = .ok (.if_icmp .ne 17, 3) := by decide +kernel
theorem dX12_bars_103 : decode cX12_bars 103 = .ok (.iload 5, 2) := by decide +kernel
theorem dX12_bars_105 : decode cX12_bars 105 = .ok (.iconst 0, 1) := by decide +kernel
theorem dX12_bars_106 : decode cX12_bars 106 = .ok (.iconst 1, 1) := by decide +kernel
theorem dX12_bars_107 : decode cX12_bars 107 = .ok (.invokestatic 203, 3) := by decide +kernel
theorem dX12_bars_110 : decode cX12_bars 110 = .ok (.ifCond .ne 7, 3) := by decide +kernel
theorem dX12_bars_113 : decode cX12_bars 113 = .ok (.iconst 2, 1) := by decide +kernel
theorem dX12_bars_114 : decode cX12_bars 114 = .ok (.goto 4, 3) := by decide +kernel
theorem dX12_bars_117 : decode cX12_bars 117 = .ok (.iconst 0, 1) := by decide +kernel
theorem dX12_bars_118 : decode cX12_bars 118 = .ok (.ireturn, 1) := by decide +kernel
theorem dX12_oddsOf_0 : decode cX12_oddsOf 0 = .ok (.aload_n 0, 1) := by decide +kernel
theorem dX12_oddsOf_1 : decode cX12_oddsOf 1 = .ok (.getfield 20, 3) := by decide +kernel
theorem dX12_oddsOf_4 : decode cX12_oddsOf 4 = .ok (.bipush 120, 2) := by decide +kernel
theorem dX12_oddsOf_6 : decode cX12_oddsOf 6 = .ok (.iload_n 1, 1) := by decide +kernel
theorem dX12_oddsOf_7 : decode cX12_oddsOf 7 = .ok (.iadd, 1) := by decide +kernel
theorem dX12_oddsOf_8 : decode cX12_oddsOf 8 = .ok (.iaload, 1) := by decide +kernel
theorem dX12_oddsOf_9 : decode cX12_oddsOf 9 = .ok (.istore 9, 2) := by decide +kernel
theorem dX12_oddsOf_11 : decode cX12_oddsOf 11 = .ok (.iload_n 2, 1) := by decide +kernel
theorem dX12_oddsOf_12 : decode cX12_oddsOf 12 = .ok (.invokestatic 348, 3) := by decide +kernel
theorem dX12_oddsOf_15 : decode cX12_oddsOf 15 = .ok (.istore 10, 2) := by decide +kernel
theorem dX12_oddsOf_17 : decode cX12_oddsOf 17 = .ok (.iconst 0, 1) := by decide +kernel
theorem dX12_oddsOf_18 : decode cX12_oddsOf 18 = .ok (.istore 11, 2) := by decide +kernel
theorem dX12_oddsOf_20 : decode cX12_oddsOf 20 = .ok (.bipush (-5), 2) := by decide +kernel
theorem dX12_oddsOf_22 : decode cX12_oddsOf 22 = .ok (.istore 12, 2) := by decide +kernel
theorem dX12_oddsOf_24 : decode cX12_oddsOf 24 = .ok (.iload 12, 2) := by decide +kernel
theorem dX12_oddsOf_26 : decode cX12_oddsOf 26 = .ok (.iconst 5, 1) := by decide +kernel
theorem dX12_oddsOf_27 : decode cX12_oddsOf 27 = .ok (.if_icmp .gt 257, 3) := by decide +kernel
theorem dX12_oddsOf_30 : decode cX12_oddsOf 30 = .ok (.aload_n 0, 1) := by decide +kernel
theorem dX12_oddsOf_31 : decode cX12_oddsOf 31 = .ok (.iload 9, 2) := by decide +kernel
theorem dX12_oddsOf_33 : decode cX12_oddsOf 33 = .ok (.iload 12, 2) := by decide +kernel
theorem dX12_oddsOf_35 : decode cX12_oddsOf 35 = .ok (.iload 8, 2) := by decide +kernel
theorem dX12_oddsOf_37 : decode cX12_oddsOf 37 = .ok (.invokevirtual 309, 3) := by decide +kernel
theorem dX12_oddsOf_40 : decode cX12_oddsOf 40 = .ok (.istore 13, 2) := by decide +kernel
theorem dX12_oddsOf_42 : decode cX12_oddsOf 42 = .ok (.iload 13, 2) := by decide +kernel
theorem dX12_oddsOf_44 : decode cX12_oddsOf 44 = .ok (.ifCond .ne 6, 3) := by decide +kernel
theorem dX12_oddsOf_47 : decode cX12_oddsOf 47 = .ok (.goto 231, 3) := by decide +kernel
theorem dX12_oddsOf_50 : decode cX12_oddsOf 50 = .ok (.aload_n 0, 1) := by decide +kernel
theorem dX12_oddsOf_51 : decode cX12_oddsOf 51 = .ok (.iload 9, 2) := by decide +kernel
theorem dX12_oddsOf_53 : decode cX12_oddsOf 53 = .ok (.iload_n 2, 1) := by decide +kernel
theorem dX12_oddsOf_54 : decode cX12_oddsOf 54 = .ok (.iload_n 3, 1) := by decide +kernel
theorem dX12_oddsOf_55 : decode cX12_oddsOf 55 = .ok (.iload 4, 2) := by decide +kernel
theorem dX12_oddsOf_57 : decode cX12_oddsOf 57 = .ok (.iload 5, 2) := by decide +kernel
theorem dX12_oddsOf_59 : decode cX12_oddsOf 59 = .ok (.iconst 0, 1) := by decide +kernel
theorem dX12_oddsOf_60 : decode cX12_oddsOf 60 = .ok (.invokevirtual 351, 3) := by decide +kernel
theorem dX12_oddsOf_63 : decode cX12_oddsOf 63 = .ok (.iload 12, 2) := by decide +kernel
theorem dX12_oddsOf_65 : decode cX12_oddsOf 65 = .ok (.iadd, 1) := by decide +kernel
theorem dX12_oddsOf_66 : decode cX12_oddsOf 66 = .ok (.istore 14, 2) := by decide +kernel
theorem dX12_oddsOf_68 : decode cX12_oddsOf 68 = .ok (.iload 10, 2) := by decide +kernel
theorem dX12_oddsOf_70 : decode cX12_oddsOf 70 = .ok (.iconst 1, 1) := by decide +kernel
theorem dX12_oddsOf_71 : decode cX12_oddsOf 71 = .ok (.if_icmp .le 8, 3) := by decide +kernel
theorem dX12_oddsOf_74 : decode cX12_oddsOf 74 = .ok (.bipush (-5), 2) := by decide +kernel
theorem dX12_oddsOf_76 : decode cX12_oddsOf 76 = .ok (.goto 4, 3) := by decide +kernel
theorem dX12_oddsOf_79 : decode cX12_oddsOf 79 = .ok (.iconst 5, 1) := by decide +kernel
theorem dX12_oddsOf_80 : decode cX12_oddsOf 80 = .ok (.istore 15, 2) := by decide +kernel
theorem dX12_oddsOf_82 : decode cX12_oddsOf 82 = .ok (.iload 15, 2) := by decide +kernel
theorem dX12_oddsOf_84 : decode cX12_oddsOf 84 = .ok (.iconst 5, 1) := by decide +kernel
theorem dX12_oddsOf_85 : decode cX12_oddsOf 85 = .ok (.if_icmp .gt 193, 3) := by decide +kernel
theorem dX12_oddsOf_88 : decode cX12_oddsOf 88 = .ok (.iload 10, 2) := by decide +kernel
theorem dX12_oddsOf_90 : decode cX12_oddsOf 90 = .ok (.iconst 1, 1) := by decide +kernel
theorem dX12_oddsOf_91 : decode cX12_oddsOf 91 = .ok (.if_icmp .le 19, 3) := by decide +kernel
theorem dX12_oddsOf_94 : decode cX12_oddsOf 94 = .ok (.iload 13, 2) := by decide +kernel
theorem dX12_oddsOf_96 : decode cX12_oddsOf 96 = .ok (.aload_n 0, 1) := by decide +kernel
theorem dX12_oddsOf_97 : decode cX12_oddsOf 97 = .ok (.iload 9, 2) := by decide +kernel
theorem dX12_oddsOf_99 : decode cX12_oddsOf 99 = .ok (.iload 15, 2) := by decide +kernel
theorem dX12_oddsOf_101 : decode cX12_oddsOf 101 = .ok (.iload 8, 2) := by decide +kernel
theorem dX12_oddsOf_103 : decode cX12_oddsOf 103 = .ok (.invokevirtual 309, 3) := by decide +kernel
theorem dX12_oddsOf_106 : decode cX12_oddsOf 106 = .ok (.imul, 1) := by decide +kernel
theorem dX12_oddsOf_107 : decode cX12_oddsOf 107 = .ok (.goto 5, 3) := by decide +kernel
theorem dX12_oddsOf_110 : decode cX12_oddsOf 110 = .ok (.iload 13, 2) := by decide +kernel
theorem dX12_oddsOf_112 : decode cX12_oddsOf 112 = .ok (.istore 16, 2) := by decide +kernel
theorem dX12_oddsOf_114 : decode cX12_oddsOf 114 = .ok (.iload 16, 2) := by decide +kernel
theorem dX12_oddsOf_116 : decode cX12_oddsOf 116 = .ok (.ifCond .ne 6, 3) := by decide +kernel
theorem dX12_oddsOf_119 : decode cX12_oddsOf 119 = .ok (.goto 153, 3) := by decide +kernel
theorem dX12_oddsOf_122 : decode cX12_oddsOf 122 = .ok (.iload 10, 2) := by decide +kernel
theorem dX12_oddsOf_124 : decode cX12_oddsOf 124 = .ok (.iconst 1, 1) := by decide +kernel
theorem dX12_oddsOf_125 : decode cX12_oddsOf 125 = .ok (.if_icmp .le 22, 3) := by decide +kernel
theorem dX12_oddsOf_128 : decode cX12_oddsOf 128 = .ok (.aload_n 0, 1) := by decide +kernel
theorem dX12_oddsOf_129 : decode cX12_oddsOf 129 = .ok (.iload 9, 2) := by decide +kernel
theorem dX12_oddsOf_131 : decode cX12_oddsOf 131 = .ok (.iload_n 2, 1) := by decide +kernel
theorem dX12_oddsOf_132 : decode cX12_oddsOf 132 = .ok (.iload_n 3, 1) := by decide +kernel
theorem dX12_oddsOf_133 : decode cX12_oddsOf 133 = .ok (.iload 4, 2) := by decide +kernel
theorem dX12_oddsOf_135 : decode cX12_oddsOf 135 = .ok (.iload 5, 2) := by decide +kernel
theorem dX12_oddsOf_137 : decode cX12_oddsOf 137 = .ok (.iconst 1, 1) := by decide +kernel
theorem dX12_oddsOf_138 : decode cX12_oddsOf 138 = .ok (.invokevirtual 351, 3) := by decide +kernel
theorem dX12_oddsOf_141 : decode cX12_oddsOf 141 = .ok (.iload 15, 2) := by decide +kernel
theorem dX12_oddsOf_143 : decode cX12_oddsOf 143 = .ok (.iadd, 1) := by decide +kernel
theorem dX12_oddsOf_144 : decode cX12_oddsOf 144 = .ok (.goto 4, 3) := by decide +kernel
theorem dX12_oddsOf_147 : decode cX12_oddsOf 147 = .ok (.iconst 0, 1) := by decide +kernel
theorem dX12_oddsOf_148 : decode cX12_oddsOf 148 = .ok (.istore 17, 2) := by decide +kernel
theorem dX12_oddsOf_150 : decode cX12_oddsOf 150 = .ok (.iload 10, 2) := by decide +kernel
theorem dX12_oddsOf_152 : decode cX12_oddsOf 152 = .ok (.iconst 2, 1) := by decide +kernel
theorem dX12_oddsOf_153 : decode cX12_oddsOf 153 = .ok (.if_icmp .le 8, 3) := by decide +kernel
theorem dX12_oddsOf_156 : decode cX12_oddsOf 156 = .ok (.bipush (-5), 2) := by decide +kernel
theorem dX12_oddsOf_158 : decode cX12_oddsOf 158 = .ok (.goto 4, 3) := by decide +kernel
theorem dX12_oddsOf_161 : decode cX12_oddsOf 161 = .ok (.iconst 5, 1) := by decide +kernel
theorem dX12_oddsOf_162 : decode cX12_oddsOf 162 = .ok (.istore 18, 2) := by decide +kernel
theorem dX12_oddsOf_164 : decode cX12_oddsOf 164 = .ok (.iload 18, 2) := by decide +kernel
theorem dX12_oddsOf_166 : decode cX12_oddsOf 166 = .ok (.iconst 5, 1) := by decide +kernel
theorem dX12_oddsOf_167 : decode cX12_oddsOf 167 = .ok (.if_icmp .gt 105, 3) := by decide +kernel
theorem dX12_oddsOf_170 : decode cX12_oddsOf 170 = .ok (.iload 10, 2) := by decide +kernel
theorem dX12_oddsOf_172 : decode cX12_oddsOf 172 = .ok (.iconst 2, 1) := by decide +kernel
theorem dX12_oddsOf_173 : decode cX12_oddsOf 173 = .ok (.if_icmp .le 19, 3) := by decide +kernel
theorem dX12_oddsOf_176 : decode cX12_oddsOf 176 = .ok (.iload 16, 2) := by decide +kernel
theorem dX12_oddsOf_178 : decode cX12_oddsOf 178 = .ok (.aload_n 0, 1) := by decide +kernel
theorem dX12_oddsOf_179 : decode cX12_oddsOf 179 = .ok (.iload 9, 2) := by decide +kernel
theorem dX12_oddsOf_181 : decode cX12_oddsOf 181 = .ok (.iload 18, 2) := by decide +kernel
theorem dX12_oddsOf_183 : decode cX12_oddsOf 183 = .ok (.iload 8, 2) := by decide +kernel
theorem dX12_oddsOf_185 : decode cX12_oddsOf 185 = .ok (.invokevirtual 309, 3) := by decide +kernel
theorem dX12_oddsOf_188 : decode cX12_oddsOf 188 = .ok (.imul, 1) := by decide +kernel
theorem dX12_oddsOf_189 : decode cX12_oddsOf 189 = .ok (.goto 5, 3) := by decide +kernel
theorem dX12_oddsOf_192 : decode cX12_oddsOf 192 = .ok (.iload 16, 2) := by decide +kernel
theorem dX12_oddsOf_194 : decode cX12_oddsOf 194 = .ok (.istore 19, 2) := by decide +kernel
theorem dX12_oddsOf_196 : decode cX12_oddsOf 196 = .ok (.iload 19, 2) := by decide +kernel
theorem dX12_oddsOf_198 : decode cX12_oddsOf 198 = .ok (.ifCond .ne 6, 3) := by decide +kernel
theorem dX12_oddsOf_201 : decode cX12_oddsOf 201 = .ok (.goto 65, 3) := by decide +kernel
theorem dX12_oddsOf_204 : decode cX12_oddsOf 204 = .ok (.iload 10, 2) := by decide +kernel
theorem dX12_oddsOf_206 : decode cX12_oddsOf 206 = .ok (.iconst 2, 1) := by decide +kernel
theorem dX12_oddsOf_207 : decode cX12_oddsOf 207 = .ok (.if_icmp .le 22, 3) := by decide +kernel
theorem dX12_oddsOf_210 : decode cX12_oddsOf 210 = .ok (.aload_n 0, 1) := by decide +kernel
theorem dX12_oddsOf_211 : decode cX12_oddsOf 211 = .ok (.iload 9, 2) := by decide +kernel
theorem dX12_oddsOf_213 : decode cX12_oddsOf 213 = .ok (.iload_n 2, 1) := by decide +kernel
theorem dX12_oddsOf_214 : decode cX12_oddsOf 214 = .ok (.iload_n 3, 1) := by decide +kernel
theorem dX12_oddsOf_215 : decode cX12_oddsOf 215 = .ok (.iload 4, 2) := by decide +kernel
theorem dX12_oddsOf_217 : decode cX12_oddsOf 217 = .ok (.iload 5, 2) := by decide +kernel
theorem dX12_oddsOf_219 : decode cX12_oddsOf 219 = .ok (.iconst 2, 1) := by decide +kernel
theorem dX12_oddsOf_220 : decode cX12_oddsOf 220 = .ok (.invokevirtual 351, 3) := by decide +kernel
theorem dX12_oddsOf_223 : decode cX12_oddsOf 223 = .ok (.iload 18, 2) := by decide +kernel
theorem dX12_oddsOf_225 : decode cX12_oddsOf 225 = .ok (.iadd, 1) := by decide +kernel
theorem dX12_oddsOf_226 : decode cX12_oddsOf 226 = .ok (.goto 4, 3) := by decide +kernel
theorem dX12_oddsOf_229 : decode cX12_oddsOf 229 = .ok (.iconst 0, 1) := by decide +kernel
theorem dX12_oddsOf_230 : decode cX12_oddsOf 230 = .ok (.istore 20, 2) := by decide +kernel
theorem dX12_oddsOf_232 : decode cX12_oddsOf 232 = .ok (.iload 11, 2) := by decide +kernel
theorem dX12_oddsOf_234 : decode cX12_oddsOf 234 = .ok (.aload_n 0, 1) := by decide +kernel
theorem dX12_oddsOf_235 : decode cX12_oddsOf 235 = .ok (.iload_n 1, 1) := by decide +kernel
theorem dX12_oddsOf_236 : decode cX12_oddsOf 236 = .ok (.iload_n 2, 1) := by decide +kernel
theorem dX12_oddsOf_237 : decode cX12_oddsOf 237 = .ok (.iload 4, 2) := by decide +kernel
theorem dX12_oddsOf_239 : decode cX12_oddsOf 239 = .ok (.iload 5, 2) := by decide +kernel
theorem dX12_oddsOf_241 : decode cX12_oddsOf 241 = .ok (.iload 14, 2) := by decide +kernel
theorem dX12_oddsOf_243 : decode cX12_oddsOf 243 = .ok (.iload 17, 2) := by decide +kernel
theorem dX12_oddsOf_245 : decode cX12_oddsOf 245 = .ok (.iload 20, 2) := by decide +kernel
theorem dX12_oddsOf_247 : decode cX12_oddsOf 247 = .ok (.iload 7, 2) := by decide +kernel
theorem dX12_oddsOf_249 : decode cX12_oddsOf 249 = .ok (.invokevirtual 355, 3) := by decide +kernel
theorem dX12_oddsOf_252 : decode cX12_oddsOf 252 = .ok (.iload 6, 2) := by decide +kernel
theorem dX12_oddsOf_254 : decode cX12_oddsOf 254 = .ok (.if_icmp .ne 8, 3) := by decide +kernel
theorem dX12_oddsOf_257 : decode cX12_oddsOf 257 = .ok (.iload 19, 2) := by decide +kernel
theorem dX12_oddsOf_259 : decode cX12_oddsOf 259 = .ok (.goto 4, 3) := by decide +kernel
theorem dX12_oddsOf_262 : decode cX12_oddsOf 262 = .ok (.iconst 0, 1) := by decide +kernel
theorem dX12_oddsOf_263 : decode cX12_oddsOf 263 = .ok (.iadd, 1) := by decide +kernel
theorem dX12_oddsOf_264 : decode cX12_oddsOf 264 = .ok (.istore 11, 2) := by decide +kernel
theorem dX12_oddsOf_266 : decode cX12_oddsOf 266 = .ok (.iinc 18 1, 3) := by decide +kernel
theorem dX12_oddsOf_269 : decode cX12_oddsOf 269 = .ok (.goto (-105), 3) := by decide +kernel
theorem dX12_oddsOf_272 : decode cX12_oddsOf 272 = .ok (.iinc 15 1, 3) := by decide +kernel
theorem dX12_oddsOf_275 : decode cX12_oddsOf 275 = .ok (.goto (-193), 3) := by decide +kernel
theorem dX12_oddsOf_278 : decode cX12_oddsOf 278 = .ok (.iinc 12 1, 3) := by decide +kernel
theorem dX12_oddsOf_281 : decode cX12_oddsOf 281 = .ok (.goto (-257), 3) := by decide +kernel
theorem dX12_oddsOf_284 : decode cX12_oddsOf 284 = .ok (.iload 11, 2) := by decide +kernel
theorem dX12_oddsOf_286 : decode cX12_oddsOf 286 = .ok (.ireturn, 1) := by decide +kernel
theorem dX12_odds_0 : decode cX12_odds 0 = .ok (.aload_n 0, 1) := by decide +kernel
theorem dX12_odds_1 : decode cX12_odds 1 = .ok (.invokevirtual 211, 3) := by decide +kernel
theorem dX12_odds_4 : decode cX12_odds 4 = .ok (.aload_n 0, 1) := by decide +kernel
theorem dX12_odds_5 : decode cX12_odds 5 = .ok (.iload_n 1, 1) := by decide +kernel
theorem dX12_odds_6 : decode cX12_odds 6 = .ok (.iload_n 2, 1) := by decide +kernel
theorem dX12_odds_7 : decode cX12_odds 7 = .ok (.iload_n 3, 1) := by decide +kernel
theorem dX12_odds_8 : decode cX12_odds 8 = .ok (.iload 4, 2) := by decide +kernel
theorem dX12_odds_10 : decode cX12_odds 10 = .ok (.iload 5, 2) := by decide +kernel
theorem dX12_odds_12 : decode cX12_odds 12 = .ok (.invokevirtual 359, 3) := by decide +kernel
theorem dX12_odds_15 : decode cX12_odds 15 = .ok (.istore 8, 2) := by decide +kernel
theorem dX12_odds_17 : decode cX12_odds 17 = .ok (.iload 8, 2) := by decide +kernel
theorem dX12_odds_19 : decode cX12_odds 19 = .ok (.ifCond .eq 10, 3) := by decide +kernel
theorem dX12_odds_22 : decode cX12_odds 22 = .ok (.aload_n 0, 1) := by decide +kernel
theorem dX12_odds_23 : decode cX12_odds 23 = .ok (.iload 8, 2) := by decide +kernel
theorem dX12_odds_25 : decode cX12_odds 25 = .ok (.invokevirtual 214, 3) := by decide +kernel
theorem dX12_odds_28 : decode cX12_odds 28 = .ok (.ireturn, 1) := by decide +kernel
theorem dX12_odds_29 : decode cX12_odds 29 = .ok (.iload 7, 2) := by decide +kernel
theorem dX12_odds_31 : decode cX12_odds 31 = .ok (.ifCond .ne 27, 3) := by decide +kernel
theorem dX12_odds_34 : decode cX12_odds 34 = .ok (.aload_n 0, 1) := by decide +kernel
theorem dX12_odds_35 : decode cX12_odds 35 = .ok (.iload_n 1, 1) := by decide +kernel
theorem dX12_odds_36 : decode cX12_odds 36 = .ok (.iload_n 2, 1) := by decide +kernel
theorem dX12_odds_37 : decode cX12_odds 37 = .ok (.iload_n 3, 1) := by decide +kernel
theorem dX12_odds_38 : decode cX12_odds 38 = .ok (.iload 4, 2) := by decide +kernel
theorem dX12_odds_40 : decode cX12_odds 40 = .ok (.iload 5, 2) := by decide +kernel
theorem dX12_odds_42 : decode cX12_odds 42 = .ok (.iload 6, 2) := by decide +kernel
theorem dX12_odds_44 : decode cX12_odds 44 = .ok (.aload_n 0, 1) := by decide +kernel
theorem dX12_odds_45 : decode cX12_odds 45 = .ok (.iload_n 1, 1) := by decide +kernel
theorem dX12_odds_46 : decode cX12_odds 46 = .ok (.invokevirtual 318, 3) := by decide +kernel
theorem dX12_odds_49 : decode cX12_odds 49 = .ok (.aload_n 0, 1) := by decide +kernel
theorem dX12_odds_50 : decode cX12_odds 50 = .ok (.iload_n 1, 1) := by decide +kernel
theorem dX12_odds_51 : decode cX12_odds 51 = .ok (.invokevirtual 321, 3) := by decide +kernel
theorem dX12_odds_54 : decode cX12_odds 54 = .ok (.invokevirtual 363, 3) := by decide +kernel
theorem dX12_odds_57 : decode cX12_odds 57 = .ok (.ireturn, 1) := by decide +kernel
theorem dX12_odds_58 : decode cX12_odds 58 = .ok (.aload_n 0, 1) := by decide +kernel
theorem dX12_odds_59 : decode cX12_odds 59 = .ok (.aload_n 0, 1) := by decide +kernel
theorem dX12_odds_60 : decode cX12_odds 60 = .ok (.getfield 20, 3) := by decide +kernel
theorem dX12_odds_63 : decode cX12_odds 63 = .ok (.bipush 120, 2) := by decide +kernel
theorem dX12_odds_65 : decode cX12_odds 65 = .ok (.iload_n 1, 1) := by decide +kernel
theorem dX12_odds_66 : decode cX12_odds 66 = .ok (.iadd, 1) := by decide +kernel
theorem dX12_odds_67 : decode cX12_odds 67 = .ok (.iaload, 1) := by decide +kernel
theorem dX12_odds_68 : decode cX12_odds 68 = .ok (.aload_n 0, 1) := by decide +kernel
theorem dX12_odds_69 : decode cX12_odds 69 = .ok (.iload_n 1, 1) := by decide +kernel
theorem dX12_odds_70 : decode cX12_odds 70 = .ok (.invokevirtual 321, 3) := by decide +kernel
theorem dX12_odds_73 : decode cX12_odds 73 = .ok (.invokevirtual 324, 3) := by decide +kernel
theorem dX12_odds_76 : decode cX12_odds 76 = .ok (.istore 9, 2) := by decide +kernel
theorem dX12_odds_78 : decode cX12_odds 78 = .ok (.iload_n 2, 1) := by decide +kernel
theorem dX12_odds_79 : decode cX12_odds 79 = .ok (.invokestatic 348, 3) := by decide +kernel
theorem dX12_odds_82 : decode cX12_odds 82 = .ok (.iconst 3, 1) := by decide +kernel
theorem dX12_odds_83 : decode cX12_odds 83 = .ok (.if_icmp .ne 14, 3) := by decide +kernel
theorem dX12_odds_86 : decode cX12_odds 86 = .ok (.iload 9, 2) := by decide +kernel
theorem dX12_odds_88 : decode cX12_odds 88 = .ok (.iload 9, 2) := by decide +kernel
theorem dX12_odds_90 : decode cX12_odds 90 = .ok (.imul, 1) := by decide +kernel
theorem dX12_odds_91 : decode cX12_odds 91 = .ok (.iload 9, 2) := by decide +kernel
theorem dX12_odds_93 : decode cX12_odds 93 = .ok (.imul, 1) := by decide +kernel
theorem dX12_odds_94 : decode cX12_odds 94 = .ok (.goto 21, 3) := by decide +kernel
theorem dX12_odds_97 : decode cX12_odds 97 = .ok (.iload_n 2, 1) := by decide +kernel
theorem dX12_odds_98 : decode cX12_odds 98 = .ok (.invokestatic 348, 3) := by decide +kernel
theorem dX12_odds_101 : decode cX12_odds 101 = .ok (.iconst 2, 1) := by decide +kernel
theorem dX12_odds_102 : decode cX12_odds 102 = .ok (.if_icmp .ne 11, 3) := by decide +kernel
theorem dX12_odds_105 : decode cX12_odds 105 = .ok (.iload 9, 2) := by decide +kernel
theorem dX12_odds_107 : decode cX12_odds 107 = .ok (.iload 9, 2) := by decide +kernel
theorem dX12_odds_109 : decode cX12_odds 109 = .ok (.imul, 1) := by decide +kernel
theorem dX12_odds_110 : decode cX12_odds 110 = .ok (.goto 5, 3) := by decide +kernel
theorem dX12_odds_113 : decode cX12_odds 113 = .ok (.iload 9, 2) := by decide +kernel
theorem dX12_odds_115 : decode cX12_odds 115 = .ok (.ireturn, 1) := by decide +kernel
theorem dX12_seed_0 : decode cX12_seed 0 = .ok (.aload_n 0, 1) := by decide +kernel
theorem dX12_seed_1 : decode cX12_seed 1 = .ok (.invokevirtual 211, 3) := by decide +kernel
theorem dX12_seed_4 : decode cX12_seed 4 = .ok (.iload_n 1, 1) := by decide +kernel
theorem dX12_seed_5 : decode cX12_seed 5 = .ok (.iconst 0, 1) := by decide +kernel
theorem dX12_seed_6 : decode cX12_seed 6 = .ok (.ldc_w 366, 3) := by decide +kernel
theorem dX12_seed_9 : decode cX12_seed 9 = .ok (.invokestatic 203, 3) := by decide +kernel
theorem dX12_seed_12 : decode cX12_seed 12 = .ok (.ifCond .ne 9, 3) := by decide +kernel
theorem dX12_seed_15 : decode cX12_seed 15 = .ok (.aload_n 0, 1) := by decide +kernel
theorem dX12_seed_16 : decode cX12_seed 16 = .ok (.iconst 2, 1) := by decide +kernel
theorem dX12_seed_17 : decode cX12_seed 17 = .ok (.invokevirtual 327, 3) := by decide +kernel
theorem dX12_seed_20 : decode cX12_seed 20 = .ok (.ireturn, 1) := by decide +kernel
theorem dX12_seed_21 : decode cX12_seed 21 = .ok (.aload_n 0, 1) := by decide +kernel
theorem dX12_seed_22 : decode cX12_seed 22 = .ok (.iload_n 1, 1) := by decide +kernel
theorem dX12_seed_23 : decode cX12_seed 23 = .ok (.putfield 223, 3) := by decide +kernel
theorem dX12_seed_26 : decode cX12_seed 26 = .ok (.iconst 1, 1) := by decide +kernel
theorem dX12_seed_27 : decode cX12_seed 27 = .ok (.ireturn, 1) := by decide +kernel
theorem dX12_drawn_0 : decode cX12_drawn 0 = .ok (.aload_n 0, 1) := by decide +kernel
theorem dX12_drawn_1 : decode cX12_drawn 1 = .ok (.bipush 75, 2) := by decide +kernel
theorem dX12_drawn_3 : decode cX12_drawn 3 = .ok (.aload_n 0, 1) := by decide +kernel
theorem dX12_drawn_4 : decode cX12_drawn 4 = .ok (.getfield 223, 3) := by decide +kernel
theorem dX12_drawn_7 : decode cX12_drawn 7 = .ok (.imul, 1) := by decide +kernel
theorem dX12_drawn_8 : decode cX12_drawn 8 = .ok (.bipush 74, 2) := by decide +kernel
theorem dX12_drawn_10 : decode cX12_drawn 10 = .ok (.iadd, 1) := by decide +kernel
theorem dX12_drawn_11 : decode cX12_drawn 11 = .ok (.ldc_w 367, 3) := by decide +kernel
theorem dX12_drawn_14 : decode cX12_drawn 14 = .ok (.irem, 1) := by decide +kernel
theorem dX12_drawn_15 : decode cX12_drawn 15 = .ok (.putfield 223, 3) := by decide +kernel
theorem dX12_drawn_18 : decode cX12_drawn 18 = .ok (.aload_n 0, 1) := by decide +kernel
theorem dX12_drawn_19 : decode cX12_drawn 19 = .ok (.getfield 223, 3) := by decide +kernel
theorem dX12_drawn_22 : decode cX12_drawn 22 = .ok (.iload_n 1, 1) := by decide +kernel
theorem dX12_drawn_23 : decode cX12_drawn 23 = .ok (.irem, 1) := by decide +kernel
theorem dX12_drawn_24 : decode cX12_drawn 24 = .ok (.ireturn, 1) := by decide +kernel
theorem dX12_drawnNoise_0 : decode cX12_drawnNoise 0 = .ok (.aload_n 0, 1) := by decide +kernel
theorem dX12_drawnNoise_1 : decode cX12_drawnNoise 1 = .ok (.aload_n 0, 1) := by decide +kernel
theorem dX12_drawnNoise_2 : decode cX12_drawnNoise 2 = .ok (.iload_n 1, 1) := by decide +kernel
theorem dX12_drawnNoise_3 : decode cX12_drawnNoise 3 = .ok (.iload_n 2, 1) := by decide +kernel
theorem dX12_drawnNoise_4 : decode cX12_drawnNoise 4 = .ok (.invokevirtual 324, 3) := by decide +kernel
theorem dX12_drawnNoise_7 : decode cX12_drawnNoise 7 = .ok (.invokevirtual 368, 3) := by decide +kernel
theorem dX12_drawnNoise_10 : decode cX12_drawnNoise 10 = .ok (.istore_n 3, 1) := by decide +kernel
theorem dX12_drawnNoise_11 : decode cX12_drawnNoise 11 = .ok (.bipush (-5), 2) := by decide +kernel
theorem dX12_drawnNoise_13 : decode cX12_drawnNoise 13 = .ok (.istore 4, 2) := by decide +kernel
theorem dX12_drawnNoise_15 : decode cX12_drawnNoise 15 = .ok (.iload_n 3, 1) := by decide +kernel
theorem dX12_drawnNoise_16 : decode cX12_drawnNoise 16 = .ok (.aload_n 0, 1) := by decide +kernel
theorem dX12_drawnNoise_17 : decode cX12_drawnNoise 17 = .ok (.iload_n 1, 1) := by decide +kernel
theorem dX12_drawnNoise_18 : decode cX12_drawnNoise 18 = .ok (.iload 4, 2) := by decide +kernel
theorem dX12_drawnNoise_20 : decode cX12_drawnNoise 20 = .ok (.iload_n 2, 1) := by decide +kernel
theorem dX12_drawnNoise_21 : decode cX12_drawnNoise 21 = .ok (.invokevirtual 309, 3) := by decide +kernel
theorem dX12_drawnNoise_24 : decode cX12_drawnNoise 24 = .ok (.if_icmp .lt 20, 3) := by decide +kernel
theorem dX12_drawnNoise_27 : decode cX12_drawnNoise 27 = .ok (.iload_n 3, 1) := by decide +kernel
theorem dX12_drawnNoise_28 : decode cX12_drawnNoise 28 = .ok (.aload_n 0, 1) := by decide +kernel
theorem dX12_drawnNoise_29 : decode cX12_drawnNoise 29 = .ok (.iload_n 1, 1) := by decide +kernel
theorem dX12_drawnNoise_30 : decode cX12_drawnNoise 30 = .ok (.iload 4, 2) := by decide +kernel
theorem dX12_drawnNoise_32 : decode cX12_drawnNoise 32 = .ok (.iload_n 2, 1) := by decide +kernel
theorem dX12_drawnNoise_33 : decode cX12_drawnNoise 33 = .ok (.invokevirtual 309, 3) := by decide +kernel
theorem dX12_drawnNoise_36 : decode cX12_drawnNoise 36 = .ok (.isub, 1) := by decide +kernel
theorem dX12_drawnNoise_37 : decode cX12_drawnNoise 37 = .ok (.istore_n 3, 1) := by decide +kernel
theorem dX12_drawnNoise_38 : decode cX12_drawnNoise 38 = .ok (.iinc 4 1, 3) := by decide +kernel
theorem dX12_drawnNoise_41 : decode cX12_drawnNoise 41 = .ok (.goto (-26), 3) := by decide +kernel
theorem dX12_drawnNoise_44 : decode cX12_drawnNoise 44 = .ok (.iload 4, 2) := by decide +kernel
theorem dX12_drawnNoise_46 : decode cX12_drawnNoise 46 = .ok (.ireturn, 1) := by decide +kernel
theorem dX12_books_0 : decode cX12_books 0 = .ok (.aload_n 0, 1) := by decide +kernel
theorem dX12_books_1 : decode cX12_books 1 = .ok (.getfield 35, 3) := by decide +kernel
theorem dX12_books_4 : decode cX12_books 4 = .ok (.aload_n 0, 1) := by decide +kernel
theorem dX12_books_5 : decode cX12_books 5 = .ok (.getfield 226, 3) := by decide +kernel
theorem dX12_books_8 : decode cX12_books 8 = .ok (.iload_n 1, 1) := by decide +kernel
theorem dX12_books_9 : decode cX12_books 9 = .ok (.iastore, 1) := by decide +kernel
theorem dX12_books_10 : decode cX12_books 10 = .ok (.aload_n 0, 1) := by decide +kernel
theorem dX12_books_11 : decode cX12_books 11 = .ok (.getfield 38, 3) := by decide +kernel
theorem dX12_books_14 : decode cX12_books 14 = .ok (.aload_n 0, 1) := by decide +kernel
theorem dX12_books_15 : decode cX12_books 15 = .ok (.getfield 226, 3) := by decide +kernel
theorem dX12_books_18 : decode cX12_books 18 = .ok (.iload_n 2, 1) := by decide +kernel
theorem dX12_books_19 : decode cX12_books 19 = .ok (.iastore, 1) := by decide +kernel
theorem dX12_books_20 : decode cX12_books 20 = .ok (.aload_n 0, 1) := by decide +kernel
theorem dX12_books_21 : decode cX12_books 21 = .ok (.getfield 41, 3) := by decide +kernel
theorem dX12_books_24 : decode cX12_books 24 = .ok (.aload_n 0, 1) := by decide +kernel
theorem dX12_books_25 : decode cX12_books 25 = .ok (.getfield 226, 3) := by decide +kernel
theorem dX12_books_28 : decode cX12_books 28 = .ok (.iload_n 3, 1) := by decide +kernel
theorem dX12_books_29 : decode cX12_books 29 = .ok (.iastore, 1) := by decide +kernel
theorem dX12_books_30 : decode cX12_books 30 = .ok (.aload_n 0, 1) := by decide +kernel
theorem dX12_books_31 : decode cX12_books 31 = .ok (.getfield 44, 3) := by decide +kernel
theorem dX12_books_34 : decode cX12_books 34 = .ok (.aload_n 0, 1) := by decide +kernel
theorem dX12_books_35 : decode cX12_books 35 = .ok (.getfield 226, 3) := by decide +kernel
theorem dX12_books_38 : decode cX12_books 38 = .ok (.iload_n 2, 1) := by decide +kernel
theorem dX12_books_39 : decode cX12_books 39 = .ok (.iconst 1, 1) := by decide +kernel
theorem dX12_books_40 : decode cX12_books 40 = .ok (.if_icmp .eq 8, 3) := by decide +kernel
theorem dX12_books_43 : decode cX12_books 43 = .ok (.iload_n 2, 1) := by decide +kernel
theorem dX12_books_44 : decode cX12_books 44 = .ok (.iconst 3, 1) := by decide +kernel
theorem dX12_books_45 : decode cX12_books 45 = .ok (.if_icmp .ne 7, 3) := by decide +kernel
theorem dX12_books_48 : decode cX12_books 48 = .ok (.iconst 0, 1) := by decide +kernel
theorem dX12_books_49 : decode cX12_books 49 = .ok (.goto 5, 3) := by decide +kernel
theorem dX12_books_52 : decode cX12_books 52 = .ok (.iload 4, 2) := by decide +kernel
theorem dX12_books_54 : decode cX12_books 54 = .ok (.iastore, 1) := by decide +kernel
theorem dX12_books_55 : decode cX12_books 55 = .ok (.aload_n 0, 1) := by decide +kernel
theorem dX12_books_56 : decode cX12_books 56 = .ok (.getfield 47, 3) := by decide +kernel
theorem dX12_books_59 : decode cX12_books 59 = .ok (.aload_n 0, 1) := by decide +kernel
theorem dX12_books_60 : decode cX12_books 60 = .ok (.getfield 226, 3) := by decide +kernel
theorem dX12_books_63 : decode cX12_books 63 = .ok (.iload_n 2, 1) := by decide +kernel
theorem dX12_books_64 : decode cX12_books 64 = .ok (.iconst 2, 1) := by decide +kernel
theorem dX12_books_65 : decode cX12_books 65 = .ok (.if_icmp .eq 8, 3) := by decide +kernel
theorem dX12_books_68 : decode cX12_books 68 = .ok (.iload_n 2, 1) := by decide +kernel
theorem dX12_books_69 : decode cX12_books 69 = .ok (.iconst 5, 1) := by decide +kernel
theorem dX12_books_70 : decode cX12_books 70 = .ok (.if_icmp .ne 8, 3) := by decide +kernel
theorem dX12_books_73 : decode cX12_books 73 = .ok (.iload 5, 2) := by decide +kernel
theorem dX12_books_75 : decode cX12_books 75 = .ok (.goto 4, 3) := by decide +kernel
theorem dX12_books_78 : decode cX12_books 78 = .ok (.iconst 0, 1) := by decide +kernel
theorem dX12_books_79 : decode cX12_books 79 = .ok (.iastore, 1) := by decide +kernel
theorem dX12_books_80 : decode cX12_books 80 = .ok (.aload_n 0, 1) := by decide +kernel
theorem dX12_books_81 : decode cX12_books 81 = .ok (.getfield 50, 3) := by decide +kernel
theorem dX12_books_84 : decode cX12_books 84 = .ok (.aload_n 0, 1) := by decide +kernel
theorem dX12_books_85 : decode cX12_books 85 = .ok (.getfield 226, 3) := by decide +kernel
theorem dX12_books_88 : decode cX12_books 88 = .ok (.iload 6, 2) := by decide +kernel
theorem dX12_books_90 : decode cX12_books 90 = .ok (.iastore, 1) := by decide +kernel
theorem dX12_books_91 : decode cX12_books 91 = .ok (.aload_n 0, 1) := by decide +kernel
theorem dX12_books_92 : decode cX12_books 92 = .ok (.dup, 1) := by decide +kernel
theorem dX12_books_93 : decode cX12_books 93 = .ok (.getfield 226, 3) := by decide +kernel
theorem dX12_books_96 : decode cX12_books 96 = .ok (.iconst 1, 1) := by decide +kernel
theorem dX12_books_97 : decode cX12_books 97 = .ok (.iadd, 1) := by decide +kernel
theorem dX12_books_98 : decode cX12_books 98 = .ok (.putfield 226, 3) := by decide +kernel
theorem dX12_books_101 : decode cX12_books 101 = .ok (.aload_n 0, 1) := by decide +kernel
theorem dX12_books_102 : decode cX12_books 102 = .ok (.getfield 29, 3) := by decide +kernel
theorem dX12_books_105 : decode cX12_books 105 = .ok (.iload_n 1, 1) := by decide +kernel
theorem dX12_books_106 : decode cX12_books 106 = .ok (.dup2, 1) := by decide +kernel
theorem dX12_books_107 : decode cX12_books 107 = .ok (.iaload, 1) := by decide +kernel
theorem dX12_books_108 : decode cX12_books 108 = .ok (.iconst 1, 1) := by decide +kernel
theorem dX12_books_109 : decode cX12_books 109 = .ok (.iadd, 1) := by decide +kernel
theorem dX12_books_110 : decode cX12_books 110 = .ok (.iastore, 1) := by decide +kernel
theorem dX12_books_111 : decode cX12_books 111 = .ok (.aload_n 0, 1) := by decide +kernel
theorem dX12_books_112 : decode cX12_books 112 = .ok (.getfield 32, 3) := by decide +kernel
theorem dX12_books_115 : decode cX12_books 115 = .ok (.iload_n 1, 1) := by decide +kernel
theorem dX12_books_116 : decode cX12_books 116 = .ok (.dup2, 1) := by decide +kernel
theorem dX12_books_117 : decode cX12_books 117 = .ok (.iaload, 1) := by decide +kernel
theorem dX12_books_118 : decode cX12_books 118 = .ok (.iconst 1, 1) := by decide +kernel
theorem dX12_books_119 : decode cX12_books 119 = .ok (.iadd, 1) := by decide +kernel
theorem dX12_books_120 : decode cX12_books 120 = .ok (.iastore, 1) := by decide +kernel
theorem dX12_books_121 : decode cX12_books 121 = .ok (.return_, 1) := by decide +kernel
theorem dX12_draws_0 : decode cX12_draws 0 = .ok (.aload_n 0, 1) := by decide +kernel
theorem dX12_draws_1 : decode cX12_draws 1 = .ok (.getfield 20, 3) := by decide +kernel
theorem dX12_draws_4 : decode cX12_draws 4 = .ok (.bipush 120, 2) := by decide +kernel
theorem dX12_draws_6 : decode cX12_draws 6 = .ok (.iload_n 1, 1) := by decide +kernel
theorem dX12_draws_7 : decode cX12_draws 7 = .ok (.iadd, 1) := by decide +kernel
theorem dX12_draws_8 : decode cX12_draws 8 = .ok (.iaload, 1) := by decide +kernel
theorem dX12_draws_9 : decode cX12_draws 9 = .ok (.istore 6, 2) := by decide +kernel
theorem dX12_draws_11 : decode cX12_draws 11 = .ok (.aload_n 0, 1) := by decide +kernel
theorem dX12_draws_12 : decode cX12_draws 12 = .ok (.iload_n 1, 1) := by decide +kernel
theorem dX12_draws_13 : decode cX12_draws 13 = .ok (.invokevirtual 321, 3) := by decide +kernel
theorem dX12_draws_16 : decode cX12_draws 16 = .ok (.istore 7, 2) := by decide +kernel
theorem dX12_draws_18 : decode cX12_draws 18 = .ok (.iload_n 2, 1) := by decide +kernel
theorem dX12_draws_19 : decode cX12_draws 19 = .ok (.invokestatic 348, 3) := by decide +kernel
theorem dX12_draws_22 : decode cX12_draws 22 = .ok (.istore 8, 2) := by decide +kernel
theorem dX12_draws_24 : decode cX12_draws 24 = .ok (.aload_n 0, 1) := by decide +kernel
theorem dX12_draws_25 : decode cX12_draws 25 = .ok (.iload 6, 2) := by decide +kernel
theorem dX12_draws_27 : decode cX12_draws 27 = .ok (.iload_n 2, 1) := by decide +kernel
theorem dX12_draws_28 : decode cX12_draws 28 = .ok (.iload_n 3, 1) := by decide +kernel
theorem dX12_draws_29 : decode cX12_draws 29 = .ok (.iload 4, 2) := by decide +kernel
theorem dX12_draws_31 : decode cX12_draws 31 = .ok (.iload 5, 2) := by decide +kernel
theorem dX12_draws_33 : decode cX12_draws 33 = .ok (.iconst 0, 1) := by decide +kernel
theorem dX12_draws_34 : decode cX12_draws 34 = .ok (.invokevirtual 351, 3) := by decide +kernel
theorem dX12_draws_37 : decode cX12_draws 37 = .ok (.aload_n 0, 1) := by decide +kernel
theorem dX12_draws_38 : decode cX12_draws 38 = .ok (.iload 6, 2) := by decide +kernel
theorem dX12_draws_40 : decode cX12_draws 40 = .ok (.iload 7, 2) := by decide +kernel
theorem dX12_draws_42 : decode cX12_draws 42 = .ok (.invokevirtual 371, 3) := by decide +kernel
theorem dX12_draws_45 : decode cX12_draws 45 = .ok (.iadd, 1) := by decide +kernel
theorem dX12_draws_46 : decode cX12_draws 46 = .ok (.istore 9, 2) := by decide +kernel
theorem dX12_draws_48 : decode cX12_draws 48 = .ok (.iload 8, 2) := by decide +kernel
theorem dX12_draws_50 : decode cX12_draws 50 = .ok (.iconst 1, 1) := by decide +kernel
theorem dX12_draws_51 : decode cX12_draws 51 = .ok (.if_icmp .le 28, 3) := by decide +kernel
theorem dX12_draws_54 : decode cX12_draws 54 = .ok (.aload_n 0, 1) := by decide +kernel
theorem dX12_draws_55 : decode cX12_draws 55 = .ok (.iload 6, 2) := by decide +kernel
theorem dX12_draws_57 : decode cX12_draws 57 = .ok (.iload_n 2, 1) := by decide +kernel
theorem dX12_draws_58 : decode cX12_draws 58 = .ok (.iload_n 3, 1) := by decide +kernel
theorem dX12_draws_59 : decode cX12_draws 59 = .ok (.iload 4, 2) := by decide +kernel
theorem dX12_draws_61 : decode cX12_draws 61 = .ok (.iload 5, 2) := by decide +kernel
theorem dX12_draws_63 : decode cX12_draws 63 = .ok (.iconst 1, 1) := by decide +kernel
theorem dX12_draws_64 : decode cX12_draws 64 = .ok (.invokevirtual 351, 3) := by decide +kernel
theorem dX12_draws_67 : decode cX12_draws 67 = .ok (.aload_n 0, 1) := by decide +kernel
theorem dX12_draws_68 : decode cX12_draws 68 = .ok (.iload 6, 2) := by decide +kernel
theorem dX12_draws_70 : decode cX12_draws 70 = .ok (.iload 7, 2) := by decide +kernel
theorem dX12_draws_72 : decode cX12_draws 72 = .ok (.invokevirtual 371, 3) := by decide +kernel
theorem dX12_draws_75 : decode cX12_draws 75 = .ok (.iadd, 1) := by decide +kernel
theorem dX12_draws_76 : decode cX12_draws 76 = .ok (.goto 4, 3) := by decide +kernel
theorem dX12_draws_79 : decode cX12_draws 79 = .ok (.iconst 0, 1) := by decide +kernel
theorem dX12_draws_80 : decode cX12_draws 80 = .ok (.istore 10, 2) := by decide +kernel
theorem dX12_draws_82 : decode cX12_draws 82 = .ok (.iload 8, 2) := by decide +kernel
theorem dX12_draws_84 : decode cX12_draws 84 = .ok (.iconst 2, 1) := by decide +kernel
theorem dX12_draws_85 : decode cX12_draws 85 = .ok (.if_icmp .le 28, 3) := by decide +kernel
theorem dX12_draws_88 : decode cX12_draws 88 = .ok (.aload_n 0, 1) := by decide +kernel
theorem dX12_draws_89 : decode cX12_draws 89 = .ok (.iload 6, 2) := by decide +kernel
theorem dX12_draws_91 : decode cX12_draws 91 = .ok (.iload_n 2, 1) := by decide +kernel
theorem dX12_draws_92 : decode cX12_draws 92 = .ok (.iload_n 3, 1) := by decide +kernel
theorem dX12_draws_93 : decode cX12_draws 93 = .ok (.iload 4, 2) := by decide +kernel
theorem dX12_draws_95 : decode cX12_draws 95 = .ok (.iload 5, 2) := by decide +kernel
theorem dX12_draws_97 : decode cX12_draws 97 = .ok (.iconst 2, 1) := by decide +kernel
theorem dX12_draws_98 : decode cX12_draws 98 = .ok (.invokevirtual 351, 3) := by decide +kernel
theorem dX12_draws_101 : decode cX12_draws 101 = .ok (.aload_n 0, 1) := by decide +kernel
theorem dX12_draws_102 : decode cX12_draws 102 = .ok (.iload 6, 2) := by decide +kernel
theorem dX12_draws_104 : decode cX12_draws 104 = .ok (.iload 7, 2) := by decide +kernel
theorem dX12_draws_106 : decode cX12_draws 106 = .ok (.invokevirtual 371, 3) := by decide +kernel
theorem dX12_draws_109 : decode cX12_draws 109 = .ok (.iadd, 1) := by decide +kernel
theorem dX12_draws_110 : decode cX12_draws 110 = .ok (.goto 4, 3) := by decide +kernel
theorem dX12_draws_113 : decode cX12_draws 113 = .ok (.iconst 0, 1) := by decide +kernel
theorem dX12_draws_114 : decode cX12_draws 114 = .ok (.istore 11, 2) := by decide +kernel
theorem dX12_draws_116 : decode cX12_draws 116 = .ok (.aload_n 0, 1) := by decide +kernel
theorem dX12_draws_117 : decode cX12_draws 117 = .ok (.iload_n 1, 1) := by decide +kernel
theorem dX12_draws_118 : decode cX12_draws 118 = .ok (.iload_n 2, 1) := by decide +kernel
theorem dX12_draws_119 : decode cX12_draws 119 = .ok (.iload 4, 2) := by decide +kernel
theorem dX12_draws_121 : decode cX12_draws 121 = .ok (.iload 5, 2) := by decide +kernel
theorem dX12_draws_123 : decode cX12_draws 123 = .ok (.iload 9, 2) := by decide +kernel
theorem dX12_draws_125 : decode cX12_draws 125 = .ok (.iload 10, 2) := by decide +kernel
theorem dX12_draws_127 : decode cX12_draws 127 = .ok (.iload 11, 2) := by decide +kernel
theorem dX12_draws_129 : decode cX12_draws 129 = .ok (.aload_n 0, 1) := by decide +kernel
theorem dX12_draws_130 : decode cX12_draws 130 = .ok (.iload_n 1, 1) := by decide +kernel
theorem dX12_draws_131 : decode cX12_draws 131 = .ok (.invokevirtual 318, 3) := by decide +kernel
theorem dX12_draws_134 : decode cX12_draws 134 = .ok (.invokevirtual 355, 3) := by decide +kernel
theorem dX12_draws_137 : decode cX12_draws 137 = .ok (.istore 12, 2) := by decide +kernel
theorem dX12_draws_139 : decode cX12_draws 139 = .ok (.aload_n 0, 1) := by decide +kernel
theorem dX12_draws_140 : decode cX12_draws 140 = .ok (.iload_n 1, 1) := by decide +kernel
theorem dX12_draws_141 : decode cX12_draws 141 = .ok (.iload_n 2, 1) := by decide +kernel
theorem dX12_draws_142 : decode cX12_draws 142 = .ok (.iload_n 3, 1) := by decide +kernel
theorem dX12_draws_143 : decode cX12_draws 143 = .ok (.iload 4, 2) := by decide +kernel
theorem dX12_draws_145 : decode cX12_draws 145 = .ok (.iload 5, 2) := by decide +kernel
theorem dX12_draws_147 : decode cX12_draws 147 = .ok (.iload 12, 2) := by decide +kernel
theorem dX12_draws_149 : decode cX12_draws 149 = .ok (.invokevirtual 374, 3) := by decide +kernel
theorem dX12_draws_152 : decode cX12_draws 152 = .ok (.iload 12, 2) := by decide +kernel
theorem dX12_draws_154 : decode cX12_draws 154 = .ok (.ireturn, 1) := by decide +kernel
theorem dX12_trial_0 : decode cX12_trial 0 = .ok (.aload_n 0, 1) := by decide +kernel
theorem dX12_trial_1 : decode cX12_trial 1 = .ok (.invokevirtual 211, 3) := by decide +kernel
theorem dX12_trial_4 : decode cX12_trial 4 = .ok (.aload_n 0, 1) := by decide +kernel
theorem dX12_trial_5 : decode cX12_trial 5 = .ok (.iload_n 1, 1) := by decide +kernel
theorem dX12_trial_6 : decode cX12_trial 6 = .ok (.iload_n 2, 1) := by decide +kernel
theorem dX12_trial_7 : decode cX12_trial 7 = .ok (.iload_n 3, 1) := by decide +kernel
theorem dX12_trial_8 : decode cX12_trial 8 = .ok (.iload 4, 2) := by decide +kernel
theorem dX12_trial_10 : decode cX12_trial 10 = .ok (.iload 5, 2) := by decide +kernel
theorem dX12_trial_12 : decode cX12_trial 12 = .ok (.invokevirtual 359, 3) := by decide +kernel
theorem dX12_trial_15 : decode cX12_trial 15 = .ok (.istore 6, 2) := by decide +kernel
theorem dX12_trial_17 : decode cX12_trial 17 = .ok (.iload 6, 2) := by decide +kernel
theorem dX12_trial_19 : decode cX12_trial 19 = .ok (.ifCond .eq 10, 3) := by decide +kernel
theorem dX12_trial_22 : decode cX12_trial 22 = .ok (.aload_n 0, 1) := by decide +kernel
theorem dX12_trial_23 : decode cX12_trial 23 = .ok (.iload 6, 2) := by decide +kernel
theorem dX12_trial_25 : decode cX12_trial 25 = .ok (.invokevirtual 214, 3) := by decide +kernel
theorem dX12_trial_28 : decode cX12_trial 28 = .ok (.ireturn, 1) := by decide +kernel
theorem dX12_trial_29 : decode cX12_trial 29 = .ok (.aload_n 0, 1) := by decide +kernel
theorem dX12_trial_30 : decode cX12_trial 30 = .ok (.getfield 226, 3) := by decide +kernel
theorem dX12_trial_33 : decode cX12_trial 33 = .ok (.sipush 1000, 3) := by decide +kernel
theorem dX12_trial_36 : decode cX12_trial 36 = .ok (.if_icmp .ne 11, 3) := by decide +kernel
theorem dX12_trial_39 : decode cX12_trial 39 = .ok (.aload_n 0, 1) := by decide +kernel
theorem dX12_trial_40 : decode cX12_trial 40 = .ok (.iconst 3, 1) := by decide +kernel
theorem dX12_trial_41 : decode cX12_trial 41 = .ok (.invokevirtual 214, 3) := by decide +kernel
theorem dX12_trial_44 : decode cX12_trial 44 = .ok (.goto 14, 3) := by decide +kernel
theorem dX12_trial_47 : decode cX12_trial 47 = .ok (.aload_n 0, 1) := by decide +kernel
theorem dX12_trial_48 : decode cX12_trial 48 = .ok (.iload_n 1, 1) := by decide +kernel
theorem dX12_trial_49 : decode cX12_trial 49 = .ok (.iload_n 2, 1) := by decide +kernel
theorem dX12_trial_50 : decode cX12_trial 50 = .ok (.iload_n 3, 1) := by decide +kernel
theorem dX12_trial_51 : decode cX12_trial 51 = .ok (.iload 4, 2) := by decide +kernel
theorem dX12_trial_53 : decode cX12_trial 53 = .ok (.iload 5, 2) := by decide +kernel
theorem dX12_trial_55 : decode cX12_trial 55 = .ok (.invokevirtual 378, 3) := by decide +kernel
theorem dX12_trial_58 : decode cX12_trial 58 = .ok (.ireturn, 1) := by decide +kernel
theorem dX12_tell_0 : decode cX12_tell 0 = .ok (.aload_n 0, 1) := by decide +kernel
theorem dX12_tell_1 : decode cX12_tell 1 = .ok (.invokevirtual 211, 3) := by decide +kernel
theorem dX12_tell_4 : decode cX12_tell 4 = .ok (.aload_n 0, 1) := by decide +kernel
theorem dX12_tell_5 : decode cX12_tell 5 = .ok (.iload_n 1, 1) := by decide +kernel
theorem dX12_tell_6 : decode cX12_tell 6 = .ok (.iload_n 2, 1) := by decide +kernel
theorem dX12_tell_7 : decode cX12_tell 7 = .ok (.iload_n 3, 1) := by decide +kernel
theorem dX12_tell_8 : decode cX12_tell 8 = .ok (.iload 4, 2) := by decide +kernel
theorem dX12_tell_10 : decode cX12_tell 10 = .ok (.iload 5, 2) := by decide +kernel
theorem dX12_tell_12 : decode cX12_tell 12 = .ok (.invokevirtual 359, 3) := by decide +kernel
theorem dX12_tell_15 : decode cX12_tell 15 = .ok (.istore 7, 2) := by decide +kernel
theorem dX12_tell_17 : decode cX12_tell 17 = .ok (.iload 7, 2) := by decide +kernel
theorem dX12_tell_19 : decode cX12_tell 19 = .ok (.ifCond .eq 10, 3) := by decide +kernel
theorem dX12_tell_22 : decode cX12_tell 22 = .ok (.aload_n 0, 1) := by decide +kernel
theorem dX12_tell_23 : decode cX12_tell 23 = .ok (.iload 7, 2) := by decide +kernel
theorem dX12_tell_25 : decode cX12_tell 25 = .ok (.invokevirtual 214, 3) := by decide +kernel
theorem dX12_tell_28 : decode cX12_tell 28 = .ok (.ireturn, 1) := by decide +kernel
theorem dX12_tell_29 : decode cX12_tell 29 = .ok (.iload_n 2, 1) := by decide +kernel
theorem dX12_tell_30 : decode cX12_tell 30 = .ok (.ifCond .eq 8, 3) := by decide +kernel
theorem dX12_tell_33 : decode cX12_tell 33 = .ok (.iload_n 2, 1) := by decide +kernel
theorem dX12_tell_34 : decode cX12_tell 34 = .ok (.iconst 2, 1) := by decide +kernel
theorem dX12_tell_35 : decode cX12_tell 35 = .ok (.if_icmp .ne 7, 3) := by decide +kernel
theorem dX12_tell_38 : decode cX12_tell 38 = .ok (.iconst 2, 1) := by decide +kernel
theorem dX12_tell_39 : decode cX12_tell 39 = .ok (.goto 20, 3) := by decide +kernel
theorem dX12_tell_42 : decode cX12_tell 42 = .ok (.iload_n 2, 1) := by decide +kernel
theorem dX12_tell_43 : decode cX12_tell 43 = .ok (.iconst 1, 1) := by decide +kernel
theorem dX12_tell_44 : decode cX12_tell 44 = .ok (.if_icmp .eq 8, 3) := by decide +kernel
theorem dX12_tell_47 : decode cX12_tell 47 = .ok (.iload_n 2, 1) := by decide +kernel
theorem dX12_tell_48 : decode cX12_tell 48 = .ok (.iconst 5, 1) := by decide +kernel
theorem dX12_tell_49 : decode cX12_tell 49 = .ok (.if_icmp .ne 7, 3) := by decide +kernel
theorem dX12_tell_52 : decode cX12_tell 52 = .ok (.iconst 1, 1) := by decide +kernel
theorem dX12_tell_53 : decode cX12_tell 53 = .ok (.goto 6, 3) := by decide +kernel
theorem dX12_tell_56 : decode cX12_tell 56 = .ok (.ldc_w 381, 3) := by decide +kernel
theorem dX12_tell_59 : decode cX12_tell 59 = .ok (.istore 8, 2) := by decide +kernel
theorem dX12_tell_61 : decode cX12_tell 61 = .ok (.iload 6, 2) := by decide +kernel
theorem dX12_tell_63 : decode cX12_tell 63 = .ok (.iconst 0, 1) := by decide +kernel
theorem dX12_tell_64 : decode cX12_tell 64 = .ok (.iload 8, 2) := by decide +kernel
theorem dX12_tell_66 : decode cX12_tell 66 = .ok (.invokestatic 203, 3) := by decide +kernel
theorem dX12_tell_69 : decode cX12_tell 69 = .ok (.ifCond .ne 9, 3) := by decide +kernel
theorem dX12_tell_72 : decode cX12_tell 72 = .ok (.aload_n 0, 1) := by decide +kernel
theorem dX12_tell_73 : decode cX12_tell 73 = .ok (.iconst 2, 1) := by decide +kernel
theorem dX12_tell_74 : decode cX12_tell 74 = .ok (.invokevirtual 214, 3) := by decide +kernel
theorem dX12_tell_77 : decode cX12_tell 77 = .ok (.ireturn, 1) := by decide +kernel
theorem dX12_tell_78 : decode cX12_tell 78 = .ok (.aload_n 0, 1) := by decide +kernel
theorem dX12_tell_79 : decode cX12_tell 79 = .ok (.getfield 226, 3) := by decide +kernel
theorem dX12_tell_82 : decode cX12_tell 82 = .ok (.sipush 1000, 3) := by decide +kernel
theorem dX12_tell_85 : decode cX12_tell 85 = .ok (.if_icmp .ne 9, 3) := by decide +kernel
theorem dX12_tell_88 : decode cX12_tell 88 = .ok (.aload_n 0, 1) := by decide +kernel
theorem dX12_tell_89 : decode cX12_tell 89 = .ok (.iconst 3, 1) := by decide +kernel
theorem dX12_tell_90 : decode cX12_tell 90 = .ok (.invokevirtual 214, 3) := by decide +kernel
theorem dX12_tell_93 : decode cX12_tell 93 = .ok (.ireturn, 1) := by decide +kernel
theorem dX12_tell_94 : decode cX12_tell 94 = .ok (.aload_n 0, 1) := by decide +kernel
theorem dX12_tell_95 : decode cX12_tell 95 = .ok (.iload_n 1, 1) := by decide +kernel
theorem dX12_tell_96 : decode cX12_tell 96 = .ok (.iload_n 2, 1) := by decide +kernel
theorem dX12_tell_97 : decode cX12_tell 97 = .ok (.iload_n 3, 1) := by decide +kernel
theorem dX12_tell_98 : decode cX12_tell 98 = .ok (.iload 4, 2) := by decide +kernel
theorem dX12_tell_100 : decode cX12_tell 100 = .ok (.iload 5, 2) := by decide +kernel
theorem dX12_tell_102 : decode cX12_tell 102 = .ok (.iload 6, 2) := by decide +kernel
theorem dX12_tell_104 : decode cX12_tell 104 = .ok (.invokevirtual 374, 3) := by decide +kernel
theorem dX12_tell_107 : decode cX12_tell 107 = .ok (.aload_n 0, 1) := by decide +kernel
theorem dX12_tell_108 : decode cX12_tell 108 = .ok (.getfield 226, 3) := by decide +kernel
theorem dX12_tell_111 : decode cX12_tell 111 = .ok (.ireturn, 1) := by decide +kernel
theorem dX12_run_0 : decode cX12_run 0 = .ok (.aload_n 0, 1) := by decide +kernel
theorem dX12_run_1 : decode cX12_run 1 = .ok (.invokevirtual 211, 3) := by decide +kernel
theorem dX12_run_4 : decode cX12_run 4 = .ok (.aload_n 0, 1) := by decide +kernel
theorem dX12_run_5 : decode cX12_run 5 = .ok (.getfield 220, 3) := by decide +kernel
theorem dX12_run_8 : decode cX12_run 8 = .ok (.ifCond .eq 29, 3) := by decide +kernel
theorem dX12_run_11 : decode cX12_run 11 = .ok (.iload_n 1, 1) := by decide +kernel
theorem dX12_run_12 : decode cX12_run 12 = .ok (.iconst 0, 1) := by decide +kernel
theorem dX12_run_13 : decode cX12_run 13 = .ok (.aload_n 0, 1) := by decide +kernel
theorem dX12_run_14 : decode cX12_run 14 = .ok (.getfield 20, 3) := by decide +kernel
theorem dX12_run_17 : decode cX12_run 17 = .ok (.sipush 240, 3) := by decide +kernel
theorem dX12_run_20 : decode cX12_run 20 = .ok (.iaload, 1) := by decide +kernel
theorem dX12_run_21 : decode cX12_run 21 = .ok (.iconst 1, 1) := by decide +kernel
theorem dX12_run_22 : decode cX12_run 22 = .ok (.isub, 1) := by decide +kernel
theorem dX12_run_23 : decode cX12_run 23 = .ok (.invokestatic 203, 3) := by decide +kernel
theorem dX12_run_26 : decode cX12_run 26 = .ok (.ifCond .eq 11, 3) := by decide +kernel
theorem dX12_run_29 : decode cX12_run 29 = .ok (.aload_n 0, 1) := by decide +kernel
theorem dX12_run_30 : decode cX12_run 30 = .ok (.iload_n 2, 1) := by decide +kernel
theorem dX12_run_31 : decode cX12_run 31 = .ok (.invokevirtual 315, 3) := by decide +kernel
theorem dX12_run_34 : decode cX12_run 34 = .ok (.ifCond .ne 9, 3) := by decide +kernel
theorem dX12_run_37 : decode cX12_run 37 = .ok (.aload_n 0, 1) := by decide +kernel
theorem dX12_run_38 : decode cX12_run 38 = .ok (.iconst 1, 1) := by decide +kernel
theorem dX12_run_39 : decode cX12_run 39 = .ok (.invokevirtual 214, 3) := by decide +kernel
theorem dX12_run_42 : decode cX12_run 42 = .ok (.ireturn, 1) := by decide +kernel
theorem dX12_run_43 : decode cX12_run 43 = .ok (.aload_n 0, 1) := by decide +kernel
theorem dX12_run_44 : decode cX12_run 44 = .ok (.getfield 20, 3) := by decide +kernel
theorem dX12_run_47 : decode cX12_run 47 = .ok (.sipush 206, 3) := by decide +kernel
theorem dX12_run_50 : decode cX12_run 50 = .ok (.iload_n 1, 1) := by decide +kernel
theorem dX12_run_51 : decode cX12_run 51 = .ok (.iadd, 1) := by decide +kernel
theorem dX12_run_52 : decode cX12_run 52 = .ok (.iaload, 1) := by decide +kernel
theorem dX12_run_53 : decode cX12_run 53 = .ok (.aload_n 0, 1) := by decide +kernel
theorem dX12_run_54 : decode cX12_run 54 = .ok (.getfield 20, 3) := by decide +kernel
theorem dX12_run_57 : decode cX12_run 57 = .ok (.sipush 202, 3) := by decide +kernel
theorem dX12_run_60 : decode cX12_run 60 = .ok (.iload_n 1, 1) := by decide +kernel
theorem dX12_run_61 : decode cX12_run 61 = .ok (.iadd, 1) := by decide +kernel
theorem dX12_run_62 : decode cX12_run 62 = .ok (.iaload, 1) := by decide +kernel
theorem dX12_run_63 : decode cX12_run 63 = .ok (.isub, 1) := by decide +kernel
theorem dX12_run_64 : decode cX12_run 64 = .ok (.aload_n 0, 1) := by decide +kernel
theorem dX12_run_65 : decode cX12_run 65 = .ok (.getfield 20, 3) := by decide +kernel
theorem dX12_run_68 : decode cX12_run 68 = .ok (.sipush 210, 3) := by decide +kernel
theorem dX12_run_71 : decode cX12_run 71 = .ok (.iload_n 1, 1) := by decide +kernel
theorem dX12_run_72 : decode cX12_run 72 = .ok (.iadd, 1) := by decide +kernel
theorem dX12_run_73 : decode cX12_run 73 = .ok (.iaload, 1) := by decide +kernel
theorem dX12_run_74 : decode cX12_run 74 = .ok (.idiv, 1) := by decide +kernel
theorem dX12_run_75 : decode cX12_run 75 = .ok (.iconst 1, 1) := by decide +kernel
theorem dX12_run_76 : decode cX12_run 76 = .ok (.iadd, 1) := by decide +kernel
theorem dX12_run_77 : decode cX12_run 77 = .ok (.istore_n 3, 1) := by decide +kernel
theorem dX12_run_78 : decode cX12_run 78 = .ok (.aload_n 0, 1) := by decide +kernel
theorem dX12_run_79 : decode cX12_run 79 = .ok (.getfield 20, 3) := by decide +kernel
theorem dX12_run_82 : decode cX12_run 82 = .ok (.sipush 214, 3) := by decide +kernel
theorem dX12_run_85 : decode cX12_run 85 = .ok (.iload_n 1, 1) := by decide +kernel
theorem dX12_run_86 : decode cX12_run 86 = .ok (.iadd, 1) := by decide +kernel
theorem dX12_run_87 : decode cX12_run 87 = .ok (.iaload, 1) := by decide +kernel
theorem dX12_run_88 : decode cX12_run 88 = .ok (.istore 4, 2) := by decide +kernel
theorem dX12_run_90 : decode cX12_run 90 = .ok (.iload_n 3, 1) := by decide +kernel
theorem dX12_run_91 : decode cX12_run 91 = .ok (.iload 4, 2) := by decide +kernel
theorem dX12_run_93 : decode cX12_run 93 = .ok (.imul, 1) := by decide +kernel
theorem dX12_run_94 : decode cX12_run 94 = .ok (.istore 5, 2) := by decide +kernel
theorem dX12_run_96 : decode cX12_run 96 = .ok (.aload_n 0, 1) := by decide +kernel
theorem dX12_run_97 : decode cX12_run 97 = .ok (.getfield 226, 3) := by decide +kernel
theorem dX12_run_100 : decode cX12_run 100 = .ok (.iload 5, 2) := by decide +kernel
theorem dX12_run_102 : decode cX12_run 102 = .ok (.iadd, 1) := by decide +kernel
theorem dX12_run_103 : decode cX12_run 103 = .ok (.sipush 1000, 3) := by decide +kernel
theorem dX12_run_106 : decode cX12_run 106 = .ok (.if_icmp .le 9, 3) := by decide +kernel
theorem dX12_run_109 : decode cX12_run 109 = .ok (.aload_n 0, 1) := by decide +kernel
theorem dX12_run_110 : decode cX12_run 110 = .ok (.iconst 3, 1) := by decide +kernel
theorem dX12_run_111 : decode cX12_run 111 = .ok (.invokevirtual 214, 3) := by decide +kernel
theorem dX12_run_114 : decode cX12_run 114 = .ok (.ireturn, 1) := by decide +kernel
theorem dX12_run_115 : decode cX12_run 115 = .ok (.aload_n 0, 1) := by decide +kernel
theorem dX12_run_116 : decode cX12_run 116 = .ok (.getfield 20, 3) := by decide +kernel
theorem dX12_run_119 : decode cX12_run 119 = .ok (.sipush 198, 3) := by decide +kernel
theorem dX12_run_122 : decode cX12_run 122 = .ok (.iload_n 1, 1) := by decide +kernel
theorem dX12_run_123 : decode cX12_run 123 = .ok (.iadd, 1) := by decide +kernel
theorem dX12_run_124 : decode cX12_run 124 = .ok (.iaload, 1) := by decide +kernel
theorem dX12_run_125 : decode cX12_run 125 = .ok (.istore 6, 2) := by decide +kernel
theorem dX12_run_127 : decode cX12_run 127 = .ok (.iconst 0, 1) := by decide +kernel
theorem dX12_run_128 : decode cX12_run 128 = .ok (.istore 7, 2) := by decide +kernel
theorem dX12_run_130 : decode cX12_run 130 = .ok (.iload 7, 2) := by decide +kernel
theorem dX12_run_132 : decode cX12_run 132 = .ok (.iload 5, 2) := by decide +kernel
theorem dX12_run_134 : decode cX12_run 134 = .ok (.if_icmp .ge 62, 3) := by decide +kernel
theorem dX12_run_137 : decode cX12_run 137 = .ok (.iload 7, 2) := by decide +kernel
theorem dX12_run_139 : decode cX12_run 139 = .ok (.iload 4, 2) := by decide +kernel
theorem dX12_run_141 : decode cX12_run 141 = .ok (.idiv, 1) := by decide +kernel
theorem dX12_run_142 : decode cX12_run 142 = .ok (.istore 8, 2) := by decide +kernel
theorem dX12_run_144 : decode cX12_run 144 = .ok (.aload_n 0, 1) := by decide +kernel
theorem dX12_run_145 : decode cX12_run 145 = .ok (.getfield 53, 3) := by decide +kernel
theorem dX12_run_148 : decode cX12_run 148 = .ok (.iload 7, 2) := by decide +kernel
theorem dX12_run_150 : decode cX12_run 150 = .ok (.aload_n 0, 1) := by decide +kernel
theorem dX12_run_151 : decode cX12_run 151 = .ok (.getfield 20, 3) := by decide +kernel
theorem dX12_run_154 : decode cX12_run 154 = .ok (.sipush 202, 3) := by decide +kernel
theorem dX12_run_157 : decode cX12_run 157 = .ok (.iload_n 1, 1) := by decide +kernel
theorem dX12_run_158 : decode cX12_run 158 = .ok (.iadd, 1) := by decide +kernel
theorem dX12_run_159 : decode cX12_run 159 = .ok (.iaload, 1) := by decide +kernel
theorem dX12_run_160 : decode cX12_run 160 = .ok (.aload_n 0, 1) := by decide +kernel
theorem dX12_run_161 : decode cX12_run 161 = .ok (.getfield 20, 3) := by decide +kernel
theorem dX12_run_164 : decode cX12_run 164 = .ok (.sipush 210, 3) := by decide +kernel
theorem dX12_run_167 : decode cX12_run 167 = .ok (.iload_n 1, 1) := by decide +kernel
theorem dX12_run_168 : decode cX12_run 168 = .ok (.iadd, 1) := by decide +kernel
theorem dX12_run_169 : decode cX12_run 169 = .ok (.iaload, 1) := by decide +kernel
theorem dX12_run_170 : decode cX12_run 170 = .ok (.iload 6, 2) := by decide +kernel
theorem dX12_run_172 : decode cX12_run 172 = .ok (.iconst 1, 1) := by decide +kernel
theorem dX12_run_173 : decode cX12_run 173 = .ok (.if_icmp .ne 12, 3) := by decide +kernel
theorem dX12_run_176 : decode cX12_run 176 = .ok (.iload_n 3, 1) := by decide +kernel
theorem dX12_run_177 : decode cX12_run 177 = .ok (.iconst 1, 1) := by decide +kernel
theorem dX12_run_178 : decode cX12_run 178 = .ok (.isub, 1) := by decide +kernel
theorem dX12_run_179 : decode cX12_run 179 = .ok (.iload 8, 2) := by decide +kernel
theorem dX12_run_181 : decode cX12_run 181 = .ok (.isub, 1) := by decide +kernel
theorem dX12_run_182 : decode cX12_run 182 = .ok (.goto 5, 3) := by decide +kernel
theorem dX12_run_185 : decode cX12_run 185 = .ok (.iload 8, 2) := by decide +kernel
theorem dX12_run_187 : decode cX12_run 187 = .ok (.imul, 1) := by decide +kernel
theorem dX12_run_188 : decode cX12_run 188 = .ok (.iadd, 1) := by decide +kernel
theorem dX12_run_189 : decode cX12_run 189 = .ok (.iastore, 1) := by decide +kernel
theorem dX12_run_190 : decode cX12_run 190 = .ok (.iinc 7 1, 3) := by decide +kernel
theorem dX12_run_193 : decode cX12_run 193 = .ok (.goto (-63), 3) := by decide +kernel
theorem dX12_run_196 : decode cX12_run 196 = .ok (.iconst 0, 1) := by decide +kernel
theorem dX12_run_197 : decode cX12_run 197 = .ok (.istore 7, 2) := by decide +kernel
theorem dX12_run_199 : decode cX12_run 199 = .ok (.iload 5, 2) := by decide +kernel
theorem dX12_run_201 : decode cX12_run 201 = .ok (.istore 8, 2) := by decide +kernel
theorem dX12_run_203 : decode cX12_run 203 = .ok (.iload 8, 2) := by decide +kernel
theorem dX12_run_205 : decode cX12_run 205 = .ok (.ifCond .le 86, 3) := by decide +kernel
theorem dX12_run_208 : decode cX12_run 208 = .ok (.iload 6, 2) := by decide +kernel
theorem dX12_run_210 : decode cX12_run 210 = .ok (.iconst 2, 1) := by decide +kernel
theorem dX12_run_211 : decode cX12_run 211 = .ok (.if_icmp .ne 12, 3) := by decide +kernel
theorem dX12_run_214 : decode cX12_run 214 = .ok (.aload_n 0, 1) := by decide +kernel
theorem dX12_run_215 : decode cX12_run 215 = .ok (.iload 8, 2) := by decide +kernel
theorem dX12_run_217 : decode cX12_run 217 = .ok (.invokevirtual 368, 3) := by decide +kernel
theorem dX12_run_220 : decode cX12_run 220 = .ok (.goto 4, 3) := by decide +kernel
theorem dX12_run_223 : decode cX12_run 223 = .ok (.iconst 0, 1) := by decide +kernel
theorem dX12_run_224 : decode cX12_run 224 = .ok (.istore 9, 2) := by decide +kernel
theorem dX12_run_226 : decode cX12_run 226 = .ok (.aload_n 0, 1) := by decide +kernel
theorem dX12_run_227 : decode cX12_run 227 = .ok (.getfield 53, 3) := by decide +kernel
theorem dX12_run_230 : decode cX12_run 230 = .ok (.iload 9, 2) := by decide +kernel
theorem dX12_run_232 : decode cX12_run 232 = .ok (.iaload, 1) := by decide +kernel
theorem dX12_run_233 : decode cX12_run 233 = .ok (.istore 10, 2) := by decide +kernel
theorem dX12_run_235 : decode cX12_run 235 = .ok (.iload 9, 2) := by decide +kernel
theorem dX12_run_237 : decode cX12_run 237 = .ok (.istore 11, 2) := by decide +kernel
theorem dX12_run_239 : decode cX12_run 239 = .ok (.iload 11, 2) := by decide +kernel
theorem dX12_run_241 : decode cX12_run 241 = .ok (.iload 8, 2) := by decide +kernel
theorem dX12_run_243 : decode cX12_run 243 = .ok (.iconst 1, 1) := by decide +kernel
theorem dX12_run_244 : decode cX12_run 244 = .ok (.isub, 1) := by decide +kernel
theorem dX12_run_245 : decode cX12_run 245 = .ok (.if_icmp .ge 25, 3) := by decide +kernel
theorem dX12_run_248 : decode cX12_run 248 = .ok (.aload_n 0, 1) := by decide +kernel
theorem dX12_run_249 : decode cX12_run 249 = .ok (.getfield 53, 3) := by decide +kernel
theorem dX12_run_252 : decode cX12_run 252 = .ok (.iload 11, 2) := by decide +kernel
theorem dX12_run_254 : decode cX12_run 254 = .ok (.aload_n 0, 1) := by decide +kernel
theorem dX12_run_255 : decode cX12_run 255 = .ok (.getfield 53, 3) := by decide +kernel
theorem dX12_run_258 : decode cX12_run 258 = .ok (.iload 11, 2) := by decide +kernel
theorem dX12_run_260 : decode cX12_run 260 = .ok (.iconst 1, 1) := by decide +kernel
theorem dX12_run_261 : decode cX12_run 261 = .ok (.iadd, 1) := by decide +kernel
theorem dX12_run_262 : decode cX12_run 262 = .ok (.iaload, 1) := by decide +kernel
theorem dX12_run_263 : decode cX12_run 263 = .ok (.iastore, 1) := by decide +kernel
theorem dX12_run_264 : decode cX12_run 264 = .ok (.iinc 11 1, 3) := by decide +kernel
theorem dX12_run_267 : decode cX12_run 267 = .ok (.goto (-28), 3) := by decide +kernel
theorem dX12_run_270 : decode cX12_run 270 = .ok (.iload 7, 2) := by decide +kernel
theorem dX12_run_272 : decode cX12_run 272 = .ok (.aload_n 0, 1) := by decide +kernel
theorem dX12_run_273 : decode cX12_run 273 = .ok (.iload_n 2, 1) := by decide +kernel
theorem dX12_run_274 : decode cX12_run 274 = .ok (.iconst 1, 1) := by decide +kernel
theorem dX12_run_275 : decode cX12_run 275 = .ok (.iload 10, 2) := by decide +kernel
theorem dX12_run_277 : decode cX12_run 277 = .ok (.iconst 0, 1) := by decide +kernel
theorem dX12_run_278 : decode cX12_run 278 = .ok (.iconst 0, 1) := by decide +kernel
theorem dX12_run_279 : decode cX12_run 279 = .ok (.invokevirtual 378, 3) := by decide +kernel
theorem dX12_run_282 : decode cX12_run 282 = .ok (.iadd, 1) := by decide +kernel
theorem dX12_run_283 : decode cX12_run 283 = .ok (.istore 7, 2) := by decide +kernel
theorem dX12_run_285 : decode cX12_run 285 = .ok (.iinc 8 (-1), 3) := by decide +kernel
theorem dX12_run_288 : decode cX12_run 288 = .ok (.goto (-85), 3) := by decide +kernel
theorem dX12_run_291 : decode cX12_run 291 = .ok (.iload 7, 2) := by decide +kernel
theorem dX12_run_293 : decode cX12_run 293 = .ok (.ireturn, 1) := by decide +kernel
theorem dX12_held_0 : decode cX12_held 0 = .ok (.iload_n 0, 1) := by decide +kernel
theorem dX12_held_1 : decode cX12_held 1 = .ok (.iconst 1, 1) := by decide +kernel
theorem dX12_held_2 : decode cX12_held 2 = .ok (.if_icmp .ge 7, 3) := by decide +kernel
theorem dX12_held_5 : decode cX12_held 5 = .ok (.iconst 1, 1) := by decide +kernel
theorem dX12_held_6 : decode cX12_held 6 = .ok (.goto 17, 3) := by decide +kernel
theorem dX12_held_9 : decode cX12_held 9 = .ok (.iload_n 0, 1) := by decide +kernel
theorem dX12_held_10 : decode cX12_held 10 = .ok (.sipush 400, 3) := by decide +kernel
theorem dX12_held_13 : decode cX12_held 13 = .ok (.if_icmp .le 9, 3) := by decide +kernel
theorem dX12_held_16 : decode cX12_held 16 = .ok (.sipush 400, 3) := by decide +kernel
theorem dX12_held_19 : decode cX12_held 19 = .ok (.goto 4, 3) := by decide +kernel
theorem dX12_held_22 : decode cX12_held 22 = .ok (.iload_n 0, 1) := by decide +kernel
theorem dX12_held_23 : decode cX12_held 23 = .ok (.ireturn, 1) := by decide +kernel
theorem dX12_climb_0 : decode cX12_climb 0 = .ok (.aload_n 0, 1) := by decide +kernel
theorem dX12_climb_1 : decode cX12_climb 1 = .ok (.invokevirtual 211, 3) := by decide +kernel
theorem dX12_climb_4 : decode cX12_climb 4 = .ok (.aload_n 0, 1) := by decide +kernel
theorem dX12_climb_5 : decode cX12_climb 5 = .ok (.iload_n 1, 1) := by decide +kernel
theorem dX12_climb_6 : decode cX12_climb 6 = .ok (.invokevirtual 315, 3) := by decide +kernel
theorem dX12_climb_9 : decode cX12_climb 9 = .ok (.ifCond .ne 9, 3) := by decide +kernel
theorem dX12_climb_12 : decode cX12_climb 12 = .ok (.aload_n 0, 1) := by decide +kernel
theorem dX12_climb_13 : decode cX12_climb 13 = .ok (.iconst 1, 1) := by decide +kernel
theorem dX12_climb_14 : decode cX12_climb 14 = .ok (.invokevirtual 214, 3) := by decide +kernel
theorem dX12_climb_17 : decode cX12_climb 17 = .ok (.ireturn, 1) := by decide +kernel
theorem dX12_climb_18 : decode cX12_climb 18 = .ok (.iload_n 2, 1) := by decide +kernel
theorem dX12_climb_19 : decode cX12_climb 19 = .ok (.iconst 1, 1) := by decide +kernel
theorem dX12_climb_20 : decode cX12_climb 20 = .ok (.sipush 400, 3) := by decide +kernel
theorem dX12_climb_23 : decode cX12_climb 23 = .ok (.invokestatic 203, 3) := by decide +kernel
theorem dX12_climb_26 : decode cX12_climb 26 = .ok (.ifCond .eq 25, 3) := by decide +kernel
theorem dX12_climb_29 : decode cX12_climb 29 = .ok (.iload_n 3, 1) := by decide +kernel
theorem dX12_climb_30 : decode cX12_climb 30 = .ok (.iconst 1, 1) := by decide +kernel
theorem dX12_climb_31 : decode cX12_climb 31 = .ok (.sipush 400, 3) := by decide +kernel
theorem dX12_climb_34 : decode cX12_climb 34 = .ok (.invokestatic 203, 3) := by decide +kernel
theorem dX12_climb_37 : decode cX12_climb 37 = .ok (.ifCond .eq 14, 3) := by decide +kernel
theorem dX12_climb_40 : decode cX12_climb 40 = .ok (.iload 4, 2) := by decide +kernel
theorem dX12_climb_42 : decode cX12_climb 42 = .ok (.iconst 1, 1) := by decide +kernel
theorem dX12_climb_43 : decode cX12_climb 43 = .ok (.bipush 50, 2) := by decide +kernel
theorem dX12_climb_45 : decode cX12_climb 45 = .ok (.invokestatic 203, 3) := by decide +kernel
theorem dX12_climb_48 : decode cX12_climb 48 = .ok (.ifCond .ne 9, 3) := by decide +kernel
theorem dX12_climb_51 : decode cX12_climb 51 = .ok (.aload_n 0, 1) := by decide +kernel
theorem dX12_climb_52 : decode cX12_climb 52 = .ok (.iconst 2, 1) := by decide +kernel
theorem dX12_climb_53 : decode cX12_climb 53 = .ok (.invokevirtual 214, 3) := by decide +kernel
theorem dX12_climb_56 : decode cX12_climb 56 = .ok (.ireturn, 1) := by decide +kernel
theorem dX12_climb_57 : decode cX12_climb 57 = .ok (.aload_n 0, 1) := by decide +kernel
theorem dX12_climb_58 : decode cX12_climb 58 = .ok (.getfield 226, 3) := by decide +kernel
theorem dX12_climb_61 : decode cX12_climb 61 = .ok (.iload 4, 2) := by decide +kernel
theorem dX12_climb_63 : decode cX12_climb 63 = .ok (.iadd, 1) := by decide +kernel
theorem dX12_climb_64 : decode cX12_climb 64 = .ok (.sipush 1000, 3) := by decide +kernel
theorem dX12_climb_67 : decode cX12_climb 67 = .ok (.if_icmp .le 9, 3) := by decide +kernel
theorem dX12_climb_70 : decode cX12_climb 70 = .ok (.aload_n 0, 1) := by decide +kernel
theorem dX12_climb_71 : decode cX12_climb 71 = .ok (.iconst 3, 1) := by decide +kernel
theorem dX12_climb_72 : decode cX12_climb 72 = .ok (.invokevirtual 214, 3) := by decide +kernel
theorem dX12_climb_75 : decode cX12_climb 75 = .ok (.ireturn, 1) := by decide +kernel
theorem dX12_climb_76 : decode cX12_climb 76 = .ok (.iload_n 2, 1) := by decide +kernel
theorem dX12_climb_77 : decode cX12_climb 77 = .ok (.istore 5, 2) := by decide +kernel
theorem dX12_climb_79 : decode cX12_climb 79 = .ok (.iconst 0, 1) := by decide +kernel
theorem dX12_climb_80 : decode cX12_climb 80 = .ok (.istore 6, 2) := by decide +kernel
theorem dX12_climb_82 : decode cX12_climb 82 = .ok (.iload 6, 2) := by decide +kernel
theorem dX12_climb_84 : decode cX12_climb 84 = .ok (.iload 4, 2) := by decide +kernel
theorem dX12_climb_86 : decode cX12_climb 86 = .ok (.if_icmp .ge 39, 3) := by decide +kernel
theorem dX12_climb_89 : decode cX12_climb 89 = .ok (.aload_n 0, 1) := by decide +kernel
theorem dX12_climb_90 : decode cX12_climb 90 = .ok (.iload_n 1, 1) := by decide +kernel
theorem dX12_climb_91 : decode cX12_climb 91 = .ok (.iconst 1, 1) := by decide +kernel
theorem dX12_climb_92 : decode cX12_climb 92 = .ok (.iload 5, 2) := by decide +kernel
theorem dX12_climb_94 : decode cX12_climb 94 = .ok (.iconst 0, 1) := by decide +kernel
theorem dX12_climb_95 : decode cX12_climb 95 = .ok (.iconst 0, 1) := by decide +kernel
theorem dX12_climb_96 : decode cX12_climb 96 = .ok (.invokevirtual 378, 3) := by decide +kernel
theorem dX12_climb_99 : decode cX12_climb 99 = .ok (.iconst 1, 1) := by decide +kernel
theorem dX12_climb_100 : decode cX12_climb 100 = .ok (.if_icmp .ne 10, 3) := by decide +kernel
theorem dX12_climb_103 : decode cX12_climb 103 = .ok (.iload 5, 2) := by decide +kernel
theorem dX12_climb_105 : decode cX12_climb 105 = .ok (.iload_n 3, 1) := by decide +kernel
theorem dX12_climb_106 : decode cX12_climb 106 = .ok (.isub, 1) := by decide +kernel
theorem dX12_climb_107 : decode cX12_climb 107 = .ok (.goto 7, 3) := by decide +kernel
theorem dX12_climb_110 : decode cX12_climb 110 = .ok (.iload 5, 2) := by decide +kernel
theorem dX12_climb_112 : decode cX12_climb 112 = .ok (.iload_n 3, 1) := by decide +kernel
theorem dX12_climb_113 : decode cX12_climb 113 = .ok (.iadd, 1) := by decide +kernel
theorem dX12_climb_114 : decode cX12_climb 114 = .ok (.invokestatic 382, 3) := by decide +kernel
theorem dX12_climb_117 : decode cX12_climb 117 = .ok (.istore 5, 2) := by decide +kernel
theorem dX12_climb_119 : decode cX12_climb 119 = .ok (.iinc 6 1, 3) := by decide +kernel
theorem dX12_climb_122 : decode cX12_climb 122 = .ok (.goto (-40), 3) := by decide +kernel
theorem dX12_climb_125 : decode cX12_climb 125 = .ok (.iload 5, 2) := by decide +kernel
theorem dX12_climb_127 : decode cX12_climb 127 = .ok (.ireturn, 1) := by decide +kernel
theorem dX12_book_0 : decode cX12_book 0 = .ok (.aload_n 0, 1) := by decide +kernel
theorem dX12_book_1 : decode cX12_book 1 = .ok (.iconst 0, 1) := by decide +kernel
theorem dX12_book_2 : decode cX12_book 2 = .ok (.putfield 103, 3) := by decide +kernel
theorem dX12_book_5 : decode cX12_book 5 = .ok (.iload_n 1, 1) := by decide +kernel
theorem dX12_book_6 : decode cX12_book 6 = .ok (.iconst 0, 1) := by decide +kernel
theorem dX12_book_7 : decode cX12_book 7 = .ok (.aload_n 0, 1) := by decide +kernel
theorem dX12_book_8 : decode cX12_book 8 = .ok (.getfield 226, 3) := by decide +kernel
theorem dX12_book_11 : decode cX12_book 11 = .ok (.iconst 1, 1) := by decide +kernel
theorem dX12_book_12 : decode cX12_book 12 = .ok (.isub, 1) := by decide +kernel
theorem dX12_book_13 : decode cX12_book 13 = .ok (.invokestatic 203, 3) := by decide +kernel
theorem dX12_book_16 : decode cX12_book 16 = .ok (.ifCond .ne 5, 3) := by decide +kernel
theorem dX12_book_19 : decode cX12_book 19 = .ok (.iconst (-1), 1) := by decide +kernel
theorem dX12_book_20 : decode cX12_book 20 = .ok (.ireturn, 1) := by decide +kernel
theorem dX12_book_21 : decode cX12_book 21 = .ok (.iload_n 2, 1) := by decide +kernel
theorem dX12_book_22 : decode cX12_book 22 = .ok (.tableswitch 80 0 5 #[38, 45, 52, 59, 66, 73], 38) := by decide +kernel
theorem dX12_book_60 : decode cX12_book 60 = .ok (.aload_n 0, 1) := by decide +kernel
theorem dX12_book_61 : decode cX12_book 61 = .ok (.getfield 35, 3) := by decide +kernel
theorem dX12_book_64 : decode cX12_book 64 = .ok (.iload_n 1, 1) := by decide +kernel
theorem dX12_book_65 : decode cX12_book 65 = .ok (.iaload, 1) := by decide +kernel
theorem dX12_book_66 : decode cX12_book 66 = .ok (.ireturn, 1) := by decide +kernel
theorem dX12_book_67 : decode cX12_book 67 = .ok (.aload_n 0, 1) := by decide +kernel
theorem dX12_book_68 : decode cX12_book 68 = .ok (.getfield 38, 3) := by decide +kernel
theorem dX12_book_71 : decode cX12_book 71 = .ok (.iload_n 1, 1) := by decide +kernel
theorem dX12_book_72 : decode cX12_book 72 = .ok (.iaload, 1) := by decide +kernel
theorem dX12_book_73 : decode cX12_book 73 = .ok (.ireturn, 1) := by decide +kernel
theorem dX12_book_74 : decode cX12_book 74 = .ok (.aload_n 0, 1) := by decide +kernel
theorem dX12_book_75 : decode cX12_book 75 = .ok (.getfield 41, 3) := by decide +kernel
theorem dX12_book_78 : decode cX12_book 78 = .ok (.iload_n 1, 1) := by decide +kernel
theorem dX12_book_79 : decode cX12_book 79 = .ok (.iaload, 1) := by decide +kernel
theorem dX12_book_80 : decode cX12_book 80 = .ok (.ireturn, 1) := by decide +kernel
theorem dX12_book_81 : decode cX12_book 81 = .ok (.aload_n 0, 1) := by decide +kernel
theorem dX12_book_82 : decode cX12_book 82 = .ok (.getfield 44, 3) := by decide +kernel
theorem dX12_book_85 : decode cX12_book 85 = .ok (.iload_n 1, 1) := by decide +kernel
theorem dX12_book_86 : decode cX12_book 86 = .ok (.iaload, 1) := by decide +kernel
theorem dX12_book_87 : decode cX12_book 87 = .ok (.ireturn, 1) := by decide +kernel
theorem dX12_book_88 : decode cX12_book 88 = .ok (.aload_n 0, 1) := by decide +kernel
theorem dX12_book_89 : decode cX12_book 89 = .ok (.getfield 47, 3) := by decide +kernel
theorem dX12_book_92 : decode cX12_book 92 = .ok (.iload_n 1, 1) := by decide +kernel
theorem dX12_book_93 : decode cX12_book 93 = .ok (.iaload, 1) := by decide +kernel
theorem dX12_book_94 : decode cX12_book 94 = .ok (.ireturn, 1) := by decide +kernel
theorem dX12_book_95 : decode cX12_book 95 = .ok (.aload_n 0, 1) := by decide +kernel
theorem dX12_book_96 : decode cX12_book 96 = .ok (.getfield 50, 3) := by decide +kernel
theorem dX12_book_99 : decode cX12_book 99 = .ok (.iload_n 1, 1) := by decide +kernel
theorem dX12_book_100 : decode cX12_book 100 = .ok (.iaload, 1) := by decide +kernel
theorem dX12_book_101 : decode cX12_book 101 = .ok (.ireturn, 1) := by decide +kernel
theorem dX12_book_102 : decode cX12_book 102 = .ok (.iconst (-1), 1) := by decide +kernel
theorem dX12_book_103 : decode cX12_book 103 = .ok (.ireturn, 1) := by decide +kernel
theorem dX12_isOf_0 : decode cX12_isOf 0 = .ok (.aload_n 0, 1) := by decide +kernel
theorem dX12_isOf_1 : decode cX12_isOf 1 = .ok (.getfield 35, 3) := by decide +kernel
theorem dX12_isOf_4 : decode cX12_isOf 4 = .ok (.iload_n 1, 1) := by decide +kernel
theorem dX12_isOf_5 : decode cX12_isOf 5 = .ok (.iaload, 1) := by decide +kernel
theorem dX12_isOf_6 : decode cX12_isOf 6 = .ok (.iload_n 2, 1) := by decide +kernel
theorem dX12_isOf_7 : decode cX12_isOf 7 = .ok (.if_icmp .ne 28, 3) := by decide +kernel
theorem dX12_isOf_10 : decode cX12_isOf 10 = .ok (.aload_n 0, 1) := by decide +kernel
theorem dX12_isOf_11 : decode cX12_isOf 11 = .ok (.getfield 38, 3) := by decide +kernel
theorem dX12_isOf_14 : decode cX12_isOf 14 = .ok (.iload_n 1, 1) := by decide +kernel
theorem dX12_isOf_15 : decode cX12_isOf 15 = .ok (.iaload, 1) := by decide +kernel
theorem dX12_isOf_16 : decode cX12_isOf 16 = .ok (.iload_n 3, 1) := by decide +kernel
theorem dX12_isOf_17 : decode cX12_isOf 17 = .ok (.if_icmp .ne 18, 3) := by decide +kernel
theorem dX12_isOf_20 : decode cX12_isOf 20 = .ok (.aload_n 0, 1) := by decide +kernel
theorem dX12_isOf_21 : decode cX12_isOf 21 = .ok (.getfield 41, 3) := by decide +kernel
theorem dX12_isOf_24 : decode cX12_isOf 24 = .ok (.iload_n 1, 1) := by decide +kernel
theorem dX12_isOf_25 : decode cX12_isOf 25 = .ok (.iaload, 1) := by decide +kernel
theorem dX12_isOf_26 : decode cX12_isOf 26 = .ok (.iload 4, 2) := by decide +kernel
theorem dX12_isOf_28 : decode cX12_isOf 28 = .ok (.if_icmp .ne 7, 3) := by decide +kernel
theorem dX12_isOf_31 : decode cX12_isOf 31 = .ok (.iconst 1, 1) := by decide +kernel
theorem dX12_isOf_32 : decode cX12_isOf 32 = .ok (.goto 4, 3) := by decide +kernel
theorem dX12_isOf_35 : decode cX12_isOf 35 = .ok (.iconst 0, 1) := by decide +kernel
theorem dX12_isOf_36 : decode cX12_isOf 36 = .ok (.istore 7, 2) := by decide +kernel
theorem dX12_isOf_38 : decode cX12_isOf 38 = .ok (.iload 7, 2) := by decide +kernel
theorem dX12_isOf_40 : decode cX12_isOf 40 = .ok (.ifCond .eq 28, 3) := by decide +kernel
theorem dX12_isOf_43 : decode cX12_isOf 43 = .ok (.iload_n 3, 1) := by decide +kernel
theorem dX12_isOf_44 : decode cX12_isOf 44 = .ok (.iconst 1, 1) := by decide +kernel
theorem dX12_isOf_45 : decode cX12_isOf 45 = .ok (.if_icmp .eq 19, 3) := by decide +kernel
theorem dX12_isOf_48 : decode cX12_isOf 48 = .ok (.iload_n 3, 1) := by decide +kernel
theorem dX12_isOf_49 : decode cX12_isOf 49 = .ok (.iconst 3, 1) := by decide +kernel
theorem dX12_isOf_50 : decode cX12_isOf 50 = .ok (.if_icmp .eq 14, 3) := by decide +kernel
theorem dX12_isOf_53 : decode cX12_isOf 53 = .ok (.aload_n 0, 1) := by decide +kernel
theorem dX12_isOf_54 : decode cX12_isOf 54 = .ok (.getfield 44, 3) := by decide +kernel
theorem dX12_isOf_57 : decode cX12_isOf 57 = .ok (.iload_n 1, 1) := by decide +kernel
theorem dX12_isOf_58 : decode cX12_isOf 58 = .ok (.iaload, 1) := by decide +kernel
theorem dX12_isOf_59 : decode cX12_isOf 59 = .ok (.iload 5, 2) := by decide +kernel
theorem dX12_isOf_61 : decode cX12_isOf 61 = .ok (.if_icmp .ne 7, 3) := by decide +kernel
theorem dX12_isOf_64 : decode cX12_isOf 64 = .ok (.iconst 1, 1) := by decide +kernel
theorem dX12_isOf_65 : decode cX12_isOf 65 = .ok (.goto 4, 3) := by decide +kernel
theorem dX12_isOf_68 : decode cX12_isOf 68 = .ok (.iconst 0, 1) := by decide +kernel
theorem dX12_isOf_69 : decode cX12_isOf 69 = .ok (.istore 7, 2) := by decide +kernel
theorem dX12_isOf_71 : decode cX12_isOf 71 = .ok (.iload 7, 2) := by decide +kernel
theorem dX12_isOf_73 : decode cX12_isOf 73 = .ok (.ifCond .eq 28, 3) := by decide +kernel
theorem dX12_isOf_76 : decode cX12_isOf 76 = .ok (.iload_n 3, 1) := by decide +kernel
theorem dX12_isOf_77 : decode cX12_isOf 77 = .ok (.iconst 2, 1) := by decide +kernel
theorem dX12_isOf_78 : decode cX12_isOf 78 = .ok (.if_icmp .eq 8, 3) := by decide +kernel
theorem dX12_isOf_81 : decode cX12_isOf 81 = .ok (.iload_n 3, 1) := by decide +kernel
theorem dX12_isOf_82 : decode cX12_isOf 82 = .ok (.iconst 5, 1) := by decide +kernel
theorem dX12_isOf_83 : decode cX12_isOf 83 = .ok (.if_icmp .ne 14, 3) := by decide +kernel
theorem dX12_isOf_86 : decode cX12_isOf 86 = .ok (.aload_n 0, 1) := by decide +kernel
theorem dX12_isOf_87 : decode cX12_isOf 87 = .ok (.getfield 47, 3) := by decide +kernel
theorem dX12_isOf_90 : decode cX12_isOf 90 = .ok (.iload_n 1, 1) := by decide +kernel
theorem dX12_isOf_91 : decode cX12_isOf 91 = .ok (.iaload, 1) := by decide +kernel
theorem dX12_isOf_92 : decode cX12_isOf 92 = .ok (.iload 6, 2) := by decide +kernel
theorem dX12_isOf_94 : decode cX12_isOf 94 = .ok (.if_icmp .ne 7, 3) := by decide +kernel
theorem dX12_isOf_97 : decode cX12_isOf 97 = .ok (.iconst 1, 1) := by decide +kernel
theorem dX12_isOf_98 : decode cX12_isOf 98 = .ok (.goto 4, 3) := by decide +kernel
theorem dX12_isOf_101 : decode cX12_isOf 101 = .ok (.iconst 0, 1) := by decide +kernel
theorem dX12_isOf_102 : decode cX12_isOf 102 = .ok (.ireturn, 1) := by decide +kernel
theorem dX12_count_0 : decode cX12_count 0 = .ok (.aload_n 0, 1) := by decide +kernel
theorem dX12_count_1 : decode cX12_count 1 = .ok (.invokevirtual 211, 3) := by decide +kernel
theorem dX12_count_4 : decode cX12_count 4 = .ok (.aload_n 0, 1) := by decide +kernel
theorem dX12_count_5 : decode cX12_count 5 = .ok (.iload_n 1, 1) := by decide +kernel
theorem dX12_count_6 : decode cX12_count 6 = .ok (.iload_n 2, 1) := by decide +kernel
theorem dX12_count_7 : decode cX12_count 7 = .ok (.iload_n 3, 1) := by decide +kernel
theorem dX12_count_8 : decode cX12_count 8 = .ok (.iload 4, 2) := by decide +kernel
theorem dX12_count_10 : decode cX12_count 10 = .ok (.iload 5, 2) := by decide +kernel
theorem dX12_count_12 : decode cX12_count 12 = .ok (.invokevirtual 359, 3) := by decide +kernel
theorem dX12_count_15 : decode cX12_count 15 = .ok (.istore 7, 2) := by decide +kernel
theorem dX12_count_17 : decode cX12_count 17 = .ok (.iload 7, 2) := by decide +kernel
theorem dX12_count_19 : decode cX12_count 19 = .ok (.ifCond .eq 10, 3) := by decide +kernel
theorem dX12_count_22 : decode cX12_count 22 = .ok (.aload_n 0, 1) := by decide +kernel
theorem dX12_count_23 : decode cX12_count 23 = .ok (.iload 7, 2) := by decide +kernel
theorem dX12_count_25 : decode cX12_count 25 = .ok (.invokevirtual 214, 3) := by decide +kernel
theorem dX12_count_28 : decode cX12_count 28 = .ok (.ireturn, 1) := by decide +kernel
theorem dX12_count_29 : decode cX12_count 29 = .ok (.iconst 0, 1) := by decide +kernel
theorem dX12_count_30 : decode cX12_count 30 = .ok (.istore 8, 2) := by decide +kernel
theorem dX12_count_32 : decode cX12_count 32 = .ok (.iconst 0, 1) := by decide +kernel
theorem dX12_count_33 : decode cX12_count 33 = .ok (.istore 9, 2) := by decide +kernel
theorem dX12_count_35 : decode cX12_count 35 = .ok (.iload 9, 2) := by decide +kernel
theorem dX12_count_37 : decode cX12_count 37 = .ok (.aload_n 0, 1) := by decide +kernel
theorem dX12_count_38 : decode cX12_count 38 = .ok (.getfield 226, 3) := by decide +kernel
theorem dX12_count_41 : decode cX12_count 41 = .ok (.if_icmp .ge 53, 3) := by decide +kernel
theorem dX12_count_44 : decode cX12_count 44 = .ok (.iload 8, 2) := by decide +kernel
theorem dX12_count_46 : decode cX12_count 46 = .ok (.aload_n 0, 1) := by decide +kernel
theorem dX12_count_47 : decode cX12_count 47 = .ok (.iload 9, 2) := by decide +kernel
theorem dX12_count_49 : decode cX12_count 49 = .ok (.iload_n 1, 1) := by decide +kernel
theorem dX12_count_50 : decode cX12_count 50 = .ok (.iload_n 2, 1) := by decide +kernel
theorem dX12_count_51 : decode cX12_count 51 = .ok (.iload_n 3, 1) := by decide +kernel
theorem dX12_count_52 : decode cX12_count 52 = .ok (.iload 4, 2) := by decide +kernel
theorem dX12_count_54 : decode cX12_count 54 = .ok (.iload 5, 2) := by decide +kernel
theorem dX12_count_56 : decode cX12_count 56 = .ok (.invokevirtual 385, 3) := by decide +kernel
theorem dX12_count_59 : decode cX12_count 59 = .ok (.ifCond .eq 25, 3) := by decide +kernel
theorem dX12_count_62 : decode cX12_count 62 = .ok (.iload 6, 2) := by decide +kernel
theorem dX12_count_64 : decode cX12_count 64 = .ok (.iconst (-1), 1) := by decide +kernel
theorem dX12_count_65 : decode cX12_count 65 = .ok (.if_icmp .eq 15, 3) := by decide +kernel
theorem dX12_count_68 : decode cX12_count 68 = .ok (.aload_n 0, 1) := by decide +kernel
theorem dX12_count_69 : decode cX12_count 69 = .ok (.getfield 50, 3) := by decide +kernel
theorem dX12_count_72 : decode cX12_count 72 = .ok (.iload 9, 2) := by decide +kernel
theorem dX12_count_74 : decode cX12_count 74 = .ok (.iaload, 1) := by decide +kernel
theorem dX12_count_75 : decode cX12_count 75 = .ok (.iload 6, 2) := by decide +kernel
theorem dX12_count_77 : decode cX12_count 77 = .ok (.if_icmp .ne 7, 3) := by decide +kernel
theorem dX12_count_80 : decode cX12_count 80 = .ok (.iconst 1, 1) := by decide +kernel
theorem dX12_count_81 : decode cX12_count 81 = .ok (.goto 4, 3) := by decide +kernel
theorem dX12_count_84 : decode cX12_count 84 = .ok (.iconst 0, 1) := by decide +kernel
theorem dX12_count_85 : decode cX12_count 85 = .ok (.iadd, 1) := by decide +kernel
theorem dX12_count_86 : decode cX12_count 86 = .ok (.istore 8, 2) := by decide +kernel
theorem dX12_count_88 : decode cX12_count 88 = .ok (.iinc 9 1, 3) := by decide +kernel
theorem dX12_count_91 : decode cX12_count 91 = .ok (.goto (-56), 3) := by decide +kernel
theorem dX12_count_94 : decode cX12_count 94 = .ok (.iload 8, 2) := by decide +kernel
theorem dX12_count_96 : decode cX12_count 96 = .ok (.ireturn, 1) := by decide +kernel
theorem dX12_become_0 : decode cX12_become 0 = .ok (.iconst 0, 1) := by decide +kernel
theorem dX12_become_1 : decode cX12_become 1 = .ok (.istore_n 2, 1) := by decide +kernel
theorem dX12_become_2 : decode cX12_become 2 = .ok (.iload_n 2, 1) := by decide +kernel
theorem dX12_become_3 : decode cX12_become 3 = .ok (.bipush 24, 2) := by decide +kernel
theorem dX12_become_5 : decode cX12_become 5 = .ok (.if_icmp .ge 13, 3) := by decide +kernel
theorem dX12_become_8 : decode cX12_become 8 = .ok (.aload_n 0, 1) := by decide +kernel
theorem dX12_become_9 : decode cX12_become 9 = .ok (.iload_n 2, 1) := by decide +kernel
theorem dX12_become_10 : decode cX12_become 10 = .ok (.iconst 0, 1) := by decide +kernel
theorem dX12_become_11 : decode cX12_become 11 = .ok (.iastore, 1) := by decide +kernel
theorem dX12_become_12 : decode cX12_become 12 = .ok (.iinc 2 1, 3) := by decide +kernel
theorem dX12_become_15 : decode cX12_become 15 = .ok (.goto (-13), 3) := by decide +kernel
theorem dX12_become_18 : decode cX12_become 18 = .ok (.aload_n 0, 1) := by decide +kernel
theorem dX12_become_19 : decode cX12_become 19 = .ok (.iconst 0, 1) := by decide +kernel
theorem dX12_become_20 : decode cX12_become 20 = .ok (.iload_n 1, 1) := by decide +kernel
theorem dX12_become_21 : decode cX12_become 21 = .ok (.iastore, 1) := by decide +kernel
theorem dX12_become_22 : decode cX12_become 22 = .ok (.return_, 1) := by decide +kernel
theorem dX12_times_0 : decode cX12_times 0 = .ok (.lconst 0, 1) := by decide +kernel
theorem dX12_times_1 : decode cX12_times 1 = .ok (.lstore_n 3, 1) := by decide +kernel
theorem dX12_times_2 : decode cX12_times 2 = .ok (.iconst 0, 1) := by decide +kernel
theorem dX12_times_3 : decode cX12_times 3 = .ok (.istore 5, 2) := by decide +kernel
theorem dX12_times_5 : decode cX12_times 5 = .ok (.iload 5, 2) := by decide +kernel
theorem dX12_times_7 : decode cX12_times 7 = .ok (.bipush 24, 2) := by decide +kernel
theorem dX12_times_9 : decode cX12_times 9 = .ok (.if_icmp .ge 34, 3) := by decide +kernel
theorem dX12_times_12 : decode cX12_times 12 = .ok (.lload_n 3, 1) := by decide +kernel
theorem dX12_times_13 : decode cX12_times 13 = .ok (.aload_n 0, 1) := by decide +kernel
theorem dX12_times_14 : decode cX12_times 14 = .ok (.iload 5, 2) := by decide +kernel
theorem dX12_times_16 : decode cX12_times 16 = .ok (.iaload, 1) := by decide +kernel
theorem dX12_times_17 : decode cX12_times 17 = .ok (.i2l, 1) := by decide +kernel
theorem dX12_times_18 : decode cX12_times 18 = .ok (.lload_n 1, 1) := by decide +kernel
theorem dX12_times_19 : decode cX12_times 19 = .ok (.lmul, 1) := by decide +kernel
theorem dX12_times_20 : decode cX12_times 20 = .ok (.ladd, 1) := by decide +kernel
theorem dX12_times_21 : decode cX12_times 21 = .ok (.lstore_n 3, 1) := by decide +kernel
theorem dX12_times_22 : decode cX12_times 22 = .ok (.aload_n 0, 1) := by decide +kernel
theorem dX12_times_23 : decode cX12_times 23 = .ok (.iload 5, 2) := by decide +kernel
theorem dX12_times_25 : decode cX12_times 25 = .ok (.lload_n 3, 1) := by decide +kernel
theorem dX12_times_26 : decode cX12_times 26 = .ok (.ldc2_w 389, 3) := by decide +kernel
theorem dX12_times_29 : decode cX12_times 29 = .ok (.land, 1) := by decide +kernel
theorem dX12_times_30 : decode cX12_times 30 = .ok (.l2i, 1) := by decide +kernel
theorem dX12_times_31 : decode cX12_times 31 = .ok (.iastore, 1) := by decide +kernel
theorem dX12_times_32 : decode cX12_times 32 = .ok (.lload_n 3, 1) := by decide +kernel
theorem dX12_times_33 : decode cX12_times 33 = .ok (.bipush 28, 2) := by decide +kernel
theorem dX12_times_35 : decode cX12_times 35 = .ok (.lshr, 1) := by decide +kernel
theorem dX12_times_36 : decode cX12_times 36 = .ok (.lstore_n 3, 1) := by decide +kernel
theorem dX12_times_37 : decode cX12_times 37 = .ok (.iinc 5 1, 3) := by decide +kernel
theorem dX12_times_40 : decode cX12_times 40 = .ok (.goto (-35), 3) := by decide +kernel
theorem dX12_times_43 : decode cX12_times 43 = .ok (.return_, 1) := by decide +kernel
theorem dX12_over_0 : decode cX12_over 0 = .ok (.lconst 0, 1) := by decide +kernel
theorem dX12_over_1 : decode cX12_over 1 = .ok (.lstore_n 2, 1) := by decide +kernel
theorem dX12_over_2 : decode cX12_over 2 = .ok (.bipush 23, 2) := by decide +kernel
theorem dX12_over_4 : decode cX12_over 4 = .ok (.istore 4, 2) := by decide +kernel
theorem dX12_over_6 : decode cX12_over 6 = .ok (.iload 4, 2) := by decide +kernel
theorem dX12_over_8 : decode cX12_over 8 = .ok (.ifCond .lt 34, 3) := by decide +kernel
theorem dX12_over_11 : decode cX12_over 11 = .ok (.lload_n 2, 1) := by decide +kernel
theorem dX12_over_12 : decode cX12_over 12 = .ok (.bipush 28, 2) := by decide +kernel
theorem dX12_over_14 : decode cX12_over 14 = .ok (.lshl, 1) := by decide +kernel
theorem dX12_over_15 : decode cX12_over 15 = .ok (.aload_n 0, 1) := by decide +kernel
theorem dX12_over_16 : decode cX12_over 16 = .ok (.iload 4, 2) := by decide +kernel
theorem dX12_over_18 : decode cX12_over 18 = .ok (.iaload, 1) := by decide +kernel
theorem dX12_over_19 : decode cX12_over 19 = .ok (.i2l, 1) := by decide +kernel
theorem dX12_over_20 : decode cX12_over 20 = .ok (.ladd, 1) := by decide +kernel
theorem dX12_over_21 : decode cX12_over 21 = .ok (.lstore_n 2, 1) := by decide +kernel
theorem dX12_over_22 : decode cX12_over 22 = .ok (.aload_n 0, 1) := by decide +kernel
theorem dX12_over_23 : decode cX12_over 23 = .ok (.iload 4, 2) := by decide +kernel
theorem dX12_over_25 : decode cX12_over 25 = .ok (.lload_n 2, 1) := by decide +kernel
theorem dX12_over_26 : decode cX12_over 26 = .ok (.iload_n 1, 1) := by decide +kernel
theorem dX12_over_27 : decode cX12_over 27 = .ok (.i2l, 1) := by decide +kernel
theorem dX12_over_28 : decode cX12_over 28 = .ok (.ldiv, 1) := by decide +kernel
theorem dX12_over_29 : decode cX12_over 29 = .ok (.l2i, 1) := by decide +kernel
theorem dX12_over_30 : decode cX12_over 30 = .ok (.iastore, 1) := by decide +kernel
theorem dX12_over_31 : decode cX12_over 31 = .ok (.lload_n 2, 1) := by decide +kernel
theorem dX12_over_32 : decode cX12_over 32 = .ok (.iload_n 1, 1) := by decide +kernel
theorem dX12_over_33 : decode cX12_over 33 = .ok (.i2l, 1) := by decide +kernel
theorem dX12_over_34 : decode cX12_over 34 = .ok (.lrem, 1) := by decide +kernel
theorem dX12_over_35 : decode cX12_over 35 = .ok (.lstore_n 2, 1) := by decide +kernel
theorem dX12_over_36 : decode cX12_over 36 = .ok (.iinc 4 (-1), 3) := by decide +kernel
theorem dX12_over_39 : decode cX12_over 39 = .ok (.goto (-33), 3) := by decide +kernel
theorem dX12_over_42 : decode cX12_over 42 = .ok (.return_, 1) := by decide +kernel
theorem dX12_add_0 : decode cX12_add 0 = .ok (.lconst 0, 1) := by decide +kernel
theorem dX12_add_1 : decode cX12_add 1 = .ok (.lstore 4, 2) := by decide +kernel
theorem dX12_add_3 : decode cX12_add 3 = .ok (.iconst 0, 1) := by decide +kernel
theorem dX12_add_4 : decode cX12_add 4 = .ok (.istore 6, 2) := by decide +kernel
theorem dX12_add_6 : decode cX12_add 6 = .ok (.iload 6, 2) := by decide +kernel
theorem dX12_add_8 : decode cX12_add 8 = .ok (.bipush 24, 2) := by decide +kernel
theorem dX12_add_10 : decode cX12_add 10 = .ok (.if_icmp .ge 45, 3) := by decide +kernel
theorem dX12_add_13 : decode cX12_add 13 = .ok (.lload 4, 2) := by decide +kernel
theorem dX12_add_15 : decode cX12_add 15 = .ok (.aload_n 0, 1) := by decide +kernel
theorem dX12_add_16 : decode cX12_add 16 = .ok (.iload 6, 2) := by decide +kernel
theorem dX12_add_18 : decode cX12_add 18 = .ok (.iaload, 1) := by decide +kernel
theorem dX12_add_19 : decode cX12_add 19 = .ok (.i2l, 1) := by decide +kernel
theorem dX12_add_20 : decode cX12_add 20 = .ok (.aload_n 1, 1) := by decide +kernel
theorem dX12_add_21 : decode cX12_add 21 = .ok (.iload 6, 2) := by decide +kernel
theorem dX12_add_23 : decode cX12_add 23 = .ok (.iaload, 1) := by decide +kernel
theorem dX12_add_24 : decode cX12_add 24 = .ok (.i2l, 1) := by decide +kernel
theorem dX12_add_25 : decode cX12_add 25 = .ok (.lload_n 2, 1) := by decide +kernel
theorem dX12_add_26 : decode cX12_add 26 = .ok (.lmul, 1) := by decide +kernel
theorem dX12_add_27 : decode cX12_add 27 = .ok (.ladd, 1) := by decide +kernel
theorem dX12_add_28 : decode cX12_add 28 = .ok (.ladd, 1) := by decide +kernel
theorem dX12_add_29 : decode cX12_add 29 = .ok (.lstore 4, 2) := by decide +kernel
theorem dX12_add_31 : decode cX12_add 31 = .ok (.aload_n 0, 1) := by decide +kernel
theorem dX12_add_32 : decode cX12_add 32 = .ok (.iload 6, 2) := by decide +kernel
theorem dX12_add_34 : decode cX12_add 34 = .ok (.lload 4, 2) := by decide +kernel
theorem dX12_add_36 : decode cX12_add 36 = .ok (.ldc2_w 389, 3) := by decide +kernel
theorem dX12_add_39 : decode cX12_add 39 = .ok (.land, 1) := by decide +kernel
theorem dX12_add_40 : decode cX12_add 40 = .ok (.l2i, 1) := by decide +kernel
theorem dX12_add_41 : decode cX12_add 41 = .ok (.iastore, 1) := by decide +kernel
theorem dX12_add_42 : decode cX12_add 42 = .ok (.lload 4, 2) := by decide +kernel
theorem dX12_add_44 : decode cX12_add 44 = .ok (.bipush 28, 2) := by decide +kernel
theorem dX12_add_46 : decode cX12_add 46 = .ok (.lshr, 1) := by decide +kernel
theorem dX12_add_47 : decode cX12_add 47 = .ok (.lstore 4, 2) := by decide +kernel
theorem dX12_add_49 : decode cX12_add 49 = .ok (.iinc 6 1, 3) := by decide +kernel
theorem dX12_add_52 : decode cX12_add 52 = .ok (.goto (-46), 3) := by decide +kernel
theorem dX12_add_55 : decode cX12_add 55 = .ok (.return_, 1) := by decide +kernel
theorem dX12_compare_0 : decode cX12_compare 0 = .ok (.bipush 23, 2) := by decide +kernel
theorem dX12_compare_2 : decode cX12_compare 2 = .ok (.istore_n 2, 1) := by decide +kernel
theorem dX12_compare_3 : decode cX12_compare 3 = .ok (.iload_n 2, 1) := by decide +kernel
theorem dX12_compare_4 : decode cX12_compare 4 = .ok (.ifCond .lt 33, 3) := by decide +kernel
theorem dX12_compare_7 : decode cX12_compare 7 = .ok (.aload_n 0, 1) := by decide +kernel
theorem dX12_compare_8 : decode cX12_compare 8 = .ok (.iload_n 2, 1) := by decide +kernel
theorem dX12_compare_9 : decode cX12_compare 9 = .ok (.iaload, 1) := by decide +kernel
theorem dX12_compare_10 : decode cX12_compare 10 = .ok (.aload_n 1, 1) := by decide +kernel
theorem dX12_compare_11 : decode cX12_compare 11 = .ok (.iload_n 2, 1) := by decide +kernel
theorem dX12_compare_12 : decode cX12_compare 12 = .ok (.iaload, 1) := by decide +kernel
theorem dX12_compare_13 : decode cX12_compare 13 = .ok (.if_icmp .eq 18, 3) := by decide +kernel
theorem dX12_compare_16 : decode cX12_compare 16 = .ok (.aload_n 0, 1) := by decide +kernel
theorem dX12_compare_17 : decode cX12_compare 17 = .ok (.iload_n 2, 1) := by decide +kernel
theorem dX12_compare_18 : decode cX12_compare 18 = .ok (.iaload, 1) := by decide +kernel
theorem dX12_compare_19 : decode cX12_compare 19 = .ok (.aload_n 1, 1) := by decide +kernel
theorem dX12_compare_20 : decode cX12_compare 20 = .ok (.iload_n 2, 1) := by decide +kernel
theorem dX12_compare_21 : decode cX12_compare 21 = .ok (.iaload, 1) := by decide +kernel
theorem dX12_compare_22 : decode cX12_compare 22 = .ok (.if_icmp .ge 7, 3) := by decide +kernel
theorem dX12_compare_25 : decode cX12_compare 25 = .ok (.iconst (-1), 1) := by decide +kernel
theorem dX12_compare_26 : decode cX12_compare 26 = .ok (.goto 4, 3) := by decide +kernel
theorem dX12_compare_29 : decode cX12_compare 29 = .ok (.iconst 1, 1) := by decide +kernel
theorem dX12_compare_30 : decode cX12_compare 30 = .ok (.ireturn, 1) := by decide +kernel
theorem dX12_compare_31 : decode cX12_compare 31 = .ok (.iinc 2 (-1), 3) := by decide +kernel
theorem dX12_compare_34 : decode cX12_compare 34 = .ok (.goto (-31), 3) := by decide +kernel
theorem dX12_compare_37 : decode cX12_compare 37 = .ok (.iconst 0, 1) := by decide +kernel
theorem dX12_compare_38 : decode cX12_compare 38 = .ok (.ireturn, 1) := by decide +kernel
theorem dX12_copy_0 : decode cX12_copy 0 = .ok (.iconst 0, 1) := by decide +kernel
theorem dX12_copy_1 : decode cX12_copy 1 = .ok (.istore_n 2, 1) := by decide +kernel
theorem dX12_copy_2 : decode cX12_copy 2 = .ok (.iload_n 2, 1) := by decide +kernel
theorem dX12_copy_3 : decode cX12_copy 3 = .ok (.bipush 24, 2) := by decide +kernel
theorem dX12_copy_5 : decode cX12_copy 5 = .ok (.if_icmp .ge 15, 3) := by decide +kernel
theorem dX12_copy_8 : decode cX12_copy 8 = .ok (.aload_n 1, 1) := by decide +kernel
theorem dX12_copy_9 : decode cX12_copy 9 = .ok (.iload_n 2, 1) := by decide +kernel
theorem dX12_copy_10 : decode cX12_copy 10 = .ok (.aload_n 0, 1) := by decide +kernel
theorem dX12_copy_11 : decode cX12_copy 11 = .ok (.iload_n 2, 1) := by decide +kernel
theorem dX12_copy_12 : decode cX12_copy 12 = .ok (.iaload, 1) := by decide +kernel
theorem dX12_copy_13 : decode cX12_copy 13 = .ok (.iastore, 1) := by decide +kernel
theorem dX12_copy_14 : decode cX12_copy 14 = .ok (.iinc 2 1, 3) := by decide +kernel
theorem dX12_copy_17 : decode cX12_copy 17 = .ok (.goto (-15), 3) := by decide +kernel
theorem dX12_copy_20 : decode cX12_copy 20 = .ok (.return_, 1) := by decide +kernel
theorem dX12_ways_0 : decode cX12_ways 0 = .ok (.lconst 1, 1) := by decide +kernel
theorem dX12_ways_1 : decode cX12_ways 1 = .ok (.lstore_n 2, 1) := by decide +kernel
theorem dX12_ways_2 : decode cX12_ways 2 = .ok (.iconst 1, 1) := by decide +kernel
theorem dX12_ways_3 : decode cX12_ways 3 = .ok (.istore 4, 2) := by decide +kernel
theorem dX12_ways_5 : decode cX12_ways 5 = .ok (.iload 4, 2) := by decide +kernel
theorem dX12_ways_7 : decode cX12_ways 7 = .ok (.iload_n 1, 1) := by decide +kernel
theorem dX12_ways_8 : decode cX12_ways 8 = .ok (.if_icmp .gt 23, 3) := by decide +kernel
theorem dX12_ways_11 : decode cX12_ways 11 = .ok (.lload_n 2, 1) := by decide +kernel
theorem dX12_ways_12 : decode cX12_ways 12 = .ok (.iload_n 0, 1) := by decide +kernel
theorem dX12_ways_13 : decode cX12_ways 13 = .ok (.iload_n 1, 1) := by decide +kernel
theorem dX12_ways_14 : decode cX12_ways 14 = .ok (.isub, 1) := by decide +kernel
theorem dX12_ways_15 : decode cX12_ways 15 = .ok (.iload 4, 2) := by decide +kernel
theorem dX12_ways_17 : decode cX12_ways 17 = .ok (.iadd, 1) := by decide +kernel
theorem dX12_ways_18 : decode cX12_ways 18 = .ok (.i2l, 1) := by decide +kernel
theorem dX12_ways_19 : decode cX12_ways 19 = .ok (.lmul, 1) := by decide +kernel
theorem dX12_ways_20 : decode cX12_ways 20 = .ok (.iload 4, 2) := by decide +kernel
theorem dX12_ways_22 : decode cX12_ways 22 = .ok (.i2l, 1) := by decide +kernel
theorem dX12_ways_23 : decode cX12_ways 23 = .ok (.ldiv, 1) := by decide +kernel
theorem dX12_ways_24 : decode cX12_ways 24 = .ok (.lstore_n 2, 1) := by decide +kernel
theorem dX12_ways_25 : decode cX12_ways 25 = .ok (.iinc 4 1, 3) := by decide +kernel
theorem dX12_ways_28 : decode cX12_ways 28 = .ok (.goto (-23), 3) := by decide +kernel
theorem dX12_ways_31 : decode cX12_ways 31 = .ok (.lload_n 2, 1) := by decide +kernel
theorem dX12_ways_32 : decode cX12_ways 32 = .ok (.lreturn, 1) := by decide +kernel
theorem dX12_grows_0 : decode cX12_grows 0 = .ok (.iload_n 1, 1) := by decide +kernel
theorem dX12_grows_1 : decode cX12_grows 1 = .ok (.iload_n 2, 1) := by decide +kernel
theorem dX12_grows_2 : decode cX12_grows 2 = .ok (.invokestatic 391, 3) := by decide +kernel
theorem dX12_grows_5 : decode cX12_grows 5 = .ok (.lstore_n 3, 1) := by decide +kernel
theorem dX12_grows_6 : decode cX12_grows 6 = .ok (.aload_n 0, 1) := by decide +kernel
theorem dX12_grows_7 : decode cX12_grows 7 = .ok (.getfield 59, 3) := by decide +kernel
theorem dX12_grows_10 : decode cX12_grows 10 = .ok (.aload_n 0, 1) := by decide +kernel
theorem dX12_grows_11 : decode cX12_grows 11 = .ok (.getfield 56, 3) := by decide +kernel
theorem dX12_grows_14 : decode cX12_grows 14 = .ok (.lload_n 3, 1) := by decide +kernel
theorem dX12_grows_15 : decode cX12_grows 15 = .ok (.ldc2_w 395, 3) := by decide +kernel
theorem dX12_grows_18 : decode cX12_grows 18 = .ok (.land, 1) := by decide +kernel
theorem dX12_grows_19 : decode cX12_grows 19 = .ok (.invokestatic 397, 3) := by decide +kernel
theorem dX12_grows_22 : decode cX12_grows 22 = .ok (.aload_n 0, 1) := by decide +kernel
theorem dX12_grows_23 : decode cX12_grows 23 = .ok (.getfield 56, 3) := by decide +kernel
theorem dX12_grows_26 : decode cX12_grows 26 = .ok (.aload_n 0, 1) := by decide +kernel
theorem dX12_grows_27 : decode cX12_grows 27 = .ok (.getfield 68, 3) := by decide +kernel
theorem dX12_grows_30 : decode cX12_grows 30 = .ok (.invokestatic 401, 3) := by decide +kernel
theorem dX12_grows_33 : decode cX12_grows 33 = .ok (.aload_n 0, 1) := by decide +kernel
theorem dX12_grows_34 : decode cX12_grows 34 = .ok (.getfield 68, 3) := by decide +kernel
theorem dX12_grows_37 : decode cX12_grows 37 = .ok (.ldc2_w 405, 3) := by decide +kernel
theorem dX12_grows_40 : decode cX12_grows 40 = .ok (.invokestatic 407, 3) := by decide +kernel
theorem dX12_grows_43 : decode cX12_grows 43 = .ok (.aload_n 0, 1) := by decide +kernel
theorem dX12_grows_44 : decode cX12_grows 44 = .ok (.getfield 59, 3) := by decide +kernel
theorem dX12_grows_47 : decode cX12_grows 47 = .ok (.aload_n 0, 1) := by decide +kernel
theorem dX12_grows_48 : decode cX12_grows 48 = .ok (.getfield 68, 3) := by decide +kernel
theorem dX12_grows_51 : decode cX12_grows 51 = .ok (.lload_n 3, 1) := by decide +kernel
theorem dX12_grows_52 : decode cX12_grows 52 = .ok (.bipush 19, 2) := by decide +kernel
theorem dX12_grows_54 : decode cX12_grows 54 = .ok (.lshr, 1) := by decide +kernel
theorem dX12_grows_55 : decode cX12_grows 55 = .ok (.invokestatic 397, 3) := by decide +kernel
theorem dX12_grows_58 : decode cX12_grows 58 = .ok (.return_, 1) := by decide +kernel
theorem dX12_isFortieth_0 : decode cX12_isFortieth 0 = .ok (.aload_n 1, 1) := by decide +kernel
theorem dX12_isFortieth_1 : decode cX12_isFortieth 1 = .ok (.aload_n 0, 1) := by decide +kernel
theorem dX12_isFortieth_2 : decode cX12_isFortieth 2 = .ok (.getfield 68, 3) := by decide +kernel
theorem dX12_isFortieth_5 : decode cX12_isFortieth 5 = .ok (.invokestatic 401, 3) := by decide +kernel
theorem dX12_isFortieth_8 : decode cX12_isFortieth 8 = .ok (.aload_n 0, 1) := by decide +kernel
theorem dX12_isFortieth_9 : decode cX12_isFortieth 9 = .ok (.getfield 68, 3) := by decide +kernel
theorem dX12_isFortieth_12 : decode cX12_isFortieth 12 = .ok (.ldc2_w 410, 3) := by decide +kernel
theorem dX12_isFortieth_15 : decode cX12_isFortieth 15 = .ok (.invokestatic 407, 3) := by decide +kernel
theorem dX12_isFortieth_18 : decode cX12_isFortieth 18 = .ok (.aload_n 0, 1) := by decide +kernel
theorem dX12_isFortieth_19 : decode cX12_isFortieth 19 = .ok (.getfield 68, 3) := by decide +kernel
theorem dX12_isFortieth_22 : decode cX12_isFortieth 22 = .ok (.aload_n 0, 1) := by decide +kernel
theorem dX12_isFortieth_23 : decode cX12_isFortieth 23 = .ok (.getfield 62, 3) := by decide +kernel
theorem dX12_isFortieth_26 : decode cX12_isFortieth 26 = .ok (.invokestatic 412, 3) := by decide +kernel
theorem dX12_isFortieth_29 : decode cX12_isFortieth 29 = .ok (.ifCond .lt 7, 3) := by decide +kernel
theorem dX12_isFortieth_32 : decode cX12_isFortieth 32 = .ok (.iconst 1, 1) := by decide +kernel
theorem dX12_isFortieth_33 : decode cX12_isFortieth 33 = .ok (.goto 4, 3) := by decide +kernel
theorem dX12_isFortieth_36 : decode cX12_isFortieth 36 = .ok (.iconst 0, 1) := by decide +kernel
theorem dX12_isFortieth_37 : decode cX12_isFortieth 37 = .ok (.ireturn, 1) := by decide +kernel
theorem dX12_isIn_0 : decode cX12_isIn 0 = .ok (.iload_n 3, 1) := by decide +kernel
theorem dX12_isIn_1 : decode cX12_isIn 1 = .ok (.iload_n 2, 1) := by decide +kernel
theorem dX12_isIn_2 : decode cX12_isIn 2 = .ok (.isub, 1) := by decide +kernel
theorem dX12_isIn_3 : decode cX12_isIn 3 = .ok (.istore 5, 2) := by decide +kernel
theorem dX12_isIn_5 : decode cX12_isIn 5 = .ok (.iload 5, 2) := by decide +kernel
theorem dX12_isIn_7 : decode cX12_isIn 7 = .ok (.ifCond .ne 15, 3) := by decide +kernel
theorem dX12_isIn_10 : decode cX12_isIn 10 = .ok (.iload 4, 2) := by decide +kernel
theorem dX12_isIn_12 : decode cX12_isIn 12 = .ok (.iload_n 1, 1) := by decide +kernel
theorem dX12_isIn_13 : decode cX12_isIn 13 = .ok (.if_icmp .ne 7, 3) := by decide +kernel
theorem dX12_isIn_16 : decode cX12_isIn 16 = .ok (.iconst 1, 1) := by decide +kernel
theorem dX12_isIn_17 : decode cX12_isIn 17 = .ok (.goto 4, 3) := by decide +kernel
theorem dX12_isIn_20 : decode cX12_isIn 20 = .ok (.iconst 0, 1) := by decide +kernel
theorem dX12_isIn_21 : decode cX12_isIn 21 = .ok (.ireturn, 1) := by decide +kernel
theorem dX12_isIn_22 : decode cX12_isIn 22 = .ok (.aload_n 0, 1) := by decide +kernel
theorem dX12_isIn_23 : decode cX12_isIn 23 = .ok (.getfield 62, 3) := by decide +kernel
theorem dX12_isIn_26 : decode cX12_isIn 26 = .ok (.iconst 1, 1) := by decide +kernel
theorem dX12_isIn_27 : decode cX12_isIn 27 = .ok (.invokestatic 416, 3) := by decide +kernel
theorem dX12_isIn_30 : decode cX12_isIn 30 = .ok (.aload_n 0, 1) := by decide +kernel
theorem dX12_isIn_31 : decode cX12_isIn 31 = .ok (.getfield 56, 3) := by decide +kernel
theorem dX12_isIn_34 : decode cX12_isIn 34 = .ok (.iconst 1, 1) := by decide +kernel
theorem dX12_isIn_35 : decode cX12_isIn 35 = .ok (.invokestatic 416, 3) := by decide +kernel
theorem dX12_isIn_38 : decode cX12_isIn 38 = .ok (.aload_n 0, 1) := by decide +kernel
theorem dX12_isIn_39 : decode cX12_isIn 39 = .ok (.getfield 59, 3) := by decide +kernel
theorem dX12_isIn_42 : decode cX12_isIn 42 = .ok (.iconst 0, 1) := by decide +kernel
theorem dX12_isIn_43 : decode cX12_isIn 43 = .ok (.invokestatic 416, 3) := by decide +kernel
theorem dX12_isIn_46 : decode cX12_isIn 46 = .ok (.iconst 0, 1) := by decide +kernel
theorem dX12_isIn_47 : decode cX12_isIn 47 = .ok (.istore 6, 2) := by decide +kernel
theorem dX12_isIn_49 : decode cX12_isIn 49 = .ok (.iload 6, 2) := by decide +kernel
theorem dX12_isIn_51 : decode cX12_isIn 51 = .ok (.iload_n 1, 1) := by decide +kernel
theorem dX12_isIn_52 : decode cX12_isIn 52 = .ok (.if_icmp .ge 28, 3) := by decide +kernel
theorem dX12_isIn_55 : decode cX12_isIn 55 = .ok (.aload_n 0, 1) := by decide +kernel
theorem dX12_isIn_56 : decode cX12_isIn 56 = .ok (.getfield 62, 3) := by decide +kernel
theorem dX12_isIn_59 : decode cX12_isIn 59 = .ok (.iload_n 3, 1) := by decide +kernel
theorem dX12_isIn_60 : decode cX12_isIn 60 = .ok (.i2l, 1) := by decide +kernel
theorem dX12_isIn_61 : decode cX12_isIn 61 = .ok (.invokestatic 407, 3) := by decide +kernel
theorem dX12_isIn_64 : decode cX12_isIn 64 = .ok (.aload_n 0, 1) := by decide +kernel
theorem dX12_isIn_65 : decode cX12_isIn 65 = .ok (.getfield 56, 3) := by decide +kernel
theorem dX12_isIn_68 : decode cX12_isIn 68 = .ok (.iload 5, 2) := by decide +kernel
theorem dX12_isIn_70 : decode cX12_isIn 70 = .ok (.i2l, 1) := by decide +kernel
theorem dX12_isIn_71 : decode cX12_isIn 71 = .ok (.invokestatic 407, 3) := by decide +kernel
theorem dX12_isIn_74 : decode cX12_isIn 74 = .ok (.iinc 6 1, 3) := by decide +kernel
theorem dX12_isIn_77 : decode cX12_isIn 77 = .ok (.goto (-28), 3) := by decide +kernel
theorem dX12_isIn_80 : decode cX12_isIn 80 = .ok (.iconst 0, 1) := by decide +kernel
theorem dX12_isIn_81 : decode cX12_isIn 81 = .ok (.istore 6, 2) := by decide +kernel
theorem dX12_isIn_83 : decode cX12_isIn 83 = .ok (.iconst 0, 1) := by decide +kernel
theorem dX12_isIn_84 : decode cX12_isIn 84 = .ok (.istore 7, 2) := by decide +kernel
theorem dX12_isIn_86 : decode cX12_isIn 86 = .ok (.iload 7, 2) := by decide +kernel
theorem dX12_isIn_88 : decode cX12_isIn 88 = .ok (.iload 4, 2) := by decide +kernel
theorem dX12_isIn_90 : decode cX12_isIn 90 = .ok (.if_icmp .gt 83, 3) := by decide +kernel
theorem dX12_isIn_93 : decode cX12_isIn 93 = .ok (.iload 7, 2) := by decide +kernel
theorem dX12_isIn_95 : decode cX12_isIn 95 = .ok (.iload 4, 2) := by decide +kernel
theorem dX12_isIn_97 : decode cX12_isIn 97 = .ok (.if_icmp .ne 38, 3) := by decide +kernel
theorem dX12_isIn_100 : decode cX12_isIn 100 = .ok (.aload_n 0, 1) := by decide +kernel
theorem dX12_isIn_101 : decode cX12_isIn 101 = .ok (.getfield 62, 3) := by decide +kernel
theorem dX12_isIn_104 : decode cX12_isIn 104 = .ok (.aload_n 0, 1) := by decide +kernel
theorem dX12_isIn_105 : decode cX12_isIn 105 = .ok (.getfield 65, 3) := by decide +kernel
theorem dX12_isIn_108 : decode cX12_isIn 108 = .ok (.invokestatic 401, 3) := by decide +kernel
theorem dX12_isIn_111 : decode cX12_isIn 111 = .ok (.aload_n 0, 1) := by decide +kernel
theorem dX12_isIn_112 : decode cX12_isIn 112 = .ok (.getfield 65, 3) := by decide +kernel
theorem dX12_isIn_115 : decode cX12_isIn 115 = .ok (.aload_n 0, 1) := by decide +kernel
theorem dX12_isIn_116 : decode cX12_isIn 116 = .ok (.getfield 59, 3) := by decide +kernel
theorem dX12_isIn_119 : decode cX12_isIn 119 = .ok (.ldc2_w 420, 3) := by decide +kernel
theorem dX12_isIn_122 : decode cX12_isIn 122 = .ok (.invokestatic 397, 3) := by decide +kernel
theorem dX12_isIn_125 : decode cX12_isIn 125 = .ok (.aload_n 0, 1) := by decide +kernel
theorem dX12_isIn_126 : decode cX12_isIn 126 = .ok (.aload_n 0, 1) := by decide +kernel
theorem dX12_isIn_127 : decode cX12_isIn 127 = .ok (.getfield 65, 3) := by decide +kernel
theorem dX12_isIn_130 : decode cX12_isIn 130 = .ok (.invokevirtual 422, 3) := by decide +kernel
theorem dX12_isIn_133 : decode cX12_isIn 133 = .ok (.istore 6, 2) := by decide +kernel
theorem dX12_isIn_135 : decode cX12_isIn 135 = .ok (.aload_n 0, 1) := by decide +kernel
theorem dX12_isIn_136 : decode cX12_isIn 136 = .ok (.iload_n 1, 1) := by decide +kernel
theorem dX12_isIn_137 : decode cX12_isIn 137 = .ok (.iload 7, 2) := by decide +kernel
theorem dX12_isIn_139 : decode cX12_isIn 139 = .ok (.invokevirtual 426, 3) := by decide +kernel
theorem dX12_isIn_142 : decode cX12_isIn 142 = .ok (.iload 7, 2) := by decide +kernel
theorem dX12_isIn_144 : decode cX12_isIn 144 = .ok (.iload 4, 2) := by decide +kernel
theorem dX12_isIn_146 : decode cX12_isIn 146 = .ok (.if_icmp .ge 21, 3) := by decide +kernel
theorem dX12_isIn_149 : decode cX12_isIn 149 = .ok (.aload_n 0, 1) := by decide +kernel
theorem dX12_isIn_150 : decode cX12_isIn 150 = .ok (.getfield 56, 3) := by decide +kernel
theorem dX12_isIn_153 : decode cX12_isIn 153 = .ok (.iload_n 2, 1) := by decide +kernel
theorem dX12_isIn_154 : decode cX12_isIn 154 = .ok (.i2l, 1) := by decide +kernel
theorem dX12_isIn_155 : decode cX12_isIn 155 = .ok (.invokestatic 407, 3) := by decide +kernel
theorem dX12_isIn_158 : decode cX12_isIn 158 = .ok (.aload_n 0, 1) := by decide +kernel
theorem dX12_isIn_159 : decode cX12_isIn 159 = .ok (.getfield 56, 3) := by decide +kernel
theorem dX12_isIn_162 : decode cX12_isIn 162 = .ok (.iload 5, 2) := by decide +kernel
theorem dX12_isIn_164 : decode cX12_isIn 164 = .ok (.invokestatic 429, 3) := by decide +kernel
theorem dX12_isIn_167 : decode cX12_isIn 167 = .ok (.iinc 7 1, 3) := by decide +kernel
theorem dX12_isIn_170 : decode cX12_isIn 170 = .ok (.goto (-84), 3) := by decide +kernel
theorem dX12_isIn_173 : decode cX12_isIn 173 = .ok (.iload 6, 2) := by decide +kernel
theorem dX12_isIn_175 : decode cX12_isIn 175 = .ok (.ifCond .eq 18, 3) := by decide +kernel
theorem dX12_isIn_178 : decode cX12_isIn 178 = .ok (.aload_n 0, 1) := by decide +kernel
theorem dX12_isIn_179 : decode cX12_isIn 179 = .ok (.aload_n 0, 1) := by decide +kernel
theorem dX12_isIn_180 : decode cX12_isIn 180 = .ok (.getfield 59, 3) := by decide +kernel
theorem dX12_isIn_183 : decode cX12_isIn 183 = .ok (.invokevirtual 422, 3) := by decide +kernel
theorem dX12_isIn_186 : decode cX12_isIn 186 = .ok (.ifCond .eq 7, 3) := by decide +kernel
theorem dX12_isIn_189 : decode cX12_isIn 189 = .ok (.iconst 1, 1) := by decide +kernel
theorem dX12_isIn_190 : decode cX12_isIn 190 = .ok (.goto 4, 3) := by decide +kernel
theorem dX12_isIn_193 : decode cX12_isIn 193 = .ok (.iconst 0, 1) := by decide +kernel
theorem dX12_isIn_194 : decode cX12_isIn 194 = .ok (.ireturn, 1) := by decide +kernel
theorem dX12_spanOf_0 : decode cX12_spanOf 0 = .ok (.iconst (-1), 1) := by decide +kernel
theorem dX12_spanOf_1 : decode cX12_spanOf 1 = .ok (.istore 5, 2) := by decide +kernel
theorem dX12_spanOf_3 : decode cX12_spanOf 3 = .ok (.iconst 0, 1) := by decide +kernel
theorem dX12_spanOf_4 : decode cX12_spanOf 4 = .ok (.istore 6, 2) := by decide +kernel
theorem dX12_spanOf_6 : decode cX12_spanOf 6 = .ok (.iload 6, 2) := by decide +kernel
theorem dX12_spanOf_8 : decode cX12_spanOf 8 = .ok (.iload_n 1, 1) := by decide +kernel
theorem dX12_spanOf_9 : decode cX12_spanOf 9 = .ok (.if_icmp .gt 52, 3) := by decide +kernel
theorem dX12_spanOf_12 : decode cX12_spanOf 12 = .ok (.iload 4, 2) := by decide +kernel
theorem dX12_spanOf_14 : decode cX12_spanOf 14 = .ok (.ifCond .ne 8, 3) := by decide +kernel
theorem dX12_spanOf_17 : decode cX12_spanOf 17 = .ok (.iload 5, 2) := by decide +kernel
theorem dX12_spanOf_19 : decode cX12_spanOf 19 = .ok (.ifCond .ge 19, 3) := by decide +kernel
theorem dX12_spanOf_22 : decode cX12_spanOf 22 = .ok (.aload_n 0, 1) := by decide +kernel
theorem dX12_spanOf_23 : decode cX12_spanOf 23 = .ok (.iload_n 1, 1) := by decide +kernel
theorem dX12_spanOf_24 : decode cX12_spanOf 24 = .ok (.iload_n 2, 1) := by decide +kernel
theorem dX12_spanOf_25 : decode cX12_spanOf 25 = .ok (.iload_n 3, 1) := by decide +kernel
theorem dX12_spanOf_26 : decode cX12_spanOf 26 = .ok (.iload 6, 2) := by decide +kernel
theorem dX12_spanOf_28 : decode cX12_spanOf 28 = .ok (.invokevirtual 432, 3) := by decide +kernel
theorem dX12_spanOf_31 : decode cX12_spanOf 31 = .ok (.ifCond .eq 7, 3) := by decide +kernel
theorem dX12_spanOf_34 : decode cX12_spanOf 34 = .ok (.iconst 1, 1) := by decide +kernel
theorem dX12_spanOf_35 : decode cX12_spanOf 35 = .ok (.goto 4, 3) := by decide +kernel
theorem dX12_spanOf_38 : decode cX12_spanOf 38 = .ok (.iconst 0, 1) := by decide +kernel
theorem dX12_spanOf_39 : decode cX12_spanOf 39 = .ok (.istore 7, 2) := by decide +kernel
theorem dX12_spanOf_41 : decode cX12_spanOf 41 = .ok (.iload 7, 2) := by decide +kernel
theorem dX12_spanOf_43 : decode cX12_spanOf 43 = .ok (.ifCond .eq 8, 3) := by decide +kernel
theorem dX12_spanOf_46 : decode cX12_spanOf 46 = .ok (.iload 6, 2) := by decide +kernel
theorem dX12_spanOf_48 : decode cX12_spanOf 48 = .ok (.goto 5, 3) := by decide +kernel
theorem dX12_spanOf_51 : decode cX12_spanOf 51 = .ok (.iload 5, 2) := by decide +kernel
theorem dX12_spanOf_53 : decode cX12_spanOf 53 = .ok (.istore 5, 2) := by decide +kernel
theorem dX12_spanOf_55 : decode cX12_spanOf 55 = .ok (.iinc 6 1, 3) := by decide +kernel
theorem dX12_spanOf_58 : decode cX12_spanOf 58 = .ok (.goto (-52), 3) := by decide +kernel
theorem dX12_spanOf_61 : decode cX12_spanOf 61 = .ok (.iload 5, 2) := by decide +kernel
theorem dX12_spanOf_63 : decode cX12_spanOf 63 = .ok (.ireturn, 1) := by decide +kernel
theorem dX12_span_0 : decode cX12_span 0 = .ok (.aload_n 0, 1) := by decide +kernel
theorem dX12_span_1 : decode cX12_span 1 = .ok (.invokevirtual 211, 3) := by decide +kernel
theorem dX12_span_4 : decode cX12_span 4 = .ok (.iload_n 1, 1) := by decide +kernel
theorem dX12_span_5 : decode cX12_span 5 = .ok (.iconst 1, 1) := by decide +kernel
theorem dX12_span_6 : decode cX12_span 6 = .ok (.bipush 40, 2) := by decide +kernel
theorem dX12_span_8 : decode cX12_span 8 = .ok (.invokestatic 203, 3) := by decide +kernel
theorem dX12_span_11 : decode cX12_span 11 = .ok (.ifCond .eq 23, 3) := by decide +kernel
theorem dX12_span_14 : decode cX12_span 14 = .ok (.iload_n 3, 1) := by decide +kernel
theorem dX12_span_15 : decode cX12_span 15 = .ok (.iconst 1, 1) := by decide +kernel
theorem dX12_span_16 : decode cX12_span 16 = .ok (.sipush 10000, 3) := by decide +kernel
theorem dX12_span_19 : decode cX12_span 19 = .ok (.invokestatic 203, 3) := by decide +kernel
theorem dX12_span_22 : decode cX12_span 22 = .ok (.ifCond .eq 12, 3) := by decide +kernel
theorem dX12_span_25 : decode cX12_span 25 = .ok (.iload_n 2, 1) := by decide +kernel
theorem dX12_span_26 : decode cX12_span 26 = .ok (.iconst 0, 1) := by decide +kernel
theorem dX12_span_27 : decode cX12_span 27 = .ok (.iload_n 3, 1) := by decide +kernel
theorem dX12_span_28 : decode cX12_span 28 = .ok (.invokestatic 203, 3) := by decide +kernel
theorem dX12_span_31 : decode cX12_span 31 = .ok (.ifCond .ne 9, 3) := by decide +kernel
theorem dX12_span_34 : decode cX12_span 34 = .ok (.aload_n 0, 1) := by decide +kernel
theorem dX12_span_35 : decode cX12_span 35 = .ok (.iconst 2, 1) := by decide +kernel
theorem dX12_span_36 : decode cX12_span 36 = .ok (.invokevirtual 214, 3) := by decide +kernel
theorem dX12_span_39 : decode cX12_span 39 = .ok (.ireturn, 1) := by decide +kernel
theorem dX12_span_40 : decode cX12_span 40 = .ok (.aload_n 0, 1) := by decide +kernel
theorem dX12_span_41 : decode cX12_span 41 = .ok (.iload_n 1, 1) := by decide +kernel
theorem dX12_span_42 : decode cX12_span 42 = .ok (.iload_n 2, 1) := by decide +kernel
theorem dX12_span_43 : decode cX12_span 43 = .ok (.iload_n 3, 1) := by decide +kernel
theorem dX12_span_44 : decode cX12_span 44 = .ok (.iload 4, 2) := by decide +kernel
theorem dX12_span_46 : decode cX12_span 46 = .ok (.invokevirtual 436, 3) := by decide +kernel
theorem dX12_span_49 : decode cX12_span 49 = .ok (.istore 5, 2) := by decide +kernel
theorem dX12_span_51 : decode cX12_span 51 = .ok (.iload 5, 2) := by decide +kernel
theorem dX12_span_53 : decode cX12_span 53 = .ok (.ifCond .ge 12, 3) := by decide +kernel
theorem dX12_span_56 : decode cX12_span 56 = .ok (.aload_n 0, 1) := by decide +kernel
theorem dX12_span_57 : decode cX12_span 57 = .ok (.bipush 6, 2) := by decide +kernel
theorem dX12_span_59 : decode cX12_span 59 = .ok (.invokevirtual 214, 3) := by decide +kernel
theorem dX12_span_62 : decode cX12_span 62 = .ok (.goto 5, 3) := by decide +kernel
theorem dX12_span_65 : decode cX12_span 65 = .ok (.iload 5, 2) := by decide +kernel
theorem dX12_span_67 : decode cX12_span 67 = .ok (.ireturn, 1) := by decide +kernel
theorem dX12_lays_0 : decode cX12_lays 0 = .ok (.aload_n 0, 1) := by decide +kernel
theorem dX12_lays_1 : decode cX12_lays 1 = .ok (.iconst 0, 1) := by decide +kernel
theorem dX12_lays_2 : decode cX12_lays 2 = .ok (.putfield 440, 3) := by decide +kernel
theorem dX12_lays_5 : decode cX12_lays 5 = .ok (.iconst 1, 1) := by decide +kernel
theorem dX12_lays_6 : decode cX12_lays 6 = .ok (.istore_n 2, 1) := by decide +kernel
theorem dX12_lays_7 : decode cX12_lays 7 = .ok (.iconst 0, 1) := by decide +kernel
theorem dX12_lays_8 : decode cX12_lays 8 = .ok (.istore_n 3, 1) := by decide +kernel
theorem dX12_lays_9 : decode cX12_lays 9 = .ok (.iload_n 3, 1) := by decide +kernel
theorem dX12_lays_10 : decode cX12_lays 10 = .ok (.aload_n 0, 1) := by decide +kernel
theorem dX12_lays_11 : decode cX12_lays 11 = .ok (.getfield 226, 3) := by decide +kernel
theorem dX12_lays_14 : decode cX12_lays 14 = .ok (.if_icmp .ge 245, 3) := by decide +kernel
theorem dX12_lays_17 : decode cX12_lays 17 = .ok (.aload_n 0, 1) := by decide +kernel
theorem dX12_lays_18 : decode cX12_lays 18 = .ok (.getfield 35, 3) := by decide +kernel
theorem dX12_lays_21 : decode cX12_lays 21 = .ok (.iload_n 3, 1) := by decide +kernel
theorem dX12_lays_22 : decode cX12_lays 22 = .ok (.iaload, 1) := by decide +kernel
theorem dX12_lays_23 : decode cX12_lays 23 = .ok (.iload_n 1, 1) := by decide +kernel
theorem dX12_lays_24 : decode cX12_lays 24 = .ok (.if_icmp .ne 229, 3) := by decide +kernel
theorem dX12_lays_27 : decode cX12_lays 27 = .ok (.aload_n 0, 1) := by decide +kernel
theorem dX12_lays_28 : decode cX12_lays 28 = .ok (.getfield 38, 3) := by decide +kernel
theorem dX12_lays_31 : decode cX12_lays 31 = .ok (.iload_n 3, 1) := by decide +kernel
theorem dX12_lays_32 : decode cX12_lays 32 = .ok (.iaload, 1) := by decide +kernel
theorem dX12_lays_33 : decode cX12_lays 33 = .ok (.iconst 1, 1) := by decide +kernel
theorem dX12_lays_34 : decode cX12_lays 34 = .ok (.if_icmp .le 6, 3) := by decide +kernel
theorem dX12_lays_37 : decode cX12_lays 37 = .ok (.goto 216, 3) := by decide +kernel
theorem dX12_lays_40 : decode cX12_lays 40 = .ok (.iconst 0, 1) := by decide +kernel
theorem dX12_lays_41 : decode cX12_lays 41 = .ok (.istore 4, 2) := by decide +kernel
theorem dX12_lays_43 : decode cX12_lays 43 = .ok (.iload 4, 2) := by decide +kernel
theorem dX12_lays_45 : decode cX12_lays 45 = .ok (.aload_n 0, 1) := by decide +kernel
theorem dX12_lays_46 : decode cX12_lays 46 = .ok (.getfield 440, 3) := by decide +kernel
theorem dX12_lays_49 : decode cX12_lays 49 = .ok (.if_icmp .ge 57, 3) := by decide +kernel
theorem dX12_lays_52 : decode cX12_lays 52 = .ok (.aload_n 0, 1) := by decide +kernel
theorem dX12_lays_53 : decode cX12_lays 53 = .ok (.getfield 71, 3) := by decide +kernel
theorem dX12_lays_56 : decode cX12_lays 56 = .ok (.iload 4, 2) := by decide +kernel
theorem dX12_lays_58 : decode cX12_lays 58 = .ok (.iaload, 1) := by decide +kernel
theorem dX12_lays_59 : decode cX12_lays 59 = .ok (.aload_n 0, 1) := by decide +kernel
theorem dX12_lays_60 : decode cX12_lays 60 = .ok (.getfield 38, 3) := by decide +kernel
theorem dX12_lays_63 : decode cX12_lays 63 = .ok (.iload_n 3, 1) := by decide +kernel
theorem dX12_lays_64 : decode cX12_lays 64 = .ok (.iaload, 1) := by decide +kernel
theorem dX12_lays_65 : decode cX12_lays 65 = .ok (.if_icmp .ne 35, 3) := by decide +kernel
theorem dX12_lays_68 : decode cX12_lays 68 = .ok (.aload_n 0, 1) := by decide +kernel
theorem dX12_lays_69 : decode cX12_lays 69 = .ok (.getfield 74, 3) := by decide +kernel
theorem dX12_lays_72 : decode cX12_lays 72 = .ok (.iload 4, 2) := by decide +kernel
theorem dX12_lays_74 : decode cX12_lays 74 = .ok (.iaload, 1) := by decide +kernel
theorem dX12_lays_75 : decode cX12_lays 75 = .ok (.aload_n 0, 1) := by decide +kernel
theorem dX12_lays_76 : decode cX12_lays 76 = .ok (.getfield 41, 3) := by decide +kernel
theorem dX12_lays_79 : decode cX12_lays 79 = .ok (.iload_n 3, 1) := by decide +kernel
theorem dX12_lays_80 : decode cX12_lays 80 = .ok (.iaload, 1) := by decide +kernel
theorem dX12_lays_81 : decode cX12_lays 81 = .ok (.if_icmp .ne 19, 3) := by decide +kernel
theorem dX12_lays_84 : decode cX12_lays 84 = .ok (.aload_n 0, 1) := by decide +kernel
theorem dX12_lays_85 : decode cX12_lays 85 = .ok (.getfield 77, 3) := by decide +kernel
theorem dX12_lays_88 : decode cX12_lays 88 = .ok (.iload 4, 2) := by decide +kernel
theorem dX12_lays_90 : decode cX12_lays 90 = .ok (.iaload, 1) := by decide +kernel
theorem dX12_lays_91 : decode cX12_lays 91 = .ok (.aload_n 0, 1) := by decide +kernel
theorem dX12_lays_92 : decode cX12_lays 92 = .ok (.getfield 44, 3) := by decide +kernel
theorem dX12_lays_95 : decode cX12_lays 95 = .ok (.iload_n 3, 1) := by decide +kernel
theorem dX12_lays_96 : decode cX12_lays 96 = .ok (.iaload, 1) := by decide +kernel
theorem dX12_lays_97 : decode cX12_lays 97 = .ok (.if_icmp .eq 9, 3) := by decide +kernel
theorem dX12_lays_100 : decode cX12_lays 100 = .ok (.iinc 4 1, 3) := by decide +kernel
theorem dX12_lays_103 : decode cX12_lays 103 = .ok (.goto (-60), 3) := by decide +kernel
theorem dX12_lays_106 : decode cX12_lays 106 = .ok (.iload 4, 2) := by decide +kernel
theorem dX12_lays_108 : decode cX12_lays 108 = .ok (.aload_n 0, 1) := by decide +kernel
theorem dX12_lays_109 : decode cX12_lays 109 = .ok (.getfield 440, 3) := by decide +kernel
theorem dX12_lays_112 : decode cX12_lays 112 = .ok (.if_icmp .ne 88, 3) := by decide +kernel
theorem dX12_lays_115 : decode cX12_lays 115 = .ok (.aload_n 0, 1) := by decide +kernel
theorem dX12_lays_116 : decode cX12_lays 116 = .ok (.getfield 71, 3) := by decide +kernel
theorem dX12_lays_119 : decode cX12_lays 119 = .ok (.iload 4, 2) := by decide +kernel
theorem dX12_lays_121 : decode cX12_lays 121 = .ok (.aload_n 0, 1) := by decide +kernel
theorem dX12_lays_122 : decode cX12_lays 122 = .ok (.getfield 38, 3) := by decide +kernel
theorem dX12_lays_125 : decode cX12_lays 125 = .ok (.iload_n 3, 1) := by decide +kernel
theorem dX12_lays_126 : decode cX12_lays 126 = .ok (.iaload, 1) := by decide +kernel
theorem dX12_lays_127 : decode cX12_lays 127 = .ok (.iastore, 1) := by decide +kernel
theorem dX12_lays_128 : decode cX12_lays 128 = .ok (.aload_n 0, 1) := by decide +kernel
theorem dX12_lays_129 : decode cX12_lays 129 = .ok (.getfield 74, 3) := by decide +kernel
theorem dX12_lays_132 : decode cX12_lays 132 = .ok (.iload 4, 2) := by decide +kernel
theorem dX12_lays_134 : decode cX12_lays 134 = .ok (.aload_n 0, 1) := by decide +kernel
theorem dX12_lays_135 : decode cX12_lays 135 = .ok (.getfield 41, 3) := by decide +kernel
theorem dX12_lays_138 : decode cX12_lays 138 = .ok (.iload_n 3, 1) := by decide +kernel
theorem dX12_lays_139 : decode cX12_lays 139 = .ok (.iaload, 1) := by decide +kernel
theorem dX12_lays_140 : decode cX12_lays 140 = .ok (.iastore, 1) := by decide +kernel
theorem dX12_lays_141 : decode cX12_lays 141 = .ok (.aload_n 0, 1) := by decide +kernel
theorem dX12_lays_142 : decode cX12_lays 142 = .ok (.getfield 77, 3) := by decide +kernel
theorem dX12_lays_145 : decode cX12_lays 145 = .ok (.iload 4, 2) := by decide +kernel
theorem dX12_lays_147 : decode cX12_lays 147 = .ok (.aload_n 0, 1) := by decide +kernel
theorem dX12_lays_148 : decode cX12_lays 148 = .ok (.getfield 44, 3) := by decide +kernel
theorem dX12_lays_151 : decode cX12_lays 151 = .ok (.iload_n 3, 1) := by decide +kernel
theorem dX12_lays_152 : decode cX12_lays 152 = .ok (.iaload, 1) := by decide +kernel
theorem dX12_lays_153 : decode cX12_lays 153 = .ok (.iastore, 1) := by decide +kernel
theorem dX12_lays_154 : decode cX12_lays 154 = .ok (.aload_n 0, 1) := by decide +kernel
theorem dX12_lays_155 : decode cX12_lays 155 = .ok (.getfield 80, 3) := by decide +kernel
theorem dX12_lays_158 : decode cX12_lays 158 = .ok (.iload 4, 2) := by decide +kernel
theorem dX12_lays_160 : decode cX12_lays 160 = .ok (.iconst 0, 1) := by decide +kernel
theorem dX12_lays_161 : decode cX12_lays 161 = .ok (.iastore, 1) := by decide +kernel
theorem dX12_lays_162 : decode cX12_lays 162 = .ok (.iconst 0, 1) := by decide +kernel
theorem dX12_lays_163 : decode cX12_lays 163 = .ok (.istore 5, 2) := by decide +kernel
theorem dX12_lays_165 : decode cX12_lays 165 = .ok (.iload 5, 2) := by decide +kernel
theorem dX12_lays_167 : decode cX12_lays 167 = .ok (.iconst 3, 1) := by decide +kernel
theorem dX12_lays_168 : decode cX12_lays 168 = .ok (.if_icmp .ge 22, 3) := by decide +kernel
theorem dX12_lays_171 : decode cX12_lays 171 = .ok (.aload_n 0, 1) := by decide +kernel
theorem dX12_lays_172 : decode cX12_lays 172 = .ok (.getfield 83, 3) := by decide +kernel
theorem dX12_lays_175 : decode cX12_lays 175 = .ok (.iconst 3, 1) := by decide +kernel
theorem dX12_lays_176 : decode cX12_lays 176 = .ok (.iload 4, 2) := by decide +kernel
theorem dX12_lays_178 : decode cX12_lays 178 = .ok (.imul, 1) := by decide +kernel
theorem dX12_lays_179 : decode cX12_lays 179 = .ok (.iload 5, 2) := by decide +kernel
theorem dX12_lays_181 : decode cX12_lays 181 = .ok (.iadd, 1) := by decide +kernel
theorem dX12_lays_182 : decode cX12_lays 182 = .ok (.iconst 0, 1) := by decide +kernel
theorem dX12_lays_183 : decode cX12_lays 183 = .ok (.iastore, 1) := by decide +kernel
theorem dX12_lays_184 : decode cX12_lays 184 = .ok (.iinc 5 1, 3) := by decide +kernel
theorem dX12_lays_187 : decode cX12_lays 187 = .ok (.goto (-22), 3) := by decide +kernel
theorem dX12_lays_190 : decode cX12_lays 190 = .ok (.aload_n 0, 1) := by decide +kernel
theorem dX12_lays_191 : decode cX12_lays 191 = .ok (.dup, 1) := by decide +kernel
theorem dX12_lays_192 : decode cX12_lays 192 = .ok (.getfield 440, 3) := by decide +kernel
theorem dX12_lays_195 : decode cX12_lays 195 = .ok (.iconst 1, 1) := by decide +kernel
theorem dX12_lays_196 : decode cX12_lays 196 = .ok (.iadd, 1) := by decide +kernel
theorem dX12_lays_197 : decode cX12_lays 197 = .ok (.putfield 440, 3) := by decide +kernel
theorem dX12_lays_200 : decode cX12_lays 200 = .ok (.aload_n 0, 1) := by decide +kernel
theorem dX12_lays_201 : decode cX12_lays 201 = .ok (.getfield 80, 3) := by decide +kernel
theorem dX12_lays_204 : decode cX12_lays 204 = .ok (.iload 4, 2) := by decide +kernel
theorem dX12_lays_206 : decode cX12_lays 206 = .ok (.dup2, 1) := by decide +kernel
theorem dX12_lays_207 : decode cX12_lays 207 = .ok (.iaload, 1) := by decide +kernel
theorem dX12_lays_208 : decode cX12_lays 208 = .ok (.iconst 1, 1) := by decide +kernel
theorem dX12_lays_209 : decode cX12_lays 209 = .ok (.iadd, 1) := by decide +kernel
theorem dX12_lays_210 : decode cX12_lays 210 = .ok (.iastore, 1) := by decide +kernel
theorem dX12_lays_211 : decode cX12_lays 211 = .ok (.aload_n 0, 1) := by decide +kernel
theorem dX12_lays_212 : decode cX12_lays 212 = .ok (.getfield 83, 3) := by decide +kernel
theorem dX12_lays_215 : decode cX12_lays 215 = .ok (.iconst 3, 1) := by decide +kernel
theorem dX12_lays_216 : decode cX12_lays 216 = .ok (.iload 4, 2) := by decide +kernel
theorem dX12_lays_218 : decode cX12_lays 218 = .ok (.imul, 1) := by decide +kernel
theorem dX12_lays_219 : decode cX12_lays 219 = .ok (.aload_n 0, 1) := by decide +kernel
theorem dX12_lays_220 : decode cX12_lays 220 = .ok (.getfield 50, 3) := by decide +kernel
theorem dX12_lays_223 : decode cX12_lays 223 = .ok (.iload_n 3, 1) := by decide +kernel
theorem dX12_lays_224 : decode cX12_lays 224 = .ok (.iaload, 1) := by decide +kernel
theorem dX12_lays_225 : decode cX12_lays 225 = .ok (.iadd, 1) := by decide +kernel
theorem dX12_lays_226 : decode cX12_lays 226 = .ok (.dup2, 1) := by decide +kernel
theorem dX12_lays_227 : decode cX12_lays 227 = .ok (.iaload, 1) := by decide +kernel
theorem dX12_lays_228 : decode cX12_lays 228 = .ok (.iconst 1, 1) := by decide +kernel
theorem dX12_lays_229 : decode cX12_lays 229 = .ok (.iadd, 1) := by decide +kernel
theorem dX12_lays_230 : decode cX12_lays 230 = .ok (.iastore, 1) := by decide +kernel
theorem dX12_lays_231 : decode cX12_lays 231 = .ok (.iload_n 2, 1) := by decide +kernel
theorem dX12_lays_232 : decode cX12_lays 232 = .ok (.ifCond .eq 19, 3) := by decide +kernel
theorem dX12_lays_235 : decode cX12_lays 235 = .ok (.aload_n 0, 1) := by decide +kernel
theorem dX12_lays_236 : decode cX12_lays 236 = .ok (.getfield 80, 3) := by decide +kernel
theorem dX12_lays_239 : decode cX12_lays 239 = .ok (.iload 4, 2) := by decide +kernel
theorem dX12_lays_241 : decode cX12_lays 241 = .ok (.iaload, 1) := by decide +kernel
theorem dX12_lays_242 : decode cX12_lays 242 = .ok (.bipush 40, 2) := by decide +kernel
theorem dX12_lays_244 : decode cX12_lays 244 = .ok (.if_icmp .gt 7, 3) := by decide +kernel
theorem dX12_lays_247 : decode cX12_lays 247 = .ok (.iconst 1, 1) := by decide +kernel
theorem dX12_lays_248 : decode cX12_lays 248 = .ok (.goto 4, 3) := by decide +kernel
theorem dX12_lays_251 : decode cX12_lays 251 = .ok (.iconst 0, 1) := by decide +kernel
theorem dX12_lays_252 : decode cX12_lays 252 = .ok (.istore_n 2, 1) := by decide +kernel
theorem dX12_lays_253 : decode cX12_lays 253 = .ok (.iinc 3 1, 3) := by decide +kernel
theorem dX12_lays_256 : decode cX12_lays 256 = .ok (.goto (-247), 3) := by decide +kernel
theorem dX12_lays_259 : decode cX12_lays 259 = .ok (.iload_n 2, 1) := by decide +kernel
theorem dX12_lays_260 : decode cX12_lays 260 = .ok (.ireturn, 1) := by decide +kernel
theorem dX12_letsLine_0 : decode cX12_letsLine 0 = .ok (.aload_n 0, 1) := by decide +kernel
theorem dX12_letsLine_1 : decode cX12_letsLine 1 = .ok (.iload_n 1, 1) := by decide +kernel
theorem dX12_letsLine_2 : decode cX12_letsLine 2 = .ok (.aload_n 0, 1) := by decide +kernel
theorem dX12_letsLine_3 : decode cX12_letsLine 3 = .ok (.iload_n 1, 1) := by decide +kernel
theorem dX12_letsLine_4 : decode cX12_letsLine 4 = .ok (.invokevirtual 443, 3) := by decide +kernel
theorem dX12_letsLine_7 : decode cX12_letsLine 7 = .ok (.invokevirtual 324, 3) := by decide +kernel
theorem dX12_letsLine_10 : decode cX12_letsLine 10 = .ok (.istore_n 3, 1) := by decide +kernel
theorem dX12_letsLine_11 : decode cX12_letsLine 11 = .ok (.iconst 1, 1) := by decide +kernel
theorem dX12_letsLine_12 : decode cX12_letsLine 12 = .ok (.istore 4, 2) := by decide +kernel
theorem dX12_letsLine_14 : decode cX12_letsLine 14 = .ok (.iconst 0, 1) := by decide +kernel
theorem dX12_letsLine_15 : decode cX12_letsLine 15 = .ok (.istore 5, 2) := by decide +kernel
theorem dX12_letsLine_17 : decode cX12_letsLine 17 = .ok (.iload 5, 2) := by decide +kernel
theorem dX12_letsLine_19 : decode cX12_letsLine 19 = .ok (.aload_n 0, 1) := by decide +kernel
theorem dX12_letsLine_20 : decode cX12_letsLine 20 = .ok (.getfield 440, 3) := by decide +kernel
theorem dX12_letsLine_23 : decode cX12_letsLine 23 = .ok (.if_icmp .ge 150, 3) := by decide +kernel
theorem dX12_letsLine_26 : decode cX12_letsLine 26 = .ok (.iload 4, 2) := by decide +kernel
theorem dX12_letsLine_28 : decode cX12_letsLine 28 = .ok (.ifCond .eq 145, 3) := by decide +kernel
theorem dX12_letsLine_31 : decode cX12_letsLine 31 = .ok (.aload_n 0, 1) := by decide +kernel
theorem dX12_letsLine_32 : decode cX12_letsLine 32 = .ok (.getfield 71, 3) := by decide +kernel
theorem dX12_letsLine_35 : decode cX12_letsLine 35 = .ok (.iload 5, 2) := by decide +kernel
theorem dX12_letsLine_37 : decode cX12_letsLine 37 = .ok (.iaload, 1) := by decide +kernel
theorem dX12_letsLine_38 : decode cX12_letsLine 38 = .ok (.iconst 1, 1) := by decide +kernel
theorem dX12_letsLine_39 : decode cX12_letsLine 39 = .ok (.if_icmp .eq 6, 3) := by decide +kernel
theorem dX12_letsLine_42 : decode cX12_letsLine 42 = .ok (.goto 125, 3) := by decide +kernel
theorem dX12_letsLine_45 : decode cX12_letsLine 45 = .ok (.iconst 0, 1) := by decide +kernel
theorem dX12_letsLine_46 : decode cX12_letsLine 46 = .ok (.istore 6, 2) := by decide +kernel
theorem dX12_letsLine_48 : decode cX12_letsLine 48 = .ok (.bipush (-5), 2) := by decide +kernel
theorem dX12_letsLine_50 : decode cX12_letsLine 50 = .ok (.istore 7, 2) := by decide +kernel
theorem dX12_letsLine_52 : decode cX12_letsLine 52 = .ok (.iload 7, 2) := by decide +kernel
theorem dX12_letsLine_54 : decode cX12_letsLine 54 = .ok (.iconst 5, 1) := by decide +kernel
theorem dX12_letsLine_55 : decode cX12_letsLine 55 = .ok (.if_icmp .gt 49, 3) := by decide +kernel
theorem dX12_letsLine_58 : decode cX12_letsLine 58 = .ok (.iload 6, 2) := by decide +kernel
theorem dX12_letsLine_60 : decode cX12_letsLine 60 = .ok (.aload_n 0, 1) := by decide +kernel
theorem dX12_letsLine_61 : decode cX12_letsLine 61 = .ok (.iload_n 1, 1) := by decide +kernel
theorem dX12_letsLine_62 : decode cX12_letsLine 62 = .ok (.aload_n 0, 1) := by decide +kernel
theorem dX12_letsLine_63 : decode cX12_letsLine 63 = .ok (.getfield 74, 3) := by decide +kernel
theorem dX12_letsLine_66 : decode cX12_letsLine 66 = .ok (.iload 5, 2) := by decide +kernel
theorem dX12_letsLine_68 : decode cX12_letsLine 68 = .ok (.iaload, 1) := by decide +kernel
theorem dX12_letsLine_69 : decode cX12_letsLine 69 = .ok (.invokevirtual 330, 3) := by decide +kernel
theorem dX12_letsLine_72 : decode cX12_letsLine 72 = .ok (.iload 7, 2) := by decide +kernel
theorem dX12_letsLine_74 : decode cX12_letsLine 74 = .ok (.iadd, 1) := by decide +kernel
theorem dX12_letsLine_75 : decode cX12_letsLine 75 = .ok (.iload_n 2, 1) := by decide +kernel
theorem dX12_letsLine_76 : decode cX12_letsLine 76 = .ok (.if_icmp .le 18, 3) := by decide +kernel
theorem dX12_letsLine_79 : decode cX12_letsLine 79 = .ok (.aload_n 0, 1) := by decide +kernel
theorem dX12_letsLine_80 : decode cX12_letsLine 80 = .ok (.iload_n 1, 1) := by decide +kernel
theorem dX12_letsLine_81 : decode cX12_letsLine 81 = .ok (.iload 7, 2) := by decide +kernel
theorem dX12_letsLine_83 : decode cX12_letsLine 83 = .ok (.aload_n 0, 1) := by decide +kernel
theorem dX12_letsLine_84 : decode cX12_letsLine 84 = .ok (.iload_n 1, 1) := by decide +kernel
theorem dX12_letsLine_85 : decode cX12_letsLine 85 = .ok (.invokevirtual 443, 3) := by decide +kernel
theorem dX12_letsLine_88 : decode cX12_letsLine 88 = .ok (.invokevirtual 309, 3) := by decide +kernel
theorem dX12_letsLine_91 : decode cX12_letsLine 91 = .ok (.goto 4, 3) := by decide +kernel
theorem dX12_letsLine_94 : decode cX12_letsLine 94 = .ok (.iconst 0, 1) := by decide +kernel
theorem dX12_letsLine_95 : decode cX12_letsLine 95 = .ok (.iadd, 1) := by decide +kernel
theorem dX12_letsLine_96 : decode cX12_letsLine 96 = .ok (.istore 6, 2) := by decide +kernel
theorem dX12_letsLine_98 : decode cX12_letsLine 98 = .ok (.iinc 7 1, 3) := by decide +kernel
theorem dX12_letsLine_101 : decode cX12_letsLine 101 = .ok (.goto (-49), 3) := by decide +kernel
theorem dX12_letsLine_104 : decode cX12_letsLine 104 = .ok (.aload_n 0, 1) := by decide +kernel
theorem dX12_letsLine_105 : decode cX12_letsLine 105 = .ok (.aload_n 0, 1) := by decide +kernel
theorem dX12_letsLine_106 : decode cX12_letsLine 106 = .ok (.getfield 80, 3) := by decide +kernel
theorem dX12_letsLine_109 : decode cX12_letsLine 109 = .ok (.iload 5, 2) := by decide +kernel
theorem dX12_letsLine_111 : decode cX12_letsLine 111 = .ok (.iaload, 1) := by decide +kernel
theorem dX12_letsLine_112 : decode cX12_letsLine 112 = .ok (.iload 6, 2) := by decide +kernel
theorem dX12_letsLine_114 : decode cX12_letsLine 114 = .ok (.iload_n 3, 1) := by decide +kernel
theorem dX12_letsLine_115 : decode cX12_letsLine 115 = .ok (.aload_n 0, 1) := by decide +kernel
theorem dX12_letsLine_116 : decode cX12_letsLine 116 = .ok (.getfield 83, 3) := by decide +kernel
theorem dX12_letsLine_119 : decode cX12_letsLine 119 = .ok (.iconst 3, 1) := by decide +kernel
theorem dX12_letsLine_120 : decode cX12_letsLine 120 = .ok (.iload 5, 2) := by decide +kernel
theorem dX12_letsLine_122 : decode cX12_letsLine 122 = .ok (.imul, 1) := by decide +kernel
theorem dX12_letsLine_123 : decode cX12_letsLine 123 = .ok (.iconst 1, 1) := by decide +kernel
theorem dX12_letsLine_124 : decode cX12_letsLine 124 = .ok (.iadd, 1) := by decide +kernel
theorem dX12_letsLine_125 : decode cX12_letsLine 125 = .ok (.iaload, 1) := by decide +kernel
theorem dX12_letsLine_126 : decode cX12_letsLine 126 = .ok (.invokevirtual 432, 3) := by decide +kernel
theorem dX12_letsLine_129 : decode cX12_letsLine 129 = .ok (.ifCond .eq 35, 3) := by decide +kernel
theorem dX12_letsLine_132 : decode cX12_letsLine 132 = .ok (.aload_n 0, 1) := by decide +kernel
theorem dX12_letsLine_133 : decode cX12_letsLine 133 = .ok (.aload_n 0, 1) := by decide +kernel
theorem dX12_letsLine_134 : decode cX12_letsLine 134 = .ok (.getfield 80, 3) := by decide +kernel
theorem dX12_letsLine_137 : decode cX12_letsLine 137 = .ok (.iload 5, 2) := by decide +kernel
theorem dX12_letsLine_139 : decode cX12_letsLine 139 = .ok (.iaload, 1) := by decide +kernel
theorem dX12_letsLine_140 : decode cX12_letsLine 140 = .ok (.iload_n 3, 1) := by decide +kernel
theorem dX12_letsLine_141 : decode cX12_letsLine 141 = .ok (.iload 6, 2) := by decide +kernel
theorem dX12_letsLine_143 : decode cX12_letsLine 143 = .ok (.isub, 1) := by decide +kernel
theorem dX12_letsLine_144 : decode cX12_letsLine 144 = .ok (.iload_n 3, 1) := by decide +kernel
theorem dX12_letsLine_145 : decode cX12_letsLine 145 = .ok (.aload_n 0, 1) := by decide +kernel
theorem dX12_letsLine_146 : decode cX12_letsLine 146 = .ok (.getfield 83, 3) := by decide +kernel
theorem dX12_letsLine_149 : decode cX12_letsLine 149 = .ok (.iconst 3, 1) := by decide +kernel
theorem dX12_letsLine_150 : decode cX12_letsLine 150 = .ok (.iload 5, 2) := by decide +kernel
theorem dX12_letsLine_152 : decode cX12_letsLine 152 = .ok (.imul, 1) := by decide +kernel
theorem dX12_letsLine_153 : decode cX12_letsLine 153 = .ok (.iaload, 1) := by decide +kernel
theorem dX12_letsLine_154 : decode cX12_letsLine 154 = .ok (.invokevirtual 432, 3) := by decide +kernel
theorem dX12_letsLine_157 : decode cX12_letsLine 157 = .ok (.ifCond .eq 7, 3) := by decide +kernel
theorem dX12_letsLine_160 : decode cX12_letsLine 160 = .ok (.iconst 1, 1) := by decide +kernel
theorem dX12_letsLine_161 : decode cX12_letsLine 161 = .ok (.goto 4, 3) := by decide +kernel
theorem dX12_letsLine_164 : decode cX12_letsLine 164 = .ok (.iconst 0, 1) := by decide +kernel
theorem dX12_letsLine_165 : decode cX12_letsLine 165 = .ok (.istore 4, 2) := by decide +kernel
theorem dX12_letsLine_167 : decode cX12_letsLine 167 = .ok (.iinc 5 1, 3) := by decide +kernel
theorem dX12_letsLine_170 : decode cX12_letsLine 170 = .ok (.goto (-153), 3) := by decide +kernel
theorem dX12_letsLine_173 : decode cX12_letsLine 173 = .ok (.iload 4, 2) := by decide +kernel
theorem dX12_letsLine_175 : decode cX12_letsLine 175 = .ok (.ireturn, 1) := by decide +kernel
theorem dX12_pairs_0 : decode cX12_pairs 0 = .ok (.iconst 0, 1) := by decide +kernel
theorem dX12_pairs_1 : decode cX12_pairs 1 = .ok (.istore 5, 2) := by decide +kernel
theorem dX12_pairs_3 : decode cX12_pairs 3 = .ok (.iload 5, 2) := by decide +kernel
theorem dX12_pairs_5 : decode cX12_pairs 5 = .ok (.iconst 3, 1) := by decide +kernel
theorem dX12_pairs_6 : decode cX12_pairs 6 = .ok (.if_icmp .ge 17, 3) := by decide +kernel
theorem dX12_pairs_9 : decode cX12_pairs 9 = .ok (.aload_n 0, 1) := by decide +kernel
theorem dX12_pairs_10 : decode cX12_pairs 10 = .ok (.getfield 86, 3) := by decide +kernel
theorem dX12_pairs_13 : decode cX12_pairs 13 = .ok (.iload 5, 2) := by decide +kernel
theorem dX12_pairs_15 : decode cX12_pairs 15 = .ok (.iconst 0, 1) := by decide +kernel
theorem dX12_pairs_16 : decode cX12_pairs 16 = .ok (.iastore, 1) := by decide +kernel
theorem dX12_pairs_17 : decode cX12_pairs 17 = .ok (.iinc 5 1, 3) := by decide +kernel
theorem dX12_pairs_20 : decode cX12_pairs 20 = .ok (.goto (-17), 3) := by decide +kernel
theorem dX12_pairs_23 : decode cX12_pairs 23 = .ok (.bipush (-5), 2) := by decide +kernel
theorem dX12_pairs_25 : decode cX12_pairs 25 = .ok (.istore 5, 2) := by decide +kernel
theorem dX12_pairs_27 : decode cX12_pairs 27 = .ok (.iload 5, 2) := by decide +kernel
theorem dX12_pairs_29 : decode cX12_pairs 29 = .ok (.iconst 5, 1) := by decide +kernel
theorem dX12_pairs_30 : decode cX12_pairs 30 = .ok (.if_icmp .gt 87, 3) := by decide +kernel
theorem dX12_pairs_33 : decode cX12_pairs 33 = .ok (.bipush (-5), 2) := by decide +kernel
theorem dX12_pairs_35 : decode cX12_pairs 35 = .ok (.istore 6, 2) := by decide +kernel
theorem dX12_pairs_37 : decode cX12_pairs 37 = .ok (.iload 6, 2) := by decide +kernel
theorem dX12_pairs_39 : decode cX12_pairs 39 = .ok (.iconst 5, 1) := by decide +kernel
theorem dX12_pairs_40 : decode cX12_pairs 40 = .ok (.if_icmp .gt 71, 3) := by decide +kernel
theorem dX12_pairs_43 : decode cX12_pairs 43 = .ok (.aload_n 0, 1) := by decide +kernel
theorem dX12_pairs_44 : decode cX12_pairs 44 = .ok (.iload_n 1, 1) := by decide +kernel
theorem dX12_pairs_45 : decode cX12_pairs 45 = .ok (.iload_n 3, 1) := by decide +kernel
theorem dX12_pairs_46 : decode cX12_pairs 46 = .ok (.invokevirtual 330, 3) := by decide +kernel
theorem dX12_pairs_49 : decode cX12_pairs 49 = .ok (.iload 6, 2) := by decide +kernel
theorem dX12_pairs_51 : decode cX12_pairs 51 = .ok (.iadd, 1) := by decide +kernel
theorem dX12_pairs_52 : decode cX12_pairs 52 = .ok (.iload 4, 2) := by decide +kernel
theorem dX12_pairs_54 : decode cX12_pairs 54 = .ok (.iadd, 1) := by decide +kernel
theorem dX12_pairs_55 : decode cX12_pairs 55 = .ok (.aload_n 0, 1) := by decide +kernel
theorem dX12_pairs_56 : decode cX12_pairs 56 = .ok (.iload_n 1, 1) := by decide +kernel
theorem dX12_pairs_57 : decode cX12_pairs 57 = .ok (.iload_n 2, 1) := by decide +kernel
theorem dX12_pairs_58 : decode cX12_pairs 58 = .ok (.invokevirtual 330, 3) := by decide +kernel
theorem dX12_pairs_61 : decode cX12_pairs 61 = .ok (.isub, 1) := by decide +kernel
theorem dX12_pairs_62 : decode cX12_pairs 62 = .ok (.iload 5, 2) := by decide +kernel
theorem dX12_pairs_64 : decode cX12_pairs 64 = .ok (.isub, 1) := by decide +kernel
theorem dX12_pairs_65 : decode cX12_pairs 65 = .ok (.istore 7, 2) := by decide +kernel
theorem dX12_pairs_67 : decode cX12_pairs 67 = .ok (.aload_n 0, 1) := by decide +kernel
theorem dX12_pairs_68 : decode cX12_pairs 68 = .ok (.getfield 86, 3) := by decide +kernel
theorem dX12_pairs_71 : decode cX12_pairs 71 = .ok (.iload 7, 2) := by decide +kernel
theorem dX12_pairs_73 : decode cX12_pairs 73 = .ok (.invokestatic 336, 3) := by decide +kernel
theorem dX12_pairs_76 : decode cX12_pairs 76 = .ok (.dup2, 1) := by decide +kernel
theorem dX12_pairs_77 : decode cX12_pairs 77 = .ok (.iaload, 1) := by decide +kernel
theorem dX12_pairs_78 : decode cX12_pairs 78 = .ok (.aload_n 0, 1) := by decide +kernel
theorem dX12_pairs_79 : decode cX12_pairs 79 = .ok (.iload_n 1, 1) := by decide +kernel
theorem dX12_pairs_80 : decode cX12_pairs 80 = .ok (.iload 5, 2) := by decide +kernel
theorem dX12_pairs_82 : decode cX12_pairs 82 = .ok (.aload_n 0, 1) := by decide +kernel
theorem dX12_pairs_83 : decode cX12_pairs 83 = .ok (.iload_n 1, 1) := by decide +kernel
theorem dX12_pairs_84 : decode cX12_pairs 84 = .ok (.invokevirtual 443, 3) := by decide +kernel
theorem dX12_pairs_87 : decode cX12_pairs 87 = .ok (.invokevirtual 309, 3) := by decide +kernel
theorem dX12_pairs_90 : decode cX12_pairs 90 = .ok (.aload_n 0, 1) := by decide +kernel
theorem dX12_pairs_91 : decode cX12_pairs 91 = .ok (.iload_n 1, 1) := by decide +kernel
theorem dX12_pairs_92 : decode cX12_pairs 92 = .ok (.iload 6, 2) := by decide +kernel
theorem dX12_pairs_94 : decode cX12_pairs 94 = .ok (.aload_n 0, 1) := by decide +kernel
theorem dX12_pairs_95 : decode cX12_pairs 95 = .ok (.iload_n 1, 1) := by decide +kernel
theorem dX12_pairs_96 : decode cX12_pairs 96 = .ok (.invokevirtual 443, 3) := by decide +kernel
theorem dX12_pairs_99 : decode cX12_pairs 99 = .ok (.invokevirtual 309, 3) := by decide +kernel
theorem dX12_pairs_102 : decode cX12_pairs 102 = .ok (.imul, 1) := by decide +kernel
theorem dX12_pairs_103 : decode cX12_pairs 103 = .ok (.iadd, 1) := by decide +kernel
theorem dX12_pairs_104 : decode cX12_pairs 104 = .ok (.iastore, 1) := by decide +kernel
theorem dX12_pairs_105 : decode cX12_pairs 105 = .ok (.iinc 6 1, 3) := by decide +kernel
theorem dX12_pairs_108 : decode cX12_pairs 108 = .ok (.goto (-71), 3) := by decide +kernel
theorem dX12_pairs_111 : decode cX12_pairs 111 = .ok (.iinc 5 1, 3) := by decide +kernel
theorem dX12_pairs_114 : decode cX12_pairs 114 = .ok (.goto (-87), 3) := by decide +kernel
theorem dX12_pairs_117 : decode cX12_pairs 117 = .ok (.return_, 1) := by decide +kernel
theorem dX12_letsSecond_0 : decode cX12_letsSecond 0 = .ok (.aload_n 0, 1) := by decide +kernel
theorem dX12_letsSecond_1 : decode cX12_letsSecond 1 = .ok (.iload_n 2, 1) := by decide +kernel
theorem dX12_letsSecond_2 : decode cX12_letsSecond 2 = .ok (.aload_n 0, 1) := by decide +kernel
theorem dX12_letsSecond_3 : decode cX12_letsSecond 3 = .ok (.iload_n 2, 1) := by decide +kernel
theorem dX12_letsSecond_4 : decode cX12_letsSecond 4 = .ok (.invokevirtual 443, 3) := by decide +kernel
theorem dX12_letsSecond_7 : decode cX12_letsSecond 7 = .ok (.invokevirtual 324, 3) := by decide +kernel
theorem dX12_letsSecond_10 : decode cX12_letsSecond 10 = .ok (.istore 4, 2) := by decide +kernel
theorem dX12_letsSecond_12 : decode cX12_letsSecond 12 = .ok (.iconst 1, 1) := by decide +kernel
theorem dX12_letsSecond_13 : decode cX12_letsSecond 13 = .ok (.istore 5, 2) := by decide +kernel
theorem dX12_letsSecond_15 : decode cX12_letsSecond 15 = .ok (.iconst 0, 1) := by decide +kernel
theorem dX12_letsSecond_16 : decode cX12_letsSecond 16 = .ok (.istore 6, 2) := by decide +kernel
theorem dX12_letsSecond_18 : decode cX12_letsSecond 18 = .ok (.iload 6, 2) := by decide +kernel
theorem dX12_letsSecond_20 : decode cX12_letsSecond 20 = .ok (.aload_n 0, 1) := by decide +kernel
theorem dX12_letsSecond_21 : decode cX12_letsSecond 21 = .ok (.getfield 440, 3) := by decide +kernel
theorem dX12_letsSecond_24 : decode cX12_letsSecond 24 = .ok (.if_icmp .ge 231, 3) := by decide +kernel
theorem dX12_letsSecond_27 : decode cX12_letsSecond 27 = .ok (.iload 5, 2) := by decide +kernel
theorem dX12_letsSecond_29 : decode cX12_letsSecond 29 = .ok (.ifCond .eq 226, 3) := by decide +kernel
theorem dX12_letsSecond_32 : decode cX12_letsSecond 32 = .ok (.aload_n 0, 1) := by decide +kernel
theorem dX12_letsSecond_33 : decode cX12_letsSecond 33 = .ok (.getfield 71, 3) := by decide +kernel
theorem dX12_letsSecond_36 : decode cX12_letsSecond 36 = .ok (.iload 6, 2) := by decide +kernel
theorem dX12_letsSecond_38 : decode cX12_letsSecond 38 = .ok (.iaload, 1) := by decide +kernel
theorem dX12_letsSecond_39 : decode cX12_letsSecond 39 = .ok (.ifCond .eq 6, 3) := by decide +kernel
theorem dX12_letsSecond_42 : decode cX12_letsSecond 42 = .ok (.goto 207, 3) := by decide +kernel
theorem dX12_letsSecond_45 : decode cX12_letsSecond 45 = .ok (.aload_n 0, 1) := by decide +kernel
theorem dX12_letsSecond_46 : decode cX12_letsSecond 46 = .ok (.iload_n 2, 1) := by decide +kernel
theorem dX12_letsSecond_47 : decode cX12_letsSecond 47 = .ok (.aload_n 0, 1) := by decide +kernel
theorem dX12_letsSecond_48 : decode cX12_letsSecond 48 = .ok (.getfield 74, 3) := by decide +kernel
theorem dX12_letsSecond_51 : decode cX12_letsSecond 51 = .ok (.iload 6, 2) := by decide +kernel
theorem dX12_letsSecond_53 : decode cX12_letsSecond 53 = .ok (.iaload, 1) := by decide +kernel
theorem dX12_letsSecond_54 : decode cX12_letsSecond 54 = .ok (.aload_n 0, 1) := by decide +kernel
theorem dX12_letsSecond_55 : decode cX12_letsSecond 55 = .ok (.getfield 77, 3) := by decide +kernel
theorem dX12_letsSecond_58 : decode cX12_letsSecond 58 = .ok (.iload 6, 2) := by decide +kernel
theorem dX12_letsSecond_60 : decode cX12_letsSecond 60 = .ok (.iaload, 1) := by decide +kernel
theorem dX12_letsSecond_61 : decode cX12_letsSecond 61 = .ok (.iload_n 3, 1) := by decide +kernel
theorem dX12_letsSecond_62 : decode cX12_letsSecond 62 = .ok (.invokevirtual 446, 3) := by decide +kernel
theorem dX12_letsSecond_65 : decode cX12_letsSecond 65 = .ok (.aload_n 0, 1) := by decide +kernel
theorem dX12_letsSecond_66 : decode cX12_letsSecond 66 = .ok (.getfield 20, 3) := by decide +kernel
theorem dX12_letsSecond_69 : decode cX12_letsSecond 69 = .ok (.sipush 150, 3) := by decide +kernel
theorem dX12_letsSecond_72 : decode cX12_letsSecond 72 = .ok (.iload_n 1, 1) := by decide +kernel
theorem dX12_letsSecond_73 : decode cX12_letsSecond 73 = .ok (.iadd, 1) := by decide +kernel
theorem dX12_letsSecond_74 : decode cX12_letsSecond 74 = .ok (.iaload, 1) := by decide +kernel
theorem dX12_letsSecond_75 : decode cX12_letsSecond 75 = .ok (.iconst 1, 1) := by decide +kernel
theorem dX12_letsSecond_76 : decode cX12_letsSecond 76 = .ok (.if_icmp .ne 7, 3) := by decide +kernel
theorem dX12_letsSecond_79 : decode cX12_letsSecond 79 = .ok (.iconst 1, 1) := by decide +kernel
theorem dX12_letsSecond_80 : decode cX12_letsSecond 80 = .ok (.goto 4, 3) := by decide +kernel
theorem dX12_letsSecond_83 : decode cX12_letsSecond 83 = .ok (.iconst 0, 1) := by decide +kernel
theorem dX12_letsSecond_84 : decode cX12_letsSecond 84 = .ok (.istore 7, 2) := by decide +kernel
theorem dX12_letsSecond_86 : decode cX12_letsSecond 86 = .ok (.aload_n 0, 1) := by decide +kernel
theorem dX12_letsSecond_87 : decode cX12_letsSecond 87 = .ok (.getfield 86, 3) := by decide +kernel
theorem dX12_letsSecond_90 : decode cX12_letsSecond 90 = .ok (.iconst 0, 1) := by decide +kernel
theorem dX12_letsSecond_91 : decode cX12_letsSecond 91 = .ok (.iaload, 1) := by decide +kernel
theorem dX12_letsSecond_92 : decode cX12_letsSecond 92 = .ok (.istore 8, 2) := by decide +kernel
theorem dX12_letsSecond_94 : decode cX12_letsSecond 94 = .ok (.iload 7, 2) := by decide +kernel
theorem dX12_letsSecond_96 : decode cX12_letsSecond 96 = .ok (.ifCond .eq 19, 3) := by decide +kernel
theorem dX12_letsSecond_99 : decode cX12_letsSecond 99 = .ok (.aload_n 0, 1) := by decide +kernel
theorem dX12_letsSecond_100 : decode cX12_letsSecond 100 = .ok (.getfield 86, 3) := by decide +kernel
theorem dX12_letsSecond_103 : decode cX12_letsSecond 103 = .ok (.iconst 1, 1) := by decide +kernel
theorem dX12_letsSecond_104 : decode cX12_letsSecond 104 = .ok (.iaload, 1) := by decide +kernel
theorem dX12_letsSecond_105 : decode cX12_letsSecond 105 = .ok (.aload_n 0, 1) := by decide +kernel
theorem dX12_letsSecond_106 : decode cX12_letsSecond 106 = .ok (.getfield 86, 3) := by decide +kernel
theorem dX12_letsSecond_109 : decode cX12_letsSecond 109 = .ok (.iconst 2, 1) := by decide +kernel
theorem dX12_letsSecond_110 : decode cX12_letsSecond 110 = .ok (.iaload, 1) := by decide +kernel
theorem dX12_letsSecond_111 : decode cX12_letsSecond 111 = .ok (.iadd, 1) := by decide +kernel
theorem dX12_letsSecond_112 : decode cX12_letsSecond 112 = .ok (.goto 9, 3) := by decide +kernel
theorem dX12_letsSecond_115 : decode cX12_letsSecond 115 = .ok (.aload_n 0, 1) := by decide +kernel
theorem dX12_letsSecond_116 : decode cX12_letsSecond 116 = .ok (.getfield 86, 3) := by decide +kernel
theorem dX12_letsSecond_119 : decode cX12_letsSecond 119 = .ok (.iconst 1, 1) := by decide +kernel
theorem dX12_letsSecond_120 : decode cX12_letsSecond 120 = .ok (.iaload, 1) := by decide +kernel
theorem dX12_letsSecond_121 : decode cX12_letsSecond 121 = .ok (.istore 9, 2) := by decide +kernel
theorem dX12_letsSecond_123 : decode cX12_letsSecond 123 = .ok (.aload_n 0, 1) := by decide +kernel
theorem dX12_letsSecond_124 : decode cX12_letsSecond 124 = .ok (.getfield 86, 3) := by decide +kernel
theorem dX12_letsSecond_127 : decode cX12_letsSecond 127 = .ok (.iconst 2, 1) := by decide +kernel
theorem dX12_letsSecond_128 : decode cX12_letsSecond 128 = .ok (.iaload, 1) := by decide +kernel
theorem dX12_letsSecond_129 : decode cX12_letsSecond 129 = .ok (.istore 10, 2) := by decide +kernel
theorem dX12_letsSecond_131 : decode cX12_letsSecond 131 = .ok (.aload_n 0, 1) := by decide +kernel
theorem dX12_letsSecond_132 : decode cX12_letsSecond 132 = .ok (.aload_n 0, 1) := by decide +kernel
theorem dX12_letsSecond_133 : decode cX12_letsSecond 133 = .ok (.getfield 80, 3) := by decide +kernel
theorem dX12_letsSecond_136 : decode cX12_letsSecond 136 = .ok (.iload 6, 2) := by decide +kernel
theorem dX12_letsSecond_138 : decode cX12_letsSecond 138 = .ok (.iaload, 1) := by decide +kernel
theorem dX12_letsSecond_139 : decode cX12_letsSecond 139 = .ok (.iload 8, 2) := by decide +kernel
theorem dX12_letsSecond_141 : decode cX12_letsSecond 141 = .ok (.iload 4, 2) := by decide +kernel
theorem dX12_letsSecond_143 : decode cX12_letsSecond 143 = .ok (.iload 4, 2) := by decide +kernel
theorem dX12_letsSecond_145 : decode cX12_letsSecond 145 = .ok (.imul, 1) := by decide +kernel
theorem dX12_letsSecond_146 : decode cX12_letsSecond 146 = .ok (.aload_n 0, 1) := by decide +kernel
theorem dX12_letsSecond_147 : decode cX12_letsSecond 147 = .ok (.getfield 83, 3) := by decide +kernel
theorem dX12_letsSecond_150 : decode cX12_letsSecond 150 = .ok (.iconst 3, 1) := by decide +kernel
theorem dX12_letsSecond_151 : decode cX12_letsSecond 151 = .ok (.iload 6, 2) := by decide +kernel
theorem dX12_letsSecond_153 : decode cX12_letsSecond 153 = .ok (.imul, 1) := by decide +kernel
theorem dX12_letsSecond_154 : decode cX12_letsSecond 154 = .ok (.iaload, 1) := by decide +kernel
theorem dX12_letsSecond_155 : decode cX12_letsSecond 155 = .ok (.invokevirtual 432, 3) := by decide +kernel
theorem dX12_letsSecond_158 : decode cX12_letsSecond 158 = .ok (.ifCond .eq 39, 3) := by decide +kernel
theorem dX12_letsSecond_161 : decode cX12_letsSecond 161 = .ok (.aload_n 0, 1) := by decide +kernel
theorem dX12_letsSecond_162 : decode cX12_letsSecond 162 = .ok (.aload_n 0, 1) := by decide +kernel
theorem dX12_letsSecond_163 : decode cX12_letsSecond 163 = .ok (.getfield 80, 3) := by decide +kernel
theorem dX12_letsSecond_166 : decode cX12_letsSecond 166 = .ok (.iload 6, 2) := by decide +kernel
theorem dX12_letsSecond_168 : decode cX12_letsSecond 168 = .ok (.iaload, 1) := by decide +kernel
theorem dX12_letsSecond_169 : decode cX12_letsSecond 169 = .ok (.iload 9, 2) := by decide +kernel
theorem dX12_letsSecond_171 : decode cX12_letsSecond 171 = .ok (.iload 4, 2) := by decide +kernel
theorem dX12_letsSecond_173 : decode cX12_letsSecond 173 = .ok (.iload 4, 2) := by decide +kernel
theorem dX12_letsSecond_175 : decode cX12_letsSecond 175 = .ok (.imul, 1) := by decide +kernel
theorem dX12_letsSecond_176 : decode cX12_letsSecond 176 = .ok (.aload_n 0, 1) := by decide +kernel
theorem dX12_letsSecond_177 : decode cX12_letsSecond 177 = .ok (.getfield 83, 3) := by decide +kernel
theorem dX12_letsSecond_180 : decode cX12_letsSecond 180 = .ok (.iconst 3, 1) := by decide +kernel
theorem dX12_letsSecond_181 : decode cX12_letsSecond 181 = .ok (.iload 6, 2) := by decide +kernel
theorem dX12_letsSecond_183 : decode cX12_letsSecond 183 = .ok (.imul, 1) := by decide +kernel
theorem dX12_letsSecond_184 : decode cX12_letsSecond 184 = .ok (.iconst 1, 1) := by decide +kernel
theorem dX12_letsSecond_185 : decode cX12_letsSecond 185 = .ok (.iadd, 1) := by decide +kernel
theorem dX12_letsSecond_186 : decode cX12_letsSecond 186 = .ok (.iaload, 1) := by decide +kernel
theorem dX12_letsSecond_187 : decode cX12_letsSecond 187 = .ok (.invokevirtual 432, 3) := by decide +kernel
theorem dX12_letsSecond_190 : decode cX12_letsSecond 190 = .ok (.ifCond .eq 7, 3) := by decide +kernel
theorem dX12_letsSecond_193 : decode cX12_letsSecond 193 = .ok (.iconst 1, 1) := by decide +kernel
theorem dX12_letsSecond_194 : decode cX12_letsSecond 194 = .ok (.goto 4, 3) := by decide +kernel
theorem dX12_letsSecond_197 : decode cX12_letsSecond 197 = .ok (.iconst 0, 1) := by decide +kernel
theorem dX12_letsSecond_198 : decode cX12_letsSecond 198 = .ok (.istore 5, 2) := by decide +kernel
theorem dX12_letsSecond_200 : decode cX12_letsSecond 200 = .ok (.iload 5, 2) := by decide +kernel
theorem dX12_letsSecond_202 : decode cX12_letsSecond 202 = .ok (.ifCond .eq 44, 3) := by decide +kernel
theorem dX12_letsSecond_205 : decode cX12_letsSecond 205 = .ok (.iload 7, 2) := by decide +kernel
theorem dX12_letsSecond_207 : decode cX12_letsSecond 207 = .ok (.ifCond .ne 35, 3) := by decide +kernel
theorem dX12_letsSecond_210 : decode cX12_letsSecond 210 = .ok (.aload_n 0, 1) := by decide +kernel
theorem dX12_letsSecond_211 : decode cX12_letsSecond 211 = .ok (.aload_n 0, 1) := by decide +kernel
theorem dX12_letsSecond_212 : decode cX12_letsSecond 212 = .ok (.getfield 80, 3) := by decide +kernel
theorem dX12_letsSecond_215 : decode cX12_letsSecond 215 = .ok (.iload 6, 2) := by decide +kernel
theorem dX12_letsSecond_217 : decode cX12_letsSecond 217 = .ok (.iaload, 1) := by decide +kernel
theorem dX12_letsSecond_218 : decode cX12_letsSecond 218 = .ok (.iload 10, 2) := by decide +kernel
theorem dX12_letsSecond_220 : decode cX12_letsSecond 220 = .ok (.iload 4, 2) := by decide +kernel
theorem dX12_letsSecond_222 : decode cX12_letsSecond 222 = .ok (.iload 4, 2) := by decide +kernel
theorem dX12_letsSecond_224 : decode cX12_letsSecond 224 = .ok (.imul, 1) := by decide +kernel
theorem dX12_letsSecond_225 : decode cX12_letsSecond 225 = .ok (.aload_n 0, 1) := by decide +kernel
theorem dX12_letsSecond_226 : decode cX12_letsSecond 226 = .ok (.getfield 83, 3) := by decide +kernel
theorem dX12_letsSecond_229 : decode cX12_letsSecond 229 = .ok (.iconst 3, 1) := by decide +kernel
theorem dX12_letsSecond_230 : decode cX12_letsSecond 230 = .ok (.iload 6, 2) := by decide +kernel
theorem dX12_letsSecond_232 : decode cX12_letsSecond 232 = .ok (.imul, 1) := by decide +kernel
theorem dX12_letsSecond_233 : decode cX12_letsSecond 233 = .ok (.iconst 2, 1) := by decide +kernel
theorem dX12_letsSecond_234 : decode cX12_letsSecond 234 = .ok (.iadd, 1) := by decide +kernel
theorem dX12_letsSecond_235 : decode cX12_letsSecond 235 = .ok (.iaload, 1) := by decide +kernel
theorem dX12_letsSecond_236 : decode cX12_letsSecond 236 = .ok (.invokevirtual 432, 3) := by decide +kernel
theorem dX12_letsSecond_239 : decode cX12_letsSecond 239 = .ok (.ifCond .eq 7, 3) := by decide +kernel
theorem dX12_letsSecond_242 : decode cX12_letsSecond 242 = .ok (.iconst 1, 1) := by decide +kernel
theorem dX12_letsSecond_243 : decode cX12_letsSecond 243 = .ok (.goto 4, 3) := by decide +kernel
theorem dX12_letsSecond_246 : decode cX12_letsSecond 246 = .ok (.iconst 0, 1) := by decide +kernel
theorem dX12_letsSecond_247 : decode cX12_letsSecond 247 = .ok (.istore 5, 2) := by decide +kernel
theorem dX12_letsSecond_249 : decode cX12_letsSecond 249 = .ok (.iinc 6 1, 3) := by decide +kernel
theorem dX12_letsSecond_252 : decode cX12_letsSecond 252 = .ok (.goto (-234), 3) := by decide +kernel
theorem dX12_letsSecond_255 : decode cX12_letsSecond 255 = .ok (.iload 5, 2) := by decide +kernel
theorem dX12_letsSecond_257 : decode cX12_letsSecond 257 = .ok (.ireturn, 1) := by decide +kernel
theorem dX12_lets_0 : decode cX12_lets 0 = .ok (.aload_n 0, 1) := by decide +kernel
theorem dX12_lets_1 : decode cX12_lets 1 = .ok (.invokevirtual 211, 3) := by decide +kernel
theorem dX12_lets_4 : decode cX12_lets 4 = .ok (.aload_n 0, 1) := by decide +kernel
theorem dX12_lets_5 : decode cX12_lets 5 = .ok (.iload_n 1, 1) := by decide +kernel
theorem dX12_lets_6 : decode cX12_lets 6 = .ok (.invokevirtual 315, 3) := by decide +kernel
theorem dX12_lets_9 : decode cX12_lets 9 = .ok (.ifCond .eq 11, 3) := by decide +kernel
theorem dX12_lets_12 : decode cX12_lets 12 = .ok (.aload_n 0, 1) := by decide +kernel
theorem dX12_lets_13 : decode cX12_lets 13 = .ok (.iload_n 2, 1) := by decide +kernel
theorem dX12_lets_14 : decode cX12_lets 14 = .ok (.invokevirtual 306, 3) := by decide +kernel
theorem dX12_lets_17 : decode cX12_lets 17 = .ok (.ifCond .ne 9, 3) := by decide +kernel
theorem dX12_lets_20 : decode cX12_lets 20 = .ok (.aload_n 0, 1) := by decide +kernel
theorem dX12_lets_21 : decode cX12_lets 21 = .ok (.iconst 1, 1) := by decide +kernel
theorem dX12_lets_22 : decode cX12_lets 22 = .ok (.invokevirtual 214, 3) := by decide +kernel
theorem dX12_lets_25 : decode cX12_lets 25 = .ok (.ireturn, 1) := by decide +kernel
theorem dX12_lets_26 : decode cX12_lets 26 = .ok (.iload_n 3, 1) := by decide +kernel
theorem dX12_lets_27 : decode cX12_lets 27 = .ok (.bipush (-50), 2) := by decide +kernel
theorem dX12_lets_29 : decode cX12_lets 29 = .ok (.bipush 50, 2) := by decide +kernel
theorem dX12_lets_31 : decode cX12_lets 31 = .ok (.invokestatic 203, 3) := by decide +kernel
theorem dX12_lets_34 : decode cX12_lets 34 = .ok (.ifCond .eq 15, 3) := by decide +kernel
theorem dX12_lets_37 : decode cX12_lets 37 = .ok (.iload 4, 2) := by decide +kernel
theorem dX12_lets_39 : decode cX12_lets 39 = .ok (.bipush (-50), 2) := by decide +kernel
theorem dX12_lets_41 : decode cX12_lets 41 = .ok (.bipush 50, 2) := by decide +kernel
theorem dX12_lets_43 : decode cX12_lets 43 = .ok (.invokestatic 203, 3) := by decide +kernel
theorem dX12_lets_46 : decode cX12_lets 46 = .ok (.ifCond .ne 9, 3) := by decide +kernel
theorem dX12_lets_49 : decode cX12_lets 49 = .ok (.aload_n 0, 1) := by decide +kernel
theorem dX12_lets_50 : decode cX12_lets 50 = .ok (.iconst 2, 1) := by decide +kernel
theorem dX12_lets_51 : decode cX12_lets 51 = .ok (.invokevirtual 214, 3) := by decide +kernel
theorem dX12_lets_54 : decode cX12_lets 54 = .ok (.ireturn, 1) := by decide +kernel
theorem dX12_lets_55 : decode cX12_lets 55 = .ok (.aload_n 0, 1) := by decide +kernel
theorem dX12_lets_56 : decode cX12_lets 56 = .ok (.iload_n 1, 1) := by decide +kernel
theorem dX12_lets_57 : decode cX12_lets 57 = .ok (.invokevirtual 450, 3) := by decide +kernel
theorem dX12_lets_60 : decode cX12_lets 60 = .ok (.ifCond .ne 9, 3) := by decide +kernel
theorem dX12_lets_63 : decode cX12_lets 63 = .ok (.aload_n 0, 1) := by decide +kernel
theorem dX12_lets_64 : decode cX12_lets 64 = .ok (.iconst 3, 1) := by decide +kernel
theorem dX12_lets_65 : decode cX12_lets 65 = .ok (.invokevirtual 214, 3) := by decide +kernel
theorem dX12_lets_68 : decode cX12_lets 68 = .ok (.ireturn, 1) := by decide +kernel
theorem dX12_lets_69 : decode cX12_lets 69 = .ok (.aload_n 0, 1) := by decide +kernel
theorem dX12_lets_70 : decode cX12_lets 70 = .ok (.iload_n 2, 1) := by decide +kernel
theorem dX12_lets_71 : decode cX12_lets 71 = .ok (.iload_n 3, 1) := by decide +kernel
theorem dX12_lets_72 : decode cX12_lets 72 = .ok (.invokevirtual 453, 3) := by decide +kernel
theorem dX12_lets_75 : decode cX12_lets 75 = .ok (.ifCond .eq 18, 3) := by decide +kernel
theorem dX12_lets_78 : decode cX12_lets 78 = .ok (.aload_n 0, 1) := by decide +kernel
theorem dX12_lets_79 : decode cX12_lets 79 = .ok (.iload_n 1, 1) := by decide +kernel
theorem dX12_lets_80 : decode cX12_lets 80 = .ok (.iload_n 2, 1) := by decide +kernel
theorem dX12_lets_81 : decode cX12_lets 81 = .ok (.iload 4, 2) := by decide +kernel
