theorem d_md_isAttacked_3 : decode b_md_isAttacked 3 = .ok (.irem, 1) := by decide +kernel
theorem d_md_isAttacked_4 : decode b_md_isAttacked 4 = .ok (.istore_n 3, 1) := by decide +kernel
theorem d_md_isAttacked_5 : decode b_md_isAttacked 5 = .ok (.iload_n 1, 1) := by decide +kernel
theorem d_md_isAttacked_6 : decode b_md_isAttacked 6 = .ok (.bipush 8, 2) := by decide +kernel
theorem d_md_isAttacked_8 : decode b_md_isAttacked 8 = .ok (.idiv, 1) := by decide +kernel
theorem d_md_isAttacked_9 : decode b_md_isAttacked 9 = .ok (.istore 4, 2) := by decide +kernel
theorem d_md_isAttacked_11 : decode b_md_isAttacked 11 = .ok (.iconst 0, 1) := by decide +kernel
theorem d_md_isAttacked_12 : decode b_md_isAttacked 12 = .ok (.istore 5, 2) := by decide +kernel
theorem d_md_isAttacked_14 : decode b_md_isAttacked 14 = .ok (.iload 5, 2) := by decide +kernel
theorem d_md_isAttacked_16 : decode b_md_isAttacked 16 = .ok (.bipush 64, 2) := by decide +kernel
theorem d_md_isAttacked_18 : decode b_md_isAttacked 18 = .ok (.if_icmp .ge 294, 3) := by decide +kernel
theorem d_md_isAttacked_21 : decode b_md_isAttacked 21 = .ok (.aload_n 0, 1) := by decide +kernel
theorem d_md_isAttacked_22 : decode b_md_isAttacked 22 = .ok (.iload 5, 2) := by decide +kernel
theorem d_md_isAttacked_24 : decode b_md_isAttacked 24 = .ok (.iaload, 1) := by decide +kernel
theorem d_md_isAttacked_25 : decode b_md_isAttacked 25 = .ok (.istore 6, 2) := by decide +kernel
theorem d_md_isAttacked_27 : decode b_md_isAttacked 27 = .ok (.iload 6, 2) := by decide +kernel
theorem d_md_isAttacked_29 : decode b_md_isAttacked 29 = .ok (.bipush 6, 2) := by decide +kernel
theorem d_md_isAttacked_31 : decode b_md_isAttacked 31 = .ok (.if_icmp .le 11, 3) := by decide +kernel
theorem d_md_isAttacked_34 : decode b_md_isAttacked 34 = .ok (.iload 6, 2) := by decide +kernel
theorem d_md_isAttacked_36 : decode b_md_isAttacked 36 = .ok (.bipush 6, 2) := by decide +kernel
theorem d_md_isAttacked_38 : decode b_md_isAttacked 38 = .ok (.isub, 1) := by decide +kernel
theorem d_md_isAttacked_39 : decode b_md_isAttacked 39 = .ok (.goto 5, 3) := by decide +kernel
theorem d_md_isAttacked_42 : decode b_md_isAttacked 42 = .ok (.iload 6, 2) := by decide +kernel
theorem d_md_isAttacked_44 : decode b_md_isAttacked 44 = .ok (.istore 7, 2) := by decide +kernel
theorem d_md_isAttacked_46 : decode b_md_isAttacked 46 = .ok (.iload_n 3, 1) := by decide +kernel
theorem d_md_isAttacked_47 : decode b_md_isAttacked 47 = .ok (.iload 5, 2) := by decide +kernel
theorem d_md_isAttacked_49 : decode b_md_isAttacked 49 = .ok (.bipush 8, 2) := by decide +kernel
theorem d_md_isAttacked_51 : decode b_md_isAttacked 51 = .ok (.irem, 1) := by decide +kernel
theorem d_md_isAttacked_52 : decode b_md_isAttacked 52 = .ok (.isub, 1) := by decide +kernel
theorem d_md_isAttacked_53 : decode b_md_isAttacked 53 = .ok (.istore 8, 2) := by decide +kernel
theorem d_md_isAttacked_55 : decode b_md_isAttacked 55 = .ok (.iload 4, 2) := by decide +kernel
theorem d_md_isAttacked_57 : decode b_md_isAttacked 57 = .ok (.iload 5, 2) := by decide +kernel
theorem d_md_isAttacked_59 : decode b_md_isAttacked 59 = .ok (.bipush 8, 2) := by decide +kernel
theorem d_md_isAttacked_61 : decode b_md_isAttacked 61 = .ok (.idiv, 1) := by decide +kernel
theorem d_md_isAttacked_62 : decode b_md_isAttacked 62 = .ok (.isub, 1) := by decide +kernel
theorem d_md_isAttacked_63 : decode b_md_isAttacked 63 = .ok (.istore 9, 2) := by decide +kernel
theorem d_md_isAttacked_65 : decode b_md_isAttacked 65 = .ok (.iload 8, 2) := by decide +kernel
theorem d_md_isAttacked_67 : decode b_md_isAttacked 67 = .ok (.ifCond .ge 9, 3) := by decide +kernel
theorem d_md_isAttacked_70 : decode b_md_isAttacked 70 = .ok (.iload 8, 2) := by decide +kernel
theorem d_md_isAttacked_72 : decode b_md_isAttacked 72 = .ok (.ineg, 1) := by decide +kernel
theorem d_md_isAttacked_73 : decode b_md_isAttacked 73 = .ok (.goto 5, 3) := by decide +kernel
theorem d_md_isAttacked_76 : decode b_md_isAttacked 76 = .ok (.iload 8, 2) := by decide +kernel
theorem d_md_isAttacked_78 : decode b_md_isAttacked 78 = .ok (.istore 10, 2) := by decide +kernel
theorem d_md_isAttacked_80 : decode b_md_isAttacked 80 = .ok (.iload 9, 2) := by decide +kernel
theorem d_md_isAttacked_82 : decode b_md_isAttacked 82 = .ok (.ifCond .ge 9, 3) := by decide +kernel
theorem d_md_isAttacked_85 : decode b_md_isAttacked 85 = .ok (.iload 9, 2) := by decide +kernel
theorem d_md_isAttacked_87 : decode b_md_isAttacked 87 = .ok (.ineg, 1) := by decide +kernel
theorem d_md_isAttacked_88 : decode b_md_isAttacked 88 = .ok (.goto 5, 3) := by decide +kernel
theorem d_md_isAttacked_91 : decode b_md_isAttacked 91 = .ok (.iload 9, 2) := by decide +kernel
theorem d_md_isAttacked_93 : decode b_md_isAttacked 93 = .ok (.istore 11, 2) := by decide +kernel
theorem d_md_isAttacked_95 : decode b_md_isAttacked 95 = .ok (.iload 6, 2) := by decide +kernel
theorem d_md_isAttacked_97 : decode b_md_isAttacked 97 = .ok (.ifCond .le 209, 3) := by decide +kernel
theorem d_md_isAttacked_100 : decode b_md_isAttacked 100 = .ok (.iload 6, 2) := by decide +kernel
theorem d_md_isAttacked_102 : decode b_md_isAttacked 102 = .ok (.bipush 6, 2) := by decide +kernel
theorem d_md_isAttacked_104 : decode b_md_isAttacked 104 = .ok (.if_icmp .le 7, 3) := by decide +kernel
theorem d_md_isAttacked_107 : decode b_md_isAttacked 107 = .ok (.iconst 1, 1) := by decide +kernel
theorem d_md_isAttacked_108 : decode b_md_isAttacked 108 = .ok (.goto 4, 3) := by decide +kernel
theorem d_md_isAttacked_111 : decode b_md_isAttacked 111 = .ok (.iconst 0, 1) := by decide +kernel
theorem d_md_isAttacked_112 : decode b_md_isAttacked 112 = .ok (.iload_n 2, 1) := by decide +kernel
theorem d_md_isAttacked_113 : decode b_md_isAttacked 113 = .ok (.iconst 1, 1) := by decide +kernel
theorem d_md_isAttacked_114 : decode b_md_isAttacked 114 = .ok (.if_icmp .ne 7, 3) := by decide +kernel
theorem d_md_isAttacked_117 : decode b_md_isAttacked 117 = .ok (.iconst 1, 1) := by decide +kernel
theorem d_md_isAttacked_118 : decode b_md_isAttacked 118 = .ok (.goto 4, 3) := by decide +kernel
theorem d_md_isAttacked_121 : decode b_md_isAttacked 121 = .ok (.iconst 0, 1) := by decide +kernel
theorem d_md_isAttacked_122 : decode b_md_isAttacked 122 = .ok (.if_icmp .ne 184, 3) := by decide +kernel
theorem d_md_isAttacked_125 : decode b_md_isAttacked 125 = .ok (.iload 5, 2) := by decide +kernel
theorem d_md_isAttacked_127 : decode b_md_isAttacked 127 = .ok (.iload_n 1, 1) := by decide +kernel
theorem d_md_isAttacked_128 : decode b_md_isAttacked 128 = .ok (.if_icmp .eq 178, 3) := by decide +kernel
theorem d_md_isAttacked_131 : decode b_md_isAttacked 131 = .ok (.iload 7, 2) := by decide +kernel
theorem d_md_isAttacked_133 : decode b_md_isAttacked 133 = .ok (.iconst 1, 1) := by decide +kernel
theorem d_md_isAttacked_134 : decode b_md_isAttacked 134 = .ok (.if_icmp .ne 31, 3) := by decide +kernel
theorem d_md_isAttacked_137 : decode b_md_isAttacked 137 = .ok (.iload 10, 2) := by decide +kernel
theorem d_md_isAttacked_139 : decode b_md_isAttacked 139 = .ok (.iconst 1, 1) := by decide +kernel
theorem d_md_isAttacked_140 : decode b_md_isAttacked 140 = .ok (.if_icmp .ne 21, 3) := by decide +kernel
theorem d_md_isAttacked_143 : decode b_md_isAttacked 143 = .ok (.iload 9, 2) := by decide +kernel
theorem d_md_isAttacked_145 : decode b_md_isAttacked 145 = .ok (.iload_n 2, 1) := by decide +kernel
theorem d_md_isAttacked_146 : decode b_md_isAttacked 146 = .ok (.ifCond .ne 7, 3) := by decide +kernel
theorem d_md_isAttacked_149 : decode b_md_isAttacked 149 = .ok (.iconst 1, 1) := by decide +kernel
theorem d_md_isAttacked_150 : decode b_md_isAttacked 150 = .ok (.goto 4, 3) := by decide +kernel
theorem d_md_isAttacked_153 : decode b_md_isAttacked 153 = .ok (.iconst (-1), 1) := by decide +kernel
theorem d_md_isAttacked_154 : decode b_md_isAttacked 154 = .ok (.if_icmp .ne 7, 3) := by decide +kernel
theorem d_md_isAttacked_157 : decode b_md_isAttacked 157 = .ok (.iconst 1, 1) := by decide +kernel
theorem d_md_isAttacked_158 : decode b_md_isAttacked 158 = .ok (.goto 64, 3) := by decide +kernel
theorem d_md_isAttacked_161 : decode b_md_isAttacked 161 = .ok (.iconst 0, 1) := by decide +kernel
theorem d_md_isAttacked_162 : decode b_md_isAttacked 162 = .ok (.goto 60, 3) := by decide +kernel
theorem d_md_isAttacked_165 : decode b_md_isAttacked 165 = .ok (.iload 7, 2) := by decide +kernel
theorem d_md_isAttacked_167 : decode b_md_isAttacked 167 = .ok (.iconst 2, 1) := by decide +kernel
theorem d_md_isAttacked_168 : decode b_md_isAttacked 168 = .ok (.if_icmp .ne 30, 3) := by decide +kernel
theorem d_md_isAttacked_171 : decode b_md_isAttacked 171 = .ok (.iload 10, 2) := by decide +kernel
theorem d_md_isAttacked_173 : decode b_md_isAttacked 173 = .ok (.iload 11, 2) := by decide +kernel
theorem d_md_isAttacked_175 : decode b_md_isAttacked 175 = .ok (.iadd, 1) := by decide +kernel
theorem d_md_isAttacked_176 : decode b_md_isAttacked 176 = .ok (.iconst 3, 1) := by decide +kernel
theorem d_md_isAttacked_177 : decode b_md_isAttacked 177 = .ok (.if_icmp .ne 17, 3) := by decide +kernel
theorem d_md_isAttacked_180 : decode b_md_isAttacked 180 = .ok (.iload 10, 2) := by decide +kernel
theorem d_md_isAttacked_182 : decode b_md_isAttacked 182 = .ok (.ifCond .le 12, 3) := by decide +kernel
theorem d_md_isAttacked_185 : decode b_md_isAttacked 185 = .ok (.iload 11, 2) := by decide +kernel
theorem d_md_isAttacked_187 : decode b_md_isAttacked 187 = .ok (.ifCond .le 7, 3) := by decide +kernel
theorem d_md_isAttacked_190 : decode b_md_isAttacked 190 = .ok (.iconst 1, 1) := by decide +kernel
theorem d_md_isAttacked_191 : decode b_md_isAttacked 191 = .ok (.goto 31, 3) := by decide +kernel
theorem d_md_isAttacked_194 : decode b_md_isAttacked 194 = .ok (.iconst 0, 1) := by decide +kernel
theorem d_md_isAttacked_195 : decode b_md_isAttacked 195 = .ok (.goto 27, 3) := by decide +kernel
theorem d_md_isAttacked_198 : decode b_md_isAttacked 198 = .ok (.iload 7, 2) := by decide +kernel
theorem d_md_isAttacked_200 : decode b_md_isAttacked 200 = .ok (.bipush 6, 2) := by decide +kernel
theorem d_md_isAttacked_202 : decode b_md_isAttacked 202 = .ok (.if_icmp .ne 19, 3) := by decide +kernel
theorem d_md_isAttacked_205 : decode b_md_isAttacked 205 = .ok (.iload 10, 2) := by decide +kernel
theorem d_md_isAttacked_207 : decode b_md_isAttacked 207 = .ok (.iconst 2, 1) := by decide +kernel
theorem d_md_isAttacked_208 : decode b_md_isAttacked 208 = .ok (.if_icmp .ge 13, 3) := by decide +kernel
theorem d_md_isAttacked_211 : decode b_md_isAttacked 211 = .ok (.iload 11, 2) := by decide +kernel
theorem d_md_isAttacked_213 : decode b_md_isAttacked 213 = .ok (.iconst 2, 1) := by decide +kernel
theorem d_md_isAttacked_214 : decode b_md_isAttacked 214 = .ok (.if_icmp .ge 7, 3) := by decide +kernel
theorem d_md_isAttacked_217 : decode b_md_isAttacked 217 = .ok (.iconst 1, 1) := by decide +kernel
theorem d_md_isAttacked_218 : decode b_md_isAttacked 218 = .ok (.goto 4, 3) := by decide +kernel
theorem d_md_isAttacked_221 : decode b_md_isAttacked 221 = .ok (.iconst 0, 1) := by decide +kernel
theorem d_md_isAttacked_222 : decode b_md_isAttacked 222 = .ok (.istore 12, 2) := by decide +kernel
theorem d_md_isAttacked_224 : decode b_md_isAttacked 224 = .ok (.iload 10, 2) := by decide +kernel
theorem d_md_isAttacked_226 : decode b_md_isAttacked 226 = .ok (.iload 11, 2) := by decide +kernel
theorem d_md_isAttacked_228 : decode b_md_isAttacked 228 = .ok (.if_icmp .ne 19, 3) := by decide +kernel
theorem d_md_isAttacked_231 : decode b_md_isAttacked 231 = .ok (.iload 7, 2) := by decide +kernel
theorem d_md_isAttacked_233 : decode b_md_isAttacked 233 = .ok (.iconst 3, 1) := by decide +kernel
theorem d_md_isAttacked_234 : decode b_md_isAttacked 234 = .ok (.if_icmp .eq 9, 3) := by decide +kernel
theorem d_md_isAttacked_237 : decode b_md_isAttacked 237 = .ok (.iload 7, 2) := by decide +kernel
theorem d_md_isAttacked_239 : decode b_md_isAttacked 239 = .ok (.iconst 5, 1) := by decide +kernel
theorem d_md_isAttacked_240 : decode b_md_isAttacked 240 = .ok (.if_icmp .ne 7, 3) := by decide +kernel
theorem d_md_isAttacked_243 : decode b_md_isAttacked 243 = .ok (.iconst 1, 1) := by decide +kernel
theorem d_md_isAttacked_244 : decode b_md_isAttacked 244 = .ok (.goto 4, 3) := by decide +kernel
theorem d_md_isAttacked_247 : decode b_md_isAttacked 247 = .ok (.iconst 0, 1) := by decide +kernel
theorem d_md_isAttacked_248 : decode b_md_isAttacked 248 = .ok (.istore 13, 2) := by decide +kernel
theorem d_md_isAttacked_250 : decode b_md_isAttacked 250 = .ok (.iload 10, 2) := by decide +kernel
theorem d_md_isAttacked_252 : decode b_md_isAttacked 252 = .ok (.ifCond .eq 8, 3) := by decide +kernel
theorem d_md_isAttacked_255 : decode b_md_isAttacked 255 = .ok (.iload 11, 2) := by decide +kernel
theorem d_md_isAttacked_257 : decode b_md_isAttacked 257 = .ok (.ifCond .ne 19, 3) := by decide +kernel
theorem d_md_isAttacked_260 : decode b_md_isAttacked 260 = .ok (.iload 7, 2) := by decide +kernel
theorem d_md_isAttacked_262 : decode b_md_isAttacked 262 = .ok (.iconst 4, 1) := by decide +kernel
theorem d_md_isAttacked_263 : decode b_md_isAttacked 263 = .ok (.if_icmp .eq 9, 3) := by decide +kernel
theorem d_md_isAttacked_266 : decode b_md_isAttacked 266 = .ok (.iload 7, 2) := by decide +kernel
theorem d_md_isAttacked_268 : decode b_md_isAttacked 268 = .ok (.iconst 5, 1) := by decide +kernel
theorem d_md_isAttacked_269 : decode b_md_isAttacked 269 = .ok (.if_icmp .ne 7, 3) := by decide +kernel
theorem d_md_isAttacked_272 : decode b_md_isAttacked 272 = .ok (.iconst 1, 1) := by decide +kernel
theorem d_md_isAttacked_273 : decode b_md_isAttacked 273 = .ok (.goto 4, 3) := by decide +kernel
theorem d_md_isAttacked_276 : decode b_md_isAttacked 276 = .ok (.iconst 0, 1) := by decide +kernel
theorem d_md_isAttacked_277 : decode b_md_isAttacked 277 = .ok (.istore 14, 2) := by decide +kernel
theorem d_md_isAttacked_279 : decode b_md_isAttacked 279 = .ok (.iload 12, 2) := by decide +kernel
theorem d_md_isAttacked_281 : decode b_md_isAttacked 281 = .ok (.ifCond .ne 23, 3) := by decide +kernel
theorem d_md_isAttacked_284 : decode b_md_isAttacked 284 = .ok (.iload 13, 2) := by decide +kernel
theorem d_md_isAttacked_286 : decode b_md_isAttacked 286 = .ok (.ifCond .ne 8, 3) := by decide +kernel
theorem d_md_isAttacked_289 : decode b_md_isAttacked 289 = .ok (.iload 14, 2) := by decide +kernel
theorem d_md_isAttacked_291 : decode b_md_isAttacked 291 = .ok (.ifCond .eq 15, 3) := by decide +kernel
theorem d_md_isAttacked_294 : decode b_md_isAttacked 294 = .ok (.aload_n 0, 1) := by decide +kernel
theorem d_md_isAttacked_295 : decode b_md_isAttacked 295 = .ok (.iload 5, 2) := by decide +kernel
theorem d_md_isAttacked_297 : decode b_md_isAttacked 297 = .ok (.iload_n 1, 1) := by decide +kernel
theorem d_md_isAttacked_298 : decode b_md_isAttacked 298 = .ok (.invokestatic 102, 3) := by decide +kernel
theorem d_md_isAttacked_301 : decode b_md_isAttacked 301 = .ok (.ifCond .eq 5, 3) := by decide +kernel
theorem d_md_isAttacked_304 : decode b_md_isAttacked 304 = .ok (.iconst 1, 1) := by decide +kernel
theorem d_md_isAttacked_305 : decode b_md_isAttacked 305 = .ok (.ireturn, 1) := by decide +kernel
theorem d_md_isAttacked_306 : decode b_md_isAttacked 306 = .ok (.iinc 5 1, 3) := by decide +kernel
theorem d_md_isAttacked_309 : decode b_md_isAttacked 309 = .ok (.goto (-295), 3) := by decide +kernel
theorem d_md_isAttacked_312 : decode b_md_isAttacked 312 = .ok (.iconst 0, 1) := by decide +kernel
theorem d_md_isAttacked_313 : decode b_md_isAttacked 313 = .ok (.ireturn, 1) := by decide +kernel
theorem d_md_isOpen_0 : decode b_md_isOpen 0 = .ok (.iload_n 2, 1) := by decide +kernel
theorem d_md_isOpen_1 : decode b_md_isOpen 1 = .ok (.bipush 8, 2) := by decide +kernel
theorem d_md_isOpen_3 : decode b_md_isOpen 3 = .ok (.irem, 1) := by decide +kernel
theorem d_md_isOpen_4 : decode b_md_isOpen 4 = .ok (.iload_n 1, 1) := by decide +kernel
theorem d_md_isOpen_5 : decode b_md_isOpen 5 = .ok (.bipush 8, 2) := by decide +kernel
theorem d_md_isOpen_7 : decode b_md_isOpen 7 = .ok (.irem, 1) := by decide +kernel
theorem d_md_isOpen_8 : decode b_md_isOpen 8 = .ok (.if_icmp .le 7, 3) := by decide +kernel
theorem d_md_isOpen_11 : decode b_md_isOpen 11 = .ok (.iconst 1, 1) := by decide +kernel
theorem d_md_isOpen_12 : decode b_md_isOpen 12 = .ok (.goto 19, 3) := by decide +kernel
theorem d_md_isOpen_15 : decode b_md_isOpen 15 = .ok (.iload_n 2, 1) := by decide +kernel
theorem d_md_isOpen_16 : decode b_md_isOpen 16 = .ok (.bipush 8, 2) := by decide +kernel
theorem d_md_isOpen_18 : decode b_md_isOpen 18 = .ok (.irem, 1) := by decide +kernel
theorem d_md_isOpen_19 : decode b_md_isOpen 19 = .ok (.iload_n 1, 1) := by decide +kernel
theorem d_md_isOpen_20 : decode b_md_isOpen 20 = .ok (.bipush 8, 2) := by decide +kernel
theorem d_md_isOpen_22 : decode b_md_isOpen 22 = .ok (.irem, 1) := by decide +kernel
theorem d_md_isOpen_23 : decode b_md_isOpen 23 = .ok (.if_icmp .ge 7, 3) := by decide +kernel
theorem d_md_isOpen_26 : decode b_md_isOpen 26 = .ok (.iconst (-1), 1) := by decide +kernel
theorem d_md_isOpen_27 : decode b_md_isOpen 27 = .ok (.goto 4, 3) := by decide +kernel
theorem d_md_isOpen_30 : decode b_md_isOpen 30 = .ok (.iconst 0, 1) := by decide +kernel
theorem d_md_isOpen_31 : decode b_md_isOpen 31 = .ok (.istore_n 3, 1) := by decide +kernel
theorem d_md_isOpen_32 : decode b_md_isOpen 32 = .ok (.iload_n 2, 1) := by decide +kernel
theorem d_md_isOpen_33 : decode b_md_isOpen 33 = .ok (.bipush 8, 2) := by decide +kernel
theorem d_md_isOpen_35 : decode b_md_isOpen 35 = .ok (.idiv, 1) := by decide +kernel
theorem d_md_isOpen_36 : decode b_md_isOpen 36 = .ok (.iload_n 1, 1) := by decide +kernel
theorem d_md_isOpen_37 : decode b_md_isOpen 37 = .ok (.bipush 8, 2) := by decide +kernel
theorem d_md_isOpen_39 : decode b_md_isOpen 39 = .ok (.idiv, 1) := by decide +kernel
theorem d_md_isOpen_40 : decode b_md_isOpen 40 = .ok (.if_icmp .le 7, 3) := by decide +kernel
theorem d_md_isOpen_43 : decode b_md_isOpen 43 = .ok (.iconst 1, 1) := by decide +kernel
theorem d_md_isOpen_44 : decode b_md_isOpen 44 = .ok (.goto 19, 3) := by decide +kernel
theorem d_md_isOpen_47 : decode b_md_isOpen 47 = .ok (.iload_n 2, 1) := by decide +kernel
theorem d_md_isOpen_48 : decode b_md_isOpen 48 = .ok (.bipush 8, 2) := by decide +kernel
theorem d_md_isOpen_50 : decode b_md_isOpen 50 = .ok (.idiv, 1) := by decide +kernel
theorem d_md_isOpen_51 : decode b_md_isOpen 51 = .ok (.iload_n 1, 1) := by decide +kernel
theorem d_md_isOpen_52 : decode b_md_isOpen 52 = .ok (.bipush 8, 2) := by decide +kernel
theorem d_md_isOpen_54 : decode b_md_isOpen 54 = .ok (.idiv, 1) := by decide +kernel
theorem d_md_isOpen_55 : decode b_md_isOpen 55 = .ok (.if_icmp .ge 7, 3) := by decide +kernel
theorem d_md_isOpen_58 : decode b_md_isOpen 58 = .ok (.iconst (-1), 1) := by decide +kernel
theorem d_md_isOpen_59 : decode b_md_isOpen 59 = .ok (.goto 4, 3) := by decide +kernel
theorem d_md_isOpen_62 : decode b_md_isOpen 62 = .ok (.iconst 0, 1) := by decide +kernel
theorem d_md_isOpen_63 : decode b_md_isOpen 63 = .ok (.istore 4, 2) := by decide +kernel
theorem d_md_isOpen_65 : decode b_md_isOpen 65 = .ok (.iconst 1, 1) := by decide +kernel
theorem d_md_isOpen_66 : decode b_md_isOpen 66 = .ok (.istore 5, 2) := by decide +kernel
theorem d_md_isOpen_68 : decode b_md_isOpen 68 = .ok (.iload_n 1, 1) := by decide +kernel
theorem d_md_isOpen_69 : decode b_md_isOpen 69 = .ok (.iload_n 3, 1) := by decide +kernel
theorem d_md_isOpen_70 : decode b_md_isOpen 70 = .ok (.iadd, 1) := by decide +kernel
theorem d_md_isOpen_71 : decode b_md_isOpen 71 = .ok (.bipush 8, 2) := by decide +kernel
theorem d_md_isOpen_73 : decode b_md_isOpen 73 = .ok (.iload 4, 2) := by decide +kernel
theorem d_md_isOpen_75 : decode b_md_isOpen 75 = .ok (.imul, 1) := by decide +kernel
theorem d_md_isOpen_76 : decode b_md_isOpen 76 = .ok (.iadd, 1) := by decide +kernel
theorem d_md_isOpen_77 : decode b_md_isOpen 77 = .ok (.istore 6, 2) := by decide +kernel
theorem d_md_isOpen_79 : decode b_md_isOpen 79 = .ok (.iload 6, 2) := by decide +kernel
theorem d_md_isOpen_81 : decode b_md_isOpen 81 = .ok (.iload_n 2, 1) := by decide +kernel
theorem d_md_isOpen_82 : decode b_md_isOpen 82 = .ok (.if_icmp .eq 37, 3) := by decide +kernel
theorem d_md_isOpen_85 : decode b_md_isOpen 85 = .ok (.iload 5, 2) := by decide +kernel
theorem d_md_isOpen_87 : decode b_md_isOpen 87 = .ok (.ifCond .eq 14, 3) := by decide +kernel
theorem d_md_isOpen_90 : decode b_md_isOpen 90 = .ok (.aload_n 0, 1) := by decide +kernel
theorem d_md_isOpen_91 : decode b_md_isOpen 91 = .ok (.iload 6, 2) := by decide +kernel
theorem d_md_isOpen_93 : decode b_md_isOpen 93 = .ok (.iaload, 1) := by decide +kernel
theorem d_md_isOpen_94 : decode b_md_isOpen 94 = .ok (.ifCond .ne 7, 3) := by decide +kernel
theorem d_md_isOpen_97 : decode b_md_isOpen 97 = .ok (.iconst 1, 1) := by decide +kernel
theorem d_md_isOpen_98 : decode b_md_isOpen 98 = .ok (.goto 4, 3) := by decide +kernel
theorem d_md_isOpen_101 : decode b_md_isOpen 101 = .ok (.iconst 0, 1) := by decide +kernel
theorem d_md_isOpen_102 : decode b_md_isOpen 102 = .ok (.istore 5, 2) := by decide +kernel
theorem d_md_isOpen_104 : decode b_md_isOpen 104 = .ok (.iload 6, 2) := by decide +kernel
theorem d_md_isOpen_106 : decode b_md_isOpen 106 = .ok (.iload_n 3, 1) := by decide +kernel
theorem d_md_isOpen_107 : decode b_md_isOpen 107 = .ok (.bipush 8, 2) := by decide +kernel
theorem d_md_isOpen_109 : decode b_md_isOpen 109 = .ok (.iload 4, 2) := by decide +kernel
theorem d_md_isOpen_111 : decode b_md_isOpen 111 = .ok (.imul, 1) := by decide +kernel
theorem d_md_isOpen_112 : decode b_md_isOpen 112 = .ok (.iadd, 1) := by decide +kernel
theorem d_md_isOpen_113 : decode b_md_isOpen 113 = .ok (.iadd, 1) := by decide +kernel
theorem d_md_isOpen_114 : decode b_md_isOpen 114 = .ok (.istore 6, 2) := by decide +kernel
theorem d_md_isOpen_116 : decode b_md_isOpen 116 = .ok (.goto (-37), 3) := by decide +kernel
theorem d_md_isOpen_119 : decode b_md_isOpen 119 = .ok (.iload 5, 2) := by decide +kernel
theorem d_md_isOpen_121 : decode b_md_isOpen 121 = .ok (.ireturn, 1) := by decide +kernel
theorem d_md_kingOf_0 : decode b_md_kingOf 0 = .ok (.iconst 0, 1) := by decide +kernel
theorem d_md_kingOf_1 : decode b_md_kingOf 1 = .ok (.istore_n 2, 1) := by decide +kernel
theorem d_md_kingOf_2 : decode b_md_kingOf 2 = .ok (.iconst 0, 1) := by decide +kernel
theorem d_md_kingOf_3 : decode b_md_kingOf 3 = .ok (.istore_n 3, 1) := by decide +kernel
theorem d_md_kingOf_4 : decode b_md_kingOf 4 = .ok (.iload_n 3, 1) := by decide +kernel
theorem d_md_kingOf_5 : decode b_md_kingOf 5 = .ok (.bipush 64, 2) := by decide +kernel
theorem d_md_kingOf_7 : decode b_md_kingOf 7 = .ok (.if_icmp .ge 31, 3) := by decide +kernel
theorem d_md_kingOf_10 : decode b_md_kingOf 10 = .ok (.aload_n 0, 1) := by decide +kernel
theorem d_md_kingOf_11 : decode b_md_kingOf 11 = .ok (.getfield 29, 3) := by decide +kernel
theorem d_md_kingOf_14 : decode b_md_kingOf 14 = .ok (.iload_n 3, 1) := by decide +kernel
theorem d_md_kingOf_15 : decode b_md_kingOf 15 = .ok (.iaload, 1) := by decide +kernel
theorem d_md_kingOf_16 : decode b_md_kingOf 16 = .ok (.bipush 6, 2) := by decide +kernel
theorem d_md_kingOf_18 : decode b_md_kingOf 18 = .ok (.bipush 6, 2) := by decide +kernel
theorem d_md_kingOf_20 : decode b_md_kingOf 20 = .ok (.iload_n 1, 1) := by decide +kernel
theorem d_md_kingOf_21 : decode b_md_kingOf 21 = .ok (.imul, 1) := by decide +kernel
theorem d_md_kingOf_22 : decode b_md_kingOf 22 = .ok (.iadd, 1) := by decide +kernel
theorem d_md_kingOf_23 : decode b_md_kingOf 23 = .ok (.if_icmp .ne 7, 3) := by decide +kernel
theorem d_md_kingOf_26 : decode b_md_kingOf 26 = .ok (.iload_n 3, 1) := by decide +kernel
theorem d_md_kingOf_27 : decode b_md_kingOf 27 = .ok (.goto 4, 3) := by decide +kernel
theorem d_md_kingOf_30 : decode b_md_kingOf 30 = .ok (.iload_n 2, 1) := by decide +kernel
theorem d_md_kingOf_31 : decode b_md_kingOf 31 = .ok (.istore_n 2, 1) := by decide +kernel
theorem d_md_kingOf_32 : decode b_md_kingOf 32 = .ok (.iinc 3 1, 3) := by decide +kernel
theorem d_md_kingOf_35 : decode b_md_kingOf 35 = .ok (.goto (-31), 3) := by decide +kernel
theorem d_md_kingOf_38 : decode b_md_kingOf 38 = .ok (.iload_n 2, 1) := by decide +kernel
theorem d_md_kingOf_39 : decode b_md_kingOf 39 = .ok (.ireturn, 1) := by decide +kernel
theorem d_md_record_0 : decode b_md_record 0 = .ok (.aload_n 0, 1) := by decide +kernel
theorem d_md_record_1 : decode b_md_record 1 = .ok (.iconst 0, 1) := by decide +kernel
theorem d_md_record_2 : decode b_md_record 2 = .ok (.putfield 35, 3) := by decide +kernel
theorem d_md_record_5 : decode b_md_record 5 = .ok (.aload_n 0, 1) := by decide +kernel
theorem d_md_record_6 : decode b_md_record 6 = .ok (.invokevirtual 106, 3) := by decide +kernel
theorem d_md_record_9 : decode b_md_record 9 = .ok (.istore_n 1, 1) := by decide +kernel
theorem d_md_record_10 : decode b_md_record 10 = .ok (.iload_n 1, 1) := by decide +kernel
theorem d_md_record_11 : decode b_md_record 11 = .ok (.ifCond .le 5, 3) := by decide +kernel
theorem d_md_record_14 : decode b_md_record 14 = .ok (.iload_n 1, 1) := by decide +kernel
theorem d_md_record_15 : decode b_md_record 15 = .ok (.ireturn, 1) := by decide +kernel
theorem d_md_record_16 : decode b_md_record 16 = .ok (.aload_n 0, 1) := by decide +kernel
theorem d_md_record_17 : decode b_md_record 17 = .ok (.bipush 6, 2) := by decide +kernel
theorem d_md_record_19 : decode b_md_record 19 = .ok (.invokevirtual 95, 3) := by decide +kernel
theorem d_md_record_22 : decode b_md_record 22 = .ok (.iconst 1, 1) := by decide +kernel
theorem d_md_record_23 : decode b_md_record 23 = .ok (.if_icmp .ne 13, 3) := by decide +kernel
theorem d_md_record_26 : decode b_md_record 26 = .ok (.aload_n 0, 1) := by decide +kernel
theorem d_md_record_27 : decode b_md_record 27 = .ok (.bipush 12, 2) := by decide +kernel
theorem d_md_record_29 : decode b_md_record 29 = .ok (.invokevirtual 95, 3) := by decide +kernel
theorem d_md_record_32 : decode b_md_record 32 = .ok (.iconst 1, 1) := by decide +kernel
theorem d_md_record_33 : decode b_md_record 33 = .ok (.if_icmp .eq 6, 3) := by decide +kernel
theorem d_md_record_36 : decode b_md_record 36 = .ok (.bipush 7, 2) := by decide +kernel
theorem d_md_record_38 : decode b_md_record 38 = .ok (.ireturn, 1) := by decide +kernel
theorem d_md_record_39 : decode b_md_record 39 = .ok (.aload_n 0, 1) := by decide +kernel
theorem d_md_record_40 : decode b_md_record 40 = .ok (.invokevirtual 109, 3) := by decide +kernel
theorem d_md_record_43 : decode b_md_record 43 = .ok (.ifCond .ne 6, 3) := by decide +kernel
theorem d_md_record_46 : decode b_md_record 46 = .ok (.bipush 8, 2) := by decide +kernel
theorem d_md_record_48 : decode b_md_record 48 = .ok (.ireturn, 1) := by decide +kernel
theorem d_md_record_49 : decode b_md_record 49 = .ok (.aload_n 0, 1) := by decide +kernel
theorem d_md_record_50 : decode b_md_record 50 = .ok (.invokevirtual 112, 3) := by decide +kernel
theorem d_md_record_53 : decode b_md_record 53 = .ok (.ifCond .ne 6, 3) := by decide +kernel
theorem d_md_record_56 : decode b_md_record 56 = .ok (.bipush 9, 2) := by decide +kernel
theorem d_md_record_58 : decode b_md_record 58 = .ok (.ireturn, 1) := by decide +kernel
theorem d_md_record_59 : decode b_md_record 59 = .ok (.aload_n 0, 1) := by decide +kernel
theorem d_md_record_60 : decode b_md_record 60 = .ok (.invokevirtual 115, 3) := by decide +kernel
theorem d_md_record_63 : decode b_md_record 63 = .ok (.ifCond .ne 6, 3) := by decide +kernel
theorem d_md_record_66 : decode b_md_record 66 = .ok (.bipush 10, 2) := by decide +kernel
theorem d_md_record_68 : decode b_md_record 68 = .ok (.ireturn, 1) := by decide +kernel
theorem d_md_record_69 : decode b_md_record 69 = .ok (.aload_n 0, 1) := by decide +kernel
theorem d_md_record_70 : decode b_md_record 70 = .ok (.getfield 29, 3) := by decide +kernel
theorem d_md_record_73 : decode b_md_record 73 = .ok (.aload_n 0, 1) := by decide +kernel
theorem d_md_record_74 : decode b_md_record 74 = .ok (.iconst 1, 1) := by decide +kernel
theorem d_md_record_75 : decode b_md_record 75 = .ok (.aload_n 0, 1) := by decide +kernel
theorem d_md_record_76 : decode b_md_record 76 = .ok (.getfield 67, 3) := by decide +kernel
theorem d_md_record_79 : decode b_md_record 79 = .ok (.isub, 1) := by decide +kernel
theorem d_md_record_80 : decode b_md_record 80 = .ok (.invokevirtual 118, 3) := by decide +kernel
theorem d_md_record_83 : decode b_md_record 83 = .ok (.aload_n 0, 1) := by decide +kernel
theorem d_md_record_84 : decode b_md_record 84 = .ok (.getfield 67, 3) := by decide +kernel
theorem d_md_record_87 : decode b_md_record 87 = .ok (.invokestatic 121, 3) := by decide +kernel
theorem d_md_record_90 : decode b_md_record 90 = .ok (.ifCond .eq 6, 3) := by decide +kernel
theorem d_md_record_93 : decode b_md_record 93 = .ok (.bipush 11, 2) := by decide +kernel
theorem d_md_record_95 : decode b_md_record 95 = .ok (.ireturn, 1) := by decide +kernel
theorem d_md_record_96 : decode b_md_record 96 = .ok (.iconst 0, 1) := by decide +kernel
theorem d_md_record_97 : decode b_md_record 97 = .ok (.istore_n 2, 1) := by decide +kernel
theorem d_md_record_98 : decode b_md_record 98 = .ok (.iload_n 2, 1) := by decide +kernel
theorem d_md_record_99 : decode b_md_record 99 = .ok (.bipush 64, 2) := by decide +kernel
theorem d_md_record_101 : decode b_md_record 101 = .ok (.if_icmp .ge 21, 3) := by decide +kernel
theorem d_md_record_104 : decode b_md_record 104 = .ok (.aload_n 0, 1) := by decide +kernel
theorem d_md_record_105 : decode b_md_record 105 = .ok (.getfield 7, 3) := by decide +kernel
theorem d_md_record_108 : decode b_md_record 108 = .ok (.iload_n 2, 1) := by decide +kernel
theorem d_md_record_109 : decode b_md_record 109 = .ok (.aload_n 0, 1) := by decide +kernel
theorem d_md_record_110 : decode b_md_record 110 = .ok (.getfield 29, 3) := by decide +kernel
theorem d_md_record_113 : decode b_md_record 113 = .ok (.iload_n 2, 1) := by decide +kernel
theorem d_md_record_114 : decode b_md_record 114 = .ok (.iaload, 1) := by decide +kernel
theorem d_md_record_115 : decode b_md_record 115 = .ok (.iastore, 1) := by decide +kernel
theorem d_md_record_116 : decode b_md_record 116 = .ok (.iinc 2 1, 3) := by decide +kernel
theorem d_md_record_119 : decode b_md_record 119 = .ok (.goto (-21), 3) := by decide +kernel
theorem d_md_record_122 : decode b_md_record 122 = .ok (.aload_n 0, 1) := by decide +kernel
theorem d_md_record_123 : decode b_md_record 123 = .ok (.aload_n 0, 1) := by decide +kernel
theorem d_md_record_124 : decode b_md_record 124 = .ok (.getfield 67, 3) := by decide +kernel
theorem d_md_record_127 : decode b_md_record 127 = .ok (.putfield 124, 3) := by decide +kernel
theorem d_md_record_130 : decode b_md_record 130 = .ok (.aload_n 0, 1) := by decide +kernel
theorem d_md_record_131 : decode b_md_record 131 = .ok (.aload_n 0, 1) := by decide +kernel
theorem d_md_record_132 : decode b_md_record 132 = .ok (.getfield 61, 3) := by decide +kernel
theorem d_md_record_135 : decode b_md_record 135 = .ok (.putfield 127, 3) := by decide +kernel
theorem d_md_record_138 : decode b_md_record 138 = .ok (.aload_n 0, 1) := by decide +kernel
theorem d_md_record_139 : decode b_md_record 139 = .ok (.aload_n 0, 1) := by decide +kernel
theorem d_md_record_140 : decode b_md_record 140 = .ok (.getfield 64, 3) := by decide +kernel
theorem d_md_record_143 : decode b_md_record 143 = .ok (.putfield 13, 3) := by decide +kernel
theorem d_md_record_146 : decode b_md_record 146 = .ok (.aload_n 0, 1) := by decide +kernel
theorem d_md_record_147 : decode b_md_record 147 = .ok (.aload_n 0, 1) := by decide +kernel
theorem d_md_record_148 : decode b_md_record 148 = .ok (.getfield 86, 3) := by decide +kernel
theorem d_md_record_151 : decode b_md_record 151 = .ok (.putfield 130, 3) := by decide +kernel
theorem d_md_record_154 : decode b_md_record 154 = .ok (.aload_n 0, 1) := by decide +kernel
theorem d_md_record_155 : decode b_md_record 155 = .ok (.aload_n 0, 1) := by decide +kernel
theorem d_md_record_156 : decode b_md_record 156 = .ok (.getfield 89, 3) := by decide +kernel
theorem d_md_record_159 : decode b_md_record 159 = .ok (.putfield 17, 3) := by decide +kernel
theorem d_md_record_162 : decode b_md_record 162 = .ok (.aload_n 0, 1) := by decide +kernel
theorem d_md_record_163 : decode b_md_record 163 = .ok (.iconst 0, 1) := by decide +kernel
theorem d_md_record_164 : decode b_md_record 164 = .ok (.putfield 133, 3) := by decide +kernel
theorem d_md_record_167 : decode b_md_record 167 = .ok (.iconst 0, 1) := by decide +kernel
theorem d_md_record_168 : decode b_md_record 168 = .ok (.ireturn, 1) := by decide +kernel
theorem d_md_put1_0 : decode b_md_put1 0 = .ok (.aload_n 0, 1) := by decide +kernel
theorem d_md_put1_1 : decode b_md_put1 1 = .ok (.getfield 20, 3) := by decide +kernel
theorem d_md_put1_4 : decode b_md_put1 4 = .ok (.aload_n 0, 1) := by decide +kernel
theorem d_md_put1_5 : decode b_md_put1 5 = .ok (.getfield 38, 3) := by decide +kernel
theorem d_md_put1_8 : decode b_md_put1 8 = .ok (.iload_n 1, 1) := by decide +kernel
theorem d_md_put1_9 : decode b_md_put1 9 = .ok (.iastore, 1) := by decide +kernel
theorem d_md_put1_10 : decode b_md_put1 10 = .ok (.aload_n 0, 1) := by decide +kernel
theorem d_md_put1_11 : decode b_md_put1 11 = .ok (.dup, 1) := by decide +kernel
theorem d_md_put1_12 : decode b_md_put1 12 = .ok (.getfield 38, 3) := by decide +kernel
theorem d_md_put1_15 : decode b_md_put1 15 = .ok (.iconst 1, 1) := by decide +kernel
theorem d_md_put1_16 : decode b_md_put1 16 = .ok (.iadd, 1) := by decide +kernel
theorem d_md_put1_17 : decode b_md_put1 17 = .ok (.putfield 38, 3) := by decide +kernel
theorem d_md_put1_20 : decode b_md_put1 20 = .ok (.return_, 1) := by decide +kernel
theorem d_md_putNumber_0 : decode b_md_putNumber 0 = .ok (.iconst 1, 1) := by decide +kernel
theorem d_md_putNumber_1 : decode b_md_putNumber 1 = .ok (.istore_n 2, 1) := by decide +kernel
theorem d_md_putNumber_2 : decode b_md_putNumber 2 = .ok (.iload_n 1, 1) := by decide +kernel
theorem d_md_putNumber_3 : decode b_md_putNumber 3 = .ok (.iload_n 2, 1) := by decide +kernel
theorem d_md_putNumber_4 : decode b_md_putNumber 4 = .ok (.idiv, 1) := by decide +kernel
theorem d_md_putNumber_5 : decode b_md_putNumber 5 = .ok (.bipush 9, 2) := by decide +kernel
theorem d_md_putNumber_7 : decode b_md_putNumber 7 = .ok (.if_icmp .le 11, 3) := by decide +kernel
theorem d_md_putNumber_10 : decode b_md_putNumber 10 = .ok (.iload_n 2, 1) := by decide +kernel
theorem d_md_putNumber_11 : decode b_md_putNumber 11 = .ok (.bipush 10, 2) := by decide +kernel
theorem d_md_putNumber_13 : decode b_md_putNumber 13 = .ok (.imul, 1) := by decide +kernel
theorem d_md_putNumber_14 : decode b_md_putNumber 14 = .ok (.istore_n 2, 1) := by decide +kernel
theorem d_md_putNumber_15 : decode b_md_putNumber 15 = .ok (.goto (-13), 3) := by decide +kernel
theorem d_md_putNumber_18 : decode b_md_putNumber 18 = .ok (.iload_n 2, 1) := by decide +kernel
theorem d_md_putNumber_19 : decode b_md_putNumber 19 = .ok (.istore_n 3, 1) := by decide +kernel
theorem d_md_putNumber_20 : decode b_md_putNumber 20 = .ok (.iload_n 3, 1) := by decide +kernel
theorem d_md_putNumber_21 : decode b_md_putNumber 21 = .ok (.ifCond .le 24, 3) := by decide +kernel
theorem d_md_putNumber_24 : decode b_md_putNumber 24 = .ok (.aload_n 0, 1) := by decide +kernel
theorem d_md_putNumber_25 : decode b_md_putNumber 25 = .ok (.bipush 48, 2) := by decide +kernel
theorem d_md_putNumber_27 : decode b_md_putNumber 27 = .ok (.iload_n 1, 1) := by decide +kernel
theorem d_md_putNumber_28 : decode b_md_putNumber 28 = .ok (.iload_n 3, 1) := by decide +kernel
theorem d_md_putNumber_29 : decode b_md_putNumber 29 = .ok (.idiv, 1) := by decide +kernel
theorem d_md_putNumber_30 : decode b_md_putNumber 30 = .ok (.bipush 10, 2) := by decide +kernel
theorem d_md_putNumber_32 : decode b_md_putNumber 32 = .ok (.irem, 1) := by decide +kernel
theorem d_md_putNumber_33 : decode b_md_putNumber 33 = .ok (.iadd, 1) := by decide +kernel
theorem d_md_putNumber_34 : decode b_md_putNumber 34 = .ok (.invokevirtual 136, 3) := by decide +kernel
theorem d_md_putNumber_37 : decode b_md_putNumber 37 = .ok (.iload_n 3, 1) := by decide +kernel
theorem d_md_putNumber_38 : decode b_md_putNumber 38 = .ok (.bipush 10, 2) := by decide +kernel
theorem d_md_putNumber_40 : decode b_md_putNumber 40 = .ok (.idiv, 1) := by decide +kernel
theorem d_md_putNumber_41 : decode b_md_putNumber 41 = .ok (.istore_n 3, 1) := by decide +kernel
theorem d_md_putNumber_42 : decode b_md_putNumber 42 = .ok (.goto (-22), 3) := by decide +kernel
theorem d_md_putNumber_45 : decode b_md_putNumber 45 = .ok (.return_, 1) := by decide +kernel
theorem d_md_putRank_0 : decode b_md_putRank 0 = .ok (.iconst 0, 1) := by decide +kernel
theorem d_md_putRank_1 : decode b_md_putRank 1 = .ok (.istore_n 2, 1) := by decide +kernel
theorem d_md_putRank_2 : decode b_md_putRank 2 = .ok (.iconst 0, 1) := by decide +kernel
theorem d_md_putRank_3 : decode b_md_putRank 3 = .ok (.istore_n 3, 1) := by decide +kernel
theorem d_md_putRank_4 : decode b_md_putRank 4 = .ok (.iload_n 3, 1) := by decide +kernel
theorem d_md_putRank_5 : decode b_md_putRank 5 = .ok (.bipush 8, 2) := by decide +kernel
theorem d_md_putRank_7 : decode b_md_putRank 7 = .ok (.if_icmp .ge 66, 3) := by decide +kernel
theorem d_md_putRank_10 : decode b_md_putRank 10 = .ok (.aload_n 0, 1) := by decide +kernel
