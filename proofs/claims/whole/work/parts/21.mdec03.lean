theorem d_md_putRank_11 : decode b_md_putRank 11 = .ok (.getfield 7, 3) := by decide +kernel
theorem d_md_putRank_14 : decode b_md_putRank 14 = .ok (.bipush 8, 2) := by decide +kernel
theorem d_md_putRank_16 : decode b_md_putRank 16 = .ok (.iload_n 1, 1) := by decide +kernel
theorem d_md_putRank_17 : decode b_md_putRank 17 = .ok (.imul, 1) := by decide +kernel
theorem d_md_putRank_18 : decode b_md_putRank 18 = .ok (.iload_n 3, 1) := by decide +kernel
theorem d_md_putRank_19 : decode b_md_putRank 19 = .ok (.iadd, 1) := by decide +kernel
theorem d_md_putRank_20 : decode b_md_putRank 20 = .ok (.iaload, 1) := by decide +kernel
theorem d_md_putRank_21 : decode b_md_putRank 21 = .ok (.istore 4, 2) := by decide +kernel
theorem d_md_putRank_23 : decode b_md_putRank 23 = .ok (.iload 4, 2) := by decide +kernel
theorem d_md_putRank_25 : decode b_md_putRank 25 = .ok (.ifCond .le 15, 3) := by decide +kernel
theorem d_md_putRank_28 : decode b_md_putRank 28 = .ok (.iload_n 2, 1) := by decide +kernel
theorem d_md_putRank_29 : decode b_md_putRank 29 = .ok (.ifCond .le 11, 3) := by decide +kernel
theorem d_md_putRank_32 : decode b_md_putRank 32 = .ok (.aload_n 0, 1) := by decide +kernel
theorem d_md_putRank_33 : decode b_md_putRank 33 = .ok (.bipush 48, 2) := by decide +kernel
theorem d_md_putRank_35 : decode b_md_putRank 35 = .ok (.iload_n 2, 1) := by decide +kernel
theorem d_md_putRank_36 : decode b_md_putRank 36 = .ok (.iadd, 1) := by decide +kernel
theorem d_md_putRank_37 : decode b_md_putRank 37 = .ok (.invokevirtual 136, 3) := by decide +kernel
theorem d_md_putRank_40 : decode b_md_putRank 40 = .ok (.iload 4, 2) := by decide +kernel
theorem d_md_putRank_42 : decode b_md_putRank 42 = .ok (.ifCond .le 7, 3) := by decide +kernel
theorem d_md_putRank_45 : decode b_md_putRank 45 = .ok (.iconst 0, 1) := by decide +kernel
theorem d_md_putRank_46 : decode b_md_putRank 46 = .ok (.goto 6, 3) := by decide +kernel
theorem d_md_putRank_49 : decode b_md_putRank 49 = .ok (.iload_n 2, 1) := by decide +kernel
theorem d_md_putRank_50 : decode b_md_putRank 50 = .ok (.iconst 1, 1) := by decide +kernel
theorem d_md_putRank_51 : decode b_md_putRank 51 = .ok (.iadd, 1) := by decide +kernel
theorem d_md_putRank_52 : decode b_md_putRank 52 = .ok (.istore_n 2, 1) := by decide +kernel
theorem d_md_putRank_53 : decode b_md_putRank 53 = .ok (.iload 4, 2) := by decide +kernel
theorem d_md_putRank_55 : decode b_md_putRank 55 = .ok (.ifCond .le 12, 3) := by decide +kernel
theorem d_md_putRank_58 : decode b_md_putRank 58 = .ok (.aload_n 0, 1) := by decide +kernel
theorem d_md_putRank_59 : decode b_md_putRank 59 = .ok (.iload 4, 2) := by decide +kernel
theorem d_md_putRank_61 : decode b_md_putRank 61 = .ok (.invokestatic 50, 3) := by decide +kernel
theorem d_md_putRank_64 : decode b_md_putRank 64 = .ok (.invokevirtual 136, 3) := by decide +kernel
theorem d_md_putRank_67 : decode b_md_putRank 67 = .ok (.iinc 3 1, 3) := by decide +kernel
theorem d_md_putRank_70 : decode b_md_putRank 70 = .ok (.goto (-66), 3) := by decide +kernel
theorem d_md_putRank_73 : decode b_md_putRank 73 = .ok (.iload_n 2, 1) := by decide +kernel
theorem d_md_putRank_74 : decode b_md_putRank 74 = .ok (.ifCond .le 11, 3) := by decide +kernel
theorem d_md_putRank_77 : decode b_md_putRank 77 = .ok (.aload_n 0, 1) := by decide +kernel
theorem d_md_putRank_78 : decode b_md_putRank 78 = .ok (.bipush 48, 2) := by decide +kernel
theorem d_md_putRank_80 : decode b_md_putRank 80 = .ok (.iload_n 2, 1) := by decide +kernel
theorem d_md_putRank_81 : decode b_md_putRank 81 = .ok (.iadd, 1) := by decide +kernel
theorem d_md_putRank_82 : decode b_md_putRank 82 = .ok (.invokevirtual 136, 3) := by decide +kernel
theorem d_md_putRank_85 : decode b_md_putRank 85 = .ok (.return_, 1) := by decide +kernel
theorem d_md_write_0 : decode b_md_write 0 = .ok (.aload_n 0, 1) := by decide +kernel
theorem d_md_write_1 : decode b_md_write 1 = .ok (.iconst 0, 1) := by decide +kernel
theorem d_md_write_2 : decode b_md_write 2 = .ok (.putfield 35, 3) := by decide +kernel
theorem d_md_write_5 : decode b_md_write 5 = .ok (.aload_n 0, 1) := by decide +kernel
theorem d_md_write_6 : decode b_md_write 6 = .ok (.iconst 0, 1) := by decide +kernel
theorem d_md_write_7 : decode b_md_write 7 = .ok (.putfield 38, 3) := by decide +kernel
theorem d_md_write_10 : decode b_md_write 10 = .ok (.bipush 7, 2) := by decide +kernel
theorem d_md_write_12 : decode b_md_write 12 = .ok (.istore_n 1, 1) := by decide +kernel
theorem d_md_write_13 : decode b_md_write 13 = .ok (.iload_n 1, 1) := by decide +kernel
theorem d_md_write_14 : decode b_md_write 14 = .ok (.ifCond .lt 29, 3) := by decide +kernel
theorem d_md_write_17 : decode b_md_write 17 = .ok (.aload_n 0, 1) := by decide +kernel
theorem d_md_write_18 : decode b_md_write 18 = .ok (.iload_n 1, 1) := by decide +kernel
theorem d_md_write_19 : decode b_md_write 19 = .ok (.invokevirtual 140, 3) := by decide +kernel
theorem d_md_write_22 : decode b_md_write 22 = .ok (.aload_n 0, 1) := by decide +kernel
theorem d_md_write_23 : decode b_md_write 23 = .ok (.iload_n 1, 1) := by decide +kernel
theorem d_md_write_24 : decode b_md_write 24 = .ok (.ifCond .le 8, 3) := by decide +kernel
theorem d_md_write_27 : decode b_md_write 27 = .ok (.bipush 47, 2) := by decide +kernel
theorem d_md_write_29 : decode b_md_write 29 = .ok (.goto 5, 3) := by decide +kernel
theorem d_md_write_32 : decode b_md_write 32 = .ok (.bipush 32, 2) := by decide +kernel
theorem d_md_write_34 : decode b_md_write 34 = .ok (.invokevirtual 136, 3) := by decide +kernel
theorem d_md_write_37 : decode b_md_write 37 = .ok (.iinc 1 (-1), 3) := by decide +kernel
theorem d_md_write_40 : decode b_md_write 40 = .ok (.goto (-27), 3) := by decide +kernel
theorem d_md_write_43 : decode b_md_write 43 = .ok (.aload_n 0, 1) := by decide +kernel
theorem d_md_write_44 : decode b_md_write 44 = .ok (.aload_n 0, 1) := by decide +kernel
theorem d_md_write_45 : decode b_md_write 45 = .ok (.getfield 124, 3) := by decide +kernel
theorem d_md_write_48 : decode b_md_write 48 = .ok (.ifCond .ne 8, 3) := by decide +kernel
theorem d_md_write_51 : decode b_md_write 51 = .ok (.bipush 119, 2) := by decide +kernel
theorem d_md_write_53 : decode b_md_write 53 = .ok (.goto 5, 3) := by decide +kernel
theorem d_md_write_56 : decode b_md_write 56 = .ok (.bipush 98, 2) := by decide +kernel
theorem d_md_write_58 : decode b_md_write 58 = .ok (.invokevirtual 136, 3) := by decide +kernel
theorem d_md_write_61 : decode b_md_write 61 = .ok (.aload_n 0, 1) := by decide +kernel
theorem d_md_write_62 : decode b_md_write 62 = .ok (.bipush 32, 2) := by decide +kernel
theorem d_md_write_64 : decode b_md_write 64 = .ok (.invokevirtual 136, 3) := by decide +kernel
theorem d_md_write_67 : decode b_md_write 67 = .ok (.aload_n 0, 1) := by decide +kernel
theorem d_md_write_68 : decode b_md_write 68 = .ok (.getfield 127, 3) := by decide +kernel
theorem d_md_write_71 : decode b_md_write 71 = .ok (.ifCond .ne 9, 3) := by decide +kernel
theorem d_md_write_74 : decode b_md_write 74 = .ok (.aload_n 0, 1) := by decide +kernel
theorem d_md_write_75 : decode b_md_write 75 = .ok (.bipush 45, 2) := by decide +kernel
theorem d_md_write_77 : decode b_md_write 77 = .ok (.invokevirtual 136, 3) := by decide +kernel
theorem d_md_write_80 : decode b_md_write 80 = .ok (.iconst 0, 1) := by decide +kernel
theorem d_md_write_81 : decode b_md_write 81 = .ok (.istore_n 1, 1) := by decide +kernel
theorem d_md_write_82 : decode b_md_write 82 = .ok (.iload_n 1, 1) := by decide +kernel
theorem d_md_write_83 : decode b_md_write 83 = .ok (.iconst 4, 1) := by decide +kernel
theorem d_md_write_84 : decode b_md_write 84 = .ok (.if_icmp .ge 56, 3) := by decide +kernel
theorem d_md_write_87 : decode b_md_write 87 = .ok (.aload_n 0, 1) := by decide +kernel
theorem d_md_write_88 : decode b_md_write 88 = .ok (.getfield 127, 3) := by decide +kernel
theorem d_md_write_91 : decode b_md_write 91 = .ok (.iload_n 1, 1) := by decide +kernel
theorem d_md_write_92 : decode b_md_write 92 = .ok (.ishr, 1) := by decide +kernel
theorem d_md_write_93 : decode b_md_write 93 = .ok (.iconst 1, 1) := by decide +kernel
theorem d_md_write_94 : decode b_md_write 94 = .ok (.iand, 1) := by decide +kernel
theorem d_md_write_95 : decode b_md_write 95 = .ok (.iconst 1, 1) := by decide +kernel
theorem d_md_write_96 : decode b_md_write 96 = .ok (.if_icmp .ne 38, 3) := by decide +kernel
theorem d_md_write_99 : decode b_md_write 99 = .ok (.aload_n 0, 1) := by decide +kernel
theorem d_md_write_100 : decode b_md_write 100 = .ok (.iload_n 1, 1) := by decide +kernel
theorem d_md_write_101 : decode b_md_write 101 = .ok (.ifCond .ne 8, 3) := by decide +kernel
theorem d_md_write_104 : decode b_md_write 104 = .ok (.bipush 75, 2) := by decide +kernel
theorem d_md_write_106 : decode b_md_write 106 = .ok (.goto 25, 3) := by decide +kernel
theorem d_md_write_109 : decode b_md_write 109 = .ok (.iload_n 1, 1) := by decide +kernel
theorem d_md_write_110 : decode b_md_write 110 = .ok (.iconst 1, 1) := by decide +kernel
theorem d_md_write_111 : decode b_md_write 111 = .ok (.if_icmp .ne 8, 3) := by decide +kernel
theorem d_md_write_114 : decode b_md_write 114 = .ok (.bipush 81, 2) := by decide +kernel
theorem d_md_write_116 : decode b_md_write 116 = .ok (.goto 15, 3) := by decide +kernel
theorem d_md_write_119 : decode b_md_write 119 = .ok (.iload_n 1, 1) := by decide +kernel
theorem d_md_write_120 : decode b_md_write 120 = .ok (.iconst 2, 1) := by decide +kernel
theorem d_md_write_121 : decode b_md_write 121 = .ok (.if_icmp .ne 8, 3) := by decide +kernel
theorem d_md_write_124 : decode b_md_write 124 = .ok (.bipush 107, 2) := by decide +kernel
theorem d_md_write_126 : decode b_md_write 126 = .ok (.goto 5, 3) := by decide +kernel
theorem d_md_write_129 : decode b_md_write 129 = .ok (.bipush 113, 2) := by decide +kernel
theorem d_md_write_131 : decode b_md_write 131 = .ok (.invokevirtual 136, 3) := by decide +kernel
theorem d_md_write_134 : decode b_md_write 134 = .ok (.iinc 1 1, 3) := by decide +kernel
theorem d_md_write_137 : decode b_md_write 137 = .ok (.goto (-55), 3) := by decide +kernel
theorem d_md_write_140 : decode b_md_write 140 = .ok (.aload_n 0, 1) := by decide +kernel
theorem d_md_write_141 : decode b_md_write 141 = .ok (.bipush 32, 2) := by decide +kernel
theorem d_md_write_143 : decode b_md_write 143 = .ok (.invokevirtual 136, 3) := by decide +kernel
theorem d_md_write_146 : decode b_md_write 146 = .ok (.aload_n 0, 1) := by decide +kernel
theorem d_md_write_147 : decode b_md_write 147 = .ok (.aload_n 0, 1) := by decide +kernel
theorem d_md_write_148 : decode b_md_write 148 = .ok (.getfield 13, 3) := by decide +kernel
theorem d_md_write_151 : decode b_md_write 151 = .ok (.ifCond .ge 8, 3) := by decide +kernel
theorem d_md_write_154 : decode b_md_write 154 = .ok (.bipush 45, 2) := by decide +kernel
theorem d_md_write_156 : decode b_md_write 156 = .ok (.goto 10, 3) := by decide +kernel
theorem d_md_write_159 : decode b_md_write 159 = .ok (.bipush 97, 2) := by decide +kernel
theorem d_md_write_161 : decode b_md_write 161 = .ok (.aload_n 0, 1) := by decide +kernel
theorem d_md_write_162 : decode b_md_write 162 = .ok (.getfield 13, 3) := by decide +kernel
theorem d_md_write_165 : decode b_md_write 165 = .ok (.iadd, 1) := by decide +kernel
theorem d_md_write_166 : decode b_md_write 166 = .ok (.invokevirtual 136, 3) := by decide +kernel
theorem d_md_write_169 : decode b_md_write 169 = .ok (.aload_n 0, 1) := by decide +kernel
theorem d_md_write_170 : decode b_md_write 170 = .ok (.getfield 13, 3) := by decide +kernel
theorem d_md_write_173 : decode b_md_write 173 = .ok (.ifCond .lt 21, 3) := by decide +kernel
theorem d_md_write_176 : decode b_md_write 176 = .ok (.aload_n 0, 1) := by decide +kernel
theorem d_md_write_177 : decode b_md_write 177 = .ok (.aload_n 0, 1) := by decide +kernel
theorem d_md_write_178 : decode b_md_write 178 = .ok (.getfield 124, 3) := by decide +kernel
theorem d_md_write_181 : decode b_md_write 181 = .ok (.ifCond .ne 8, 3) := by decide +kernel
theorem d_md_write_184 : decode b_md_write 184 = .ok (.bipush 54, 2) := by decide +kernel
theorem d_md_write_186 : decode b_md_write 186 = .ok (.goto 5, 3) := by decide +kernel
theorem d_md_write_189 : decode b_md_write 189 = .ok (.bipush 51, 2) := by decide +kernel
theorem d_md_write_191 : decode b_md_write 191 = .ok (.invokevirtual 136, 3) := by decide +kernel
theorem d_md_write_194 : decode b_md_write 194 = .ok (.aload_n 0, 1) := by decide +kernel
theorem d_md_write_195 : decode b_md_write 195 = .ok (.bipush 32, 2) := by decide +kernel
theorem d_md_write_197 : decode b_md_write 197 = .ok (.invokevirtual 136, 3) := by decide +kernel
theorem d_md_write_200 : decode b_md_write 200 = .ok (.aload_n 0, 1) := by decide +kernel
theorem d_md_write_201 : decode b_md_write 201 = .ok (.aload_n 0, 1) := by decide +kernel
theorem d_md_write_202 : decode b_md_write 202 = .ok (.getfield 130, 3) := by decide +kernel
theorem d_md_write_205 : decode b_md_write 205 = .ok (.invokevirtual 143, 3) := by decide +kernel
theorem d_md_write_208 : decode b_md_write 208 = .ok (.aload_n 0, 1) := by decide +kernel
theorem d_md_write_209 : decode b_md_write 209 = .ok (.bipush 32, 2) := by decide +kernel
theorem d_md_write_211 : decode b_md_write 211 = .ok (.invokevirtual 136, 3) := by decide +kernel
theorem d_md_write_214 : decode b_md_write 214 = .ok (.aload_n 0, 1) := by decide +kernel
theorem d_md_write_215 : decode b_md_write 215 = .ok (.aload_n 0, 1) := by decide +kernel
theorem d_md_write_216 : decode b_md_write 216 = .ok (.getfield 17, 3) := by decide +kernel
theorem d_md_write_219 : decode b_md_write 219 = .ok (.invokevirtual 143, 3) := by decide +kernel
theorem d_md_write_222 : decode b_md_write 222 = .ok (.aload_n 0, 1) := by decide +kernel
theorem d_md_write_223 : decode b_md_write 223 = .ok (.getfield 38, 3) := by decide +kernel
theorem d_md_write_226 : decode b_md_write 226 = .ok (.ireturn, 1) := by decide +kernel
theorem d_md_put_0 : decode b_md_put 0 = .ok (.aload_n 0, 1) := by decide +kernel
theorem d_md_put_1 : decode b_md_put 1 = .ok (.iconst 0, 1) := by decide +kernel
theorem d_md_put_2 : decode b_md_put 2 = .ok (.putfield 35, 3) := by decide +kernel
theorem d_md_put_5 : decode b_md_put 5 = .ok (.iload_n 1, 1) := by decide +kernel
theorem d_md_put_6 : decode b_md_put 6 = .ok (.ifCond .lt 19, 3) := by decide +kernel
theorem d_md_put_9 : decode b_md_put 9 = .ok (.iload_n 1, 1) := by decide +kernel
theorem d_md_put_10 : decode b_md_put 10 = .ok (.bipush 63, 2) := by decide +kernel
theorem d_md_put_12 : decode b_md_put 12 = .ok (.if_icmp .gt 13, 3) := by decide +kernel
theorem d_md_put_15 : decode b_md_put 15 = .ok (.iload_n 2, 1) := by decide +kernel
theorem d_md_put_16 : decode b_md_put 16 = .ok (.ifCond .lt 9, 3) := by decide +kernel
theorem d_md_put_19 : decode b_md_put 19 = .ok (.iload_n 2, 1) := by decide +kernel
theorem d_md_put_20 : decode b_md_put 20 = .ok (.bipush 12, 2) := by decide +kernel
theorem d_md_put_22 : decode b_md_put 22 = .ok (.if_icmp .le 5, 3) := by decide +kernel
theorem d_md_put_25 : decode b_md_put 25 = .ok (.iconst 0, 1) := by decide +kernel
theorem d_md_put_26 : decode b_md_put 26 = .ok (.ireturn, 1) := by decide +kernel
theorem d_md_put_27 : decode b_md_put 27 = .ok (.aload_n 0, 1) := by decide +kernel
theorem d_md_put_28 : decode b_md_put 28 = .ok (.getfield 7, 3) := by decide +kernel
theorem d_md_put_31 : decode b_md_put 31 = .ok (.iload_n 1, 1) := by decide +kernel
theorem d_md_put_32 : decode b_md_put 32 = .ok (.iload_n 2, 1) := by decide +kernel
theorem d_md_put_33 : decode b_md_put 33 = .ok (.iastore, 1) := by decide +kernel
theorem d_md_put_34 : decode b_md_put 34 = .ok (.aload_n 0, 1) := by decide +kernel
theorem d_md_put_35 : decode b_md_put 35 = .ok (.iconst 0, 1) := by decide +kernel
theorem d_md_put_36 : decode b_md_put 36 = .ok (.putfield 133, 3) := by decide +kernel
theorem d_md_put_39 : decode b_md_put 39 = .ok (.iconst 1, 1) := by decide +kernel
theorem d_md_put_40 : decode b_md_put 40 = .ok (.ireturn, 1) := by decide +kernel
theorem d_md_state_0 : decode b_md_state 0 = .ok (.aload_n 0, 1) := by decide +kernel
theorem d_md_state_1 : decode b_md_state 1 = .ok (.iconst 0, 1) := by decide +kernel
theorem d_md_state_2 : decode b_md_state 2 = .ok (.putfield 35, 3) := by decide +kernel
theorem d_md_state_5 : decode b_md_state 5 = .ok (.iload_n 1, 1) := by decide +kernel
theorem d_md_state_6 : decode b_md_state 6 = .ok (.ifCond .lt 33, 3) := by decide +kernel
theorem d_md_state_9 : decode b_md_state 9 = .ok (.iload_n 1, 1) := by decide +kernel
theorem d_md_state_10 : decode b_md_state 10 = .ok (.iconst 2, 1) := by decide +kernel
theorem d_md_state_11 : decode b_md_state 11 = .ok (.if_icmp .ge 28, 3) := by decide +kernel
theorem d_md_state_14 : decode b_md_state 14 = .ok (.iload_n 2, 1) := by decide +kernel
theorem d_md_state_15 : decode b_md_state 15 = .ok (.ifCond .lt 24, 3) := by decide +kernel
theorem d_md_state_18 : decode b_md_state 18 = .ok (.iload_n 2, 1) := by decide +kernel
theorem d_md_state_19 : decode b_md_state 19 = .ok (.bipush 16, 2) := by decide +kernel
theorem d_md_state_21 : decode b_md_state 21 = .ok (.if_icmp .ge 18, 3) := by decide +kernel
theorem d_md_state_24 : decode b_md_state 24 = .ok (.iload_n 3, 1) := by decide +kernel
theorem d_md_state_25 : decode b_md_state 25 = .ok (.iconst (-1), 1) := by decide +kernel
theorem d_md_state_26 : decode b_md_state 26 = .ok (.if_icmp .lt 13, 3) := by decide +kernel
theorem d_md_state_29 : decode b_md_state 29 = .ok (.iload_n 3, 1) := by decide +kernel
theorem d_md_state_30 : decode b_md_state 30 = .ok (.bipush 8, 2) := by decide +kernel
theorem d_md_state_32 : decode b_md_state 32 = .ok (.if_icmp .ge 7, 3) := by decide +kernel
theorem d_md_state_35 : decode b_md_state 35 = .ok (.iconst 1, 1) := by decide +kernel
theorem d_md_state_36 : decode b_md_state 36 = .ok (.goto 4, 3) := by decide +kernel
theorem d_md_state_39 : decode b_md_state 39 = .ok (.iconst 0, 1) := by decide +kernel
theorem d_md_state_40 : decode b_md_state 40 = .ok (.istore 6, 2) := by decide +kernel
theorem d_md_state_42 : decode b_md_state 42 = .ok (.iload 6, 2) := by decide +kernel
theorem d_md_state_44 : decode b_md_state 44 = .ok (.ifCond .eq 30, 3) := by decide +kernel
theorem d_md_state_47 : decode b_md_state 47 = .ok (.iload 4, 2) := by decide +kernel
theorem d_md_state_49 : decode b_md_state 49 = .ok (.ifCond .lt 25, 3) := by decide +kernel
theorem d_md_state_52 : decode b_md_state 52 = .ok (.iload 4, 2) := by decide +kernel
theorem d_md_state_54 : decode b_md_state 54 = .ok (.sipush 999, 3) := by decide +kernel
theorem d_md_state_57 : decode b_md_state 57 = .ok (.if_icmp .gt 17, 3) := by decide +kernel
theorem d_md_state_60 : decode b_md_state 60 = .ok (.iload 5, 2) := by decide +kernel
theorem d_md_state_62 : decode b_md_state 62 = .ok (.iconst 1, 1) := by decide +kernel
theorem d_md_state_63 : decode b_md_state 63 = .ok (.if_icmp .lt 11, 3) := by decide +kernel
theorem d_md_state_66 : decode b_md_state 66 = .ok (.iload 5, 2) := by decide +kernel
theorem d_md_state_68 : decode b_md_state 68 = .ok (.sipush 9999, 3) := by decide +kernel
theorem d_md_state_71 : decode b_md_state 71 = .ok (.if_icmp .le 5, 3) := by decide +kernel
theorem d_md_state_74 : decode b_md_state 74 = .ok (.iconst 0, 1) := by decide +kernel
theorem d_md_state_75 : decode b_md_state 75 = .ok (.ireturn, 1) := by decide +kernel
theorem d_md_state_76 : decode b_md_state 76 = .ok (.aload_n 0, 1) := by decide +kernel
theorem d_md_state_77 : decode b_md_state 77 = .ok (.iload_n 1, 1) := by decide +kernel
theorem d_md_state_78 : decode b_md_state 78 = .ok (.putfield 124, 3) := by decide +kernel
theorem d_md_state_81 : decode b_md_state 81 = .ok (.aload_n 0, 1) := by decide +kernel
theorem d_md_state_82 : decode b_md_state 82 = .ok (.iload_n 2, 1) := by decide +kernel
theorem d_md_state_83 : decode b_md_state 83 = .ok (.putfield 127, 3) := by decide +kernel
theorem d_md_state_86 : decode b_md_state 86 = .ok (.aload_n 0, 1) := by decide +kernel
theorem d_md_state_87 : decode b_md_state 87 = .ok (.iload_n 3, 1) := by decide +kernel
theorem d_md_state_88 : decode b_md_state 88 = .ok (.putfield 13, 3) := by decide +kernel
theorem d_md_state_91 : decode b_md_state 91 = .ok (.aload_n 0, 1) := by decide +kernel
theorem d_md_state_92 : decode b_md_state 92 = .ok (.iload 4, 2) := by decide +kernel
theorem d_md_state_94 : decode b_md_state 94 = .ok (.putfield 130, 3) := by decide +kernel
theorem d_md_state_97 : decode b_md_state 97 = .ok (.aload_n 0, 1) := by decide +kernel
theorem d_md_state_98 : decode b_md_state 98 = .ok (.iload 5, 2) := by decide +kernel
theorem d_md_state_100 : decode b_md_state 100 = .ok (.putfield 17, 3) := by decide +kernel
theorem d_md_state_103 : decode b_md_state 103 = .ok (.iconst 1, 1) := by decide +kernel
theorem d_md_state_104 : decode b_md_state 104 = .ok (.ireturn, 1) := by decide +kernel
theorem d_md_at_0 : decode b_md_at 0 = .ok (.aload_n 0, 1) := by decide +kernel
theorem d_md_at_1 : decode b_md_at 1 = .ok (.iconst 0, 1) := by decide +kernel
theorem d_md_at_2 : decode b_md_at 2 = .ok (.putfield 35, 3) := by decide +kernel
theorem d_md_at_5 : decode b_md_at 5 = .ok (.iload_n 1, 1) := by decide +kernel
theorem d_md_at_6 : decode b_md_at 6 = .ok (.ifCond .lt 9, 3) := by decide +kernel
theorem d_md_at_9 : decode b_md_at 9 = .ok (.iload_n 1, 1) := by decide +kernel
theorem d_md_at_10 : decode b_md_at 10 = .ok (.bipush 63, 2) := by decide +kernel
theorem d_md_at_12 : decode b_md_at 12 = .ok (.if_icmp .le 7, 3) := by decide +kernel
theorem d_md_at_15 : decode b_md_at 15 = .ok (.iconst (-1), 1) := by decide +kernel
theorem d_md_at_16 : decode b_md_at 16 = .ok (.goto 9, 3) := by decide +kernel
theorem d_md_at_19 : decode b_md_at 19 = .ok (.aload_n 0, 1) := by decide +kernel
theorem d_md_at_20 : decode b_md_at 20 = .ok (.getfield 7, 3) := by decide +kernel
theorem d_md_at_23 : decode b_md_at 23 = .ok (.iload_n 1, 1) := by decide +kernel
theorem d_md_at_24 : decode b_md_at 24 = .ok (.iaload, 1) := by decide +kernel
theorem d_md_at_25 : decode b_md_at 25 = .ok (.ireturn, 1) := by decide +kernel
theorem d_md_attacked_0 : decode b_md_attacked 0 = .ok (.aload_n 0, 1) := by decide +kernel
theorem d_md_attacked_1 : decode b_md_attacked 1 = .ok (.iload_n 1, 1) := by decide +kernel
theorem d_md_attacked_2 : decode b_md_attacked 2 = .ok (.ifCond .lt 18, 3) := by decide +kernel
theorem d_md_attacked_5 : decode b_md_attacked 5 = .ok (.iload_n 1, 1) := by decide +kernel
theorem d_md_attacked_6 : decode b_md_attacked 6 = .ok (.bipush 63, 2) := by decide +kernel
theorem d_md_attacked_8 : decode b_md_attacked 8 = .ok (.if_icmp .gt 12, 3) := by decide +kernel
theorem d_md_attacked_11 : decode b_md_attacked 11 = .ok (.iload_n 2, 1) := by decide +kernel
theorem d_md_attacked_12 : decode b_md_attacked 12 = .ok (.ifCond .lt 8, 3) := by decide +kernel
theorem d_md_attacked_15 : decode b_md_attacked 15 = .ok (.iload_n 2, 1) := by decide +kernel
theorem d_md_attacked_16 : decode b_md_attacked 16 = .ok (.iconst 1, 1) := by decide +kernel
theorem d_md_attacked_17 : decode b_md_attacked 17 = .ok (.if_icmp .le 7, 3) := by decide +kernel
theorem d_md_attacked_20 : decode b_md_attacked 20 = .ok (.iconst 1, 1) := by decide +kernel
theorem d_md_attacked_21 : decode b_md_attacked 21 = .ok (.goto 4, 3) := by decide +kernel
theorem d_md_attacked_24 : decode b_md_attacked 24 = .ok (.iconst 0, 1) := by decide +kernel
theorem d_md_attacked_25 : decode b_md_attacked 25 = .ok (.putfield 35, 3) := by decide +kernel
theorem d_md_attacked_28 : decode b_md_attacked 28 = .ok (.aload_n 0, 1) := by decide +kernel
theorem d_md_attacked_29 : decode b_md_attacked 29 = .ok (.getfield 35, 3) := by decide +kernel
theorem d_md_attacked_32 : decode b_md_attacked 32 = .ok (.ifCond .ne 19, 3) := by decide +kernel
theorem d_md_attacked_35 : decode b_md_attacked 35 = .ok (.aload_n 0, 1) := by decide +kernel
theorem d_md_attacked_36 : decode b_md_attacked 36 = .ok (.getfield 7, 3) := by decide +kernel
theorem d_md_attacked_39 : decode b_md_attacked 39 = .ok (.iload_n 1, 1) := by decide +kernel
theorem d_md_attacked_40 : decode b_md_attacked 40 = .ok (.iload_n 2, 1) := by decide +kernel
theorem d_md_attacked_41 : decode b_md_attacked 41 = .ok (.invokestatic 121, 3) := by decide +kernel
theorem d_md_attacked_44 : decode b_md_attacked 44 = .ok (.ifCond .eq 7, 3) := by decide +kernel
theorem d_md_attacked_47 : decode b_md_attacked 47 = .ok (.iconst 1, 1) := by decide +kernel
theorem d_md_attacked_48 : decode b_md_attacked 48 = .ok (.goto 4, 3) := by decide +kernel
theorem d_md_attacked_51 : decode b_md_attacked 51 = .ok (.iconst 0, 1) := by decide +kernel
theorem d_md_attacked_52 : decode b_md_attacked 52 = .ok (.ireturn, 1) := by decide +kernel
theorem d_md_fromOf_0 : decode b_md_fromOf 0 = .ok (.iload_n 0, 1) := by decide +kernel
theorem d_md_fromOf_1 : decode b_md_fromOf 1 = .ok (.bipush 63, 2) := by decide +kernel
theorem d_md_fromOf_3 : decode b_md_fromOf 3 = .ok (.iand, 1) := by decide +kernel
theorem d_md_fromOf_4 : decode b_md_fromOf 4 = .ok (.ireturn, 1) := by decide +kernel
theorem d_md_toOf_0 : decode b_md_toOf 0 = .ok (.iload_n 0, 1) := by decide +kernel
theorem d_md_toOf_1 : decode b_md_toOf 1 = .ok (.bipush 6, 2) := by decide +kernel
theorem d_md_toOf_3 : decode b_md_toOf 3 = .ok (.ishr, 1) := by decide +kernel
theorem d_md_toOf_4 : decode b_md_toOf 4 = .ok (.bipush 63, 2) := by decide +kernel
theorem d_md_toOf_6 : decode b_md_toOf 6 = .ok (.iand, 1) := by decide +kernel
theorem d_md_toOf_7 : decode b_md_toOf 7 = .ok (.ireturn, 1) := by decide +kernel
theorem d_md_place_0 : decode b_md_place 0 = .ok (.iconst (-1), 1) := by decide +kernel
theorem d_md_place_1 : decode b_md_place 1 = .ok (.istore_n 2, 1) := by decide +kernel
theorem d_md_place_2 : decode b_md_place 2 = .ok (.iconst 0, 1) := by decide +kernel
theorem d_md_place_3 : decode b_md_place 3 = .ok (.istore_n 3, 1) := by decide +kernel
theorem d_md_place_4 : decode b_md_place 4 = .ok (.iload_n 3, 1) := by decide +kernel
theorem d_md_place_5 : decode b_md_place 5 = .ok (.aload_n 0, 1) := by decide +kernel
theorem d_md_place_6 : decode b_md_place 6 = .ok (.getfield 133, 3) := by decide +kernel
theorem d_md_place_9 : decode b_md_place 9 = .ok (.if_icmp .ge 25, 3) := by decide +kernel
theorem d_md_place_12 : decode b_md_place 12 = .ok (.aload_n 0, 1) := by decide +kernel
theorem d_md_place_13 : decode b_md_place 13 = .ok (.getfield 23, 3) := by decide +kernel
theorem d_md_place_16 : decode b_md_place 16 = .ok (.iload_n 3, 1) := by decide +kernel
theorem d_md_place_17 : decode b_md_place 17 = .ok (.iaload, 1) := by decide +kernel
theorem d_md_place_18 : decode b_md_place 18 = .ok (.iload_n 1, 1) := by decide +kernel
theorem d_md_place_19 : decode b_md_place 19 = .ok (.if_icmp .ne 7, 3) := by decide +kernel
theorem d_md_place_22 : decode b_md_place 22 = .ok (.iload_n 3, 1) := by decide +kernel
theorem d_md_place_23 : decode b_md_place 23 = .ok (.goto 4, 3) := by decide +kernel
theorem d_md_place_26 : decode b_md_place 26 = .ok (.iload_n 2, 1) := by decide +kernel
theorem d_md_place_27 : decode b_md_place 27 = .ok (.istore_n 2, 1) := by decide +kernel
theorem d_md_place_28 : decode b_md_place 28 = .ok (.iinc 3 1, 3) := by decide +kernel
theorem d_md_place_31 : decode b_md_place 31 = .ok (.goto (-27), 3) := by decide +kernel
theorem d_md_place_34 : decode b_md_place 34 = .ok (.iload_n 2, 1) := by decide +kernel
theorem d_md_place_35 : decode b_md_place 35 = .ok (.ireturn, 1) := by decide +kernel
theorem d_md_isPawn_0 : decode b_md_isPawn 0 = .ok (.iload_n 1, 1) := by decide +kernel
theorem d_md_isPawn_1 : decode b_md_isPawn 1 = .ok (.iconst 1, 1) := by decide +kernel
theorem d_md_isPawn_2 : decode b_md_isPawn 2 = .ok (.if_icmp .eq 9, 3) := by decide +kernel
theorem d_md_isPawn_5 : decode b_md_isPawn 5 = .ok (.iload_n 1, 1) := by decide +kernel
theorem d_md_isPawn_6 : decode b_md_isPawn 6 = .ok (.bipush 7, 2) := by decide +kernel
theorem d_md_isPawn_8 : decode b_md_isPawn 8 = .ok (.if_icmp .ne 7, 3) := by decide +kernel
theorem d_md_isPawn_11 : decode b_md_isPawn 11 = .ok (.iconst 1, 1) := by decide +kernel
theorem d_md_isPawn_12 : decode b_md_isPawn 12 = .ok (.goto 4, 3) := by decide +kernel
theorem d_md_isPawn_15 : decode b_md_isPawn 15 = .ok (.iconst 0, 1) := by decide +kernel
theorem d_md_isPawn_16 : decode b_md_isPawn 16 = .ok (.ireturn, 1) := by decide +kernel
theorem d_md_tell_0 : decode b_md_tell 0 = .ok (.aload_n 0, 1) := by decide +kernel
theorem d_md_tell_1 : decode b_md_tell 1 = .ok (.iconst 0, 1) := by decide +kernel
theorem d_md_tell_2 : decode b_md_tell 2 = .ok (.putfield 35, 3) := by decide +kernel
theorem d_md_tell_5 : decode b_md_tell 5 = .ok (.iload_n 1, 1) := by decide +kernel
theorem d_md_tell_6 : decode b_md_tell 6 = .ok (.bipush 12, 2) := by decide +kernel
theorem d_md_tell_8 : decode b_md_tell 8 = .ok (.ishr, 1) := by decide +kernel
theorem d_md_tell_9 : decode b_md_tell 9 = .ok (.istore_n 3, 1) := by decide +kernel
theorem d_md_tell_10 : decode b_md_tell 10 = .ok (.iload_n 3, 1) := by decide +kernel
theorem d_md_tell_11 : decode b_md_tell 11 = .ok (.ifCond .lt 32, 3) := by decide +kernel
theorem d_md_tell_14 : decode b_md_tell 14 = .ok (.iload_n 3, 1) := by decide +kernel
theorem d_md_tell_15 : decode b_md_tell 15 = .ok (.iconst 1, 1) := by decide +kernel
theorem d_md_tell_16 : decode b_md_tell 16 = .ok (.if_icmp .eq 27, 3) := by decide +kernel
theorem d_md_tell_19 : decode b_md_tell 19 = .ok (.iload_n 3, 1) := by decide +kernel
theorem d_md_tell_20 : decode b_md_tell 20 = .ok (.iconst 5, 1) := by decide +kernel
theorem d_md_tell_21 : decode b_md_tell 21 = .ok (.if_icmp .gt 22, 3) := by decide +kernel
theorem d_md_tell_24 : decode b_md_tell 24 = .ok (.iload_n 2, 1) := by decide +kernel
theorem d_md_tell_25 : decode b_md_tell 25 = .ok (.ifCond .lt 18, 3) := by decide +kernel
theorem d_md_tell_28 : decode b_md_tell 28 = .ok (.iload_n 2, 1) := by decide +kernel
theorem d_md_tell_29 : decode b_md_tell 29 = .ok (.iconst 2, 1) := by decide +kernel
theorem d_md_tell_30 : decode b_md_tell 30 = .ok (.if_icmp .gt 13, 3) := by decide +kernel
theorem d_md_tell_33 : decode b_md_tell 33 = .ok (.aload_n 0, 1) := by decide +kernel
theorem d_md_tell_34 : decode b_md_tell 34 = .ok (.getfield 133, 3) := by decide +kernel
theorem d_md_tell_37 : decode b_md_tell 37 = .ok (.sipush 330, 3) := by decide +kernel
theorem d_md_tell_40 : decode b_md_tell 40 = .ok (.if_icmp .ne 5, 3) := by decide +kernel
theorem d_md_tell_43 : decode b_md_tell 43 = .ok (.iconst 0, 1) := by decide +kernel
theorem d_md_tell_44 : decode b_md_tell 44 = .ok (.ireturn, 1) := by decide +kernel
theorem d_md_tell_45 : decode b_md_tell 45 = .ok (.aload_n 0, 1) := by decide +kernel
theorem d_md_tell_46 : decode b_md_tell 46 = .ok (.getfield 7, 3) := by decide +kernel
theorem d_md_tell_49 : decode b_md_tell 49 = .ok (.iload_n 1, 1) := by decide +kernel
theorem d_md_tell_50 : decode b_md_tell 50 = .ok (.invokestatic 146, 3) := by decide +kernel
theorem d_md_tell_53 : decode b_md_tell 53 = .ok (.iaload, 1) := by decide +kernel
theorem d_md_tell_54 : decode b_md_tell 54 = .ok (.istore 4, 2) := by decide +kernel
theorem d_md_tell_56 : decode b_md_tell 56 = .ok (.iload_n 1, 1) := by decide +kernel
theorem d_md_tell_57 : decode b_md_tell 57 = .ok (.invokestatic 146, 3) := by decide +kernel
theorem d_md_tell_60 : decode b_md_tell 60 = .ok (.iload_n 1, 1) := by decide +kernel
theorem d_md_tell_61 : decode b_md_tell 61 = .ok (.invokestatic 149, 3) := by decide +kernel
theorem d_md_tell_64 : decode b_md_tell 64 = .ok (.if_icmp .eq 29, 3) := by decide +kernel
theorem d_md_tell_67 : decode b_md_tell 67 = .ok (.iload 4, 2) := by decide +kernel
theorem d_md_tell_69 : decode b_md_tell 69 = .ok (.ifCond .eq 24, 3) := by decide +kernel
theorem d_md_tell_72 : decode b_md_tell 72 = .ok (.iload_n 3, 1) := by decide +kernel
theorem d_md_tell_73 : decode b_md_tell 73 = .ok (.ifCond .le 12, 3) := by decide +kernel
theorem d_md_tell_76 : decode b_md_tell 76 = .ok (.aload_n 0, 1) := by decide +kernel
theorem d_md_tell_77 : decode b_md_tell 77 = .ok (.iload 4, 2) := by decide +kernel
theorem d_md_tell_79 : decode b_md_tell 79 = .ok (.invokevirtual 152, 3) := by decide +kernel
theorem d_md_tell_82 : decode b_md_tell 82 = .ok (.ifCond .eq 11, 3) := by decide +kernel
theorem d_md_tell_85 : decode b_md_tell 85 = .ok (.aload_n 0, 1) := by decide +kernel
theorem d_md_tell_86 : decode b_md_tell 86 = .ok (.iload_n 1, 1) := by decide +kernel
theorem d_md_tell_87 : decode b_md_tell 87 = .ok (.invokevirtual 155, 3) := by decide +kernel
theorem d_md_tell_90 : decode b_md_tell 90 = .ok (.ifCond .lt 5, 3) := by decide +kernel
theorem d_md_tell_93 : decode b_md_tell 93 = .ok (.iconst 0, 1) := by decide +kernel
theorem d_md_tell_94 : decode b_md_tell 94 = .ok (.ireturn, 1) := by decide +kernel
theorem d_md_tell_95 : decode b_md_tell 95 = .ok (.aload_n 0, 1) := by decide +kernel
theorem d_md_tell_96 : decode b_md_tell 96 = .ok (.getfield 23, 3) := by decide +kernel
theorem d_md_tell_99 : decode b_md_tell 99 = .ok (.aload_n 0, 1) := by decide +kernel
theorem d_md_tell_100 : decode b_md_tell 100 = .ok (.getfield 133, 3) := by decide +kernel
theorem d_md_tell_103 : decode b_md_tell 103 = .ok (.iload_n 1, 1) := by decide +kernel
theorem d_md_tell_104 : decode b_md_tell 104 = .ok (.iastore, 1) := by decide +kernel
theorem d_md_tell_105 : decode b_md_tell 105 = .ok (.aload_n 0, 1) := by decide +kernel
theorem d_md_tell_106 : decode b_md_tell 106 = .ok (.getfield 26, 3) := by decide +kernel
theorem d_md_tell_109 : decode b_md_tell 109 = .ok (.aload_n 0, 1) := by decide +kernel
theorem d_md_tell_110 : decode b_md_tell 110 = .ok (.getfield 133, 3) := by decide +kernel
theorem d_md_tell_113 : decode b_md_tell 113 = .ok (.iload_n 2, 1) := by decide +kernel
theorem d_md_tell_114 : decode b_md_tell 114 = .ok (.iastore, 1) := by decide +kernel
theorem d_md_tell_115 : decode b_md_tell 115 = .ok (.aload_n 0, 1) := by decide +kernel
theorem d_md_tell_116 : decode b_md_tell 116 = .ok (.dup, 1) := by decide +kernel
theorem d_md_tell_117 : decode b_md_tell 117 = .ok (.getfield 133, 3) := by decide +kernel
theorem d_md_tell_120 : decode b_md_tell 120 = .ok (.iconst 1, 1) := by decide +kernel
theorem d_md_tell_121 : decode b_md_tell 121 = .ok (.iadd, 1) := by decide +kernel
theorem d_md_tell_122 : decode b_md_tell 122 = .ok (.putfield 133, 3) := by decide +kernel
theorem d_md_tell_125 : decode b_md_tell 125 = .ok (.iconst 1, 1) := by decide +kernel
theorem d_md_tell_126 : decode b_md_tell 126 = .ok (.ireturn, 1) := by decide +kernel
theorem d_md_forget_0 : decode b_md_forget 0 = .ok (.aload_n 0, 1) := by decide +kernel
theorem d_md_forget_1 : decode b_md_forget 1 = .ok (.iconst 0, 1) := by decide +kernel
theorem d_md_forget_2 : decode b_md_forget 2 = .ok (.putfield 35, 3) := by decide +kernel
theorem d_md_forget_5 : decode b_md_forget 5 = .ok (.aload_n 0, 1) := by decide +kernel
theorem d_md_forget_6 : decode b_md_forget 6 = .ok (.iconst 0, 1) := by decide +kernel
theorem d_md_forget_7 : decode b_md_forget 7 = .ok (.putfield 133, 3) := by decide +kernel
theorem d_md_forget_10 : decode b_md_forget 10 = .ok (.return_, 1) := by decide +kernel
theorem d_md_say_0 : decode b_md_say 0 = .ok (.aload_n 0, 1) := by decide +kernel
theorem d_md_say_1 : decode b_md_say 1 = .ok (.getfield 32, 3) := by decide +kernel
theorem d_md_say_4 : decode b_md_say 4 = .ok (.aload_n 0, 1) := by decide +kernel
