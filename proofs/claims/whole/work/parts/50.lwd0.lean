abbrev b_lw_attacked : ByteArray := method_3_code
abbrev b_lw_spell : ByteArray := method_4_code
abbrev b_lw_law : ByteArray := code
theorem d_lw_attacked_0 : decode b_lw_attacked 0 = .ok (.aload_n 3, 1) := by decide +kernel
theorem d_lw_attacked_1 : decode b_lw_attacked 1 = .ok (.iconst 0, 1) := by decide +kernel
theorem d_lw_attacked_2 : decode b_lw_attacked 2 = .ok (.aload_n 0, 1) := by decide +kernel
theorem d_lw_attacked_3 : decode b_lw_attacked 3 = .ok (.iload_n 1, 1) := by decide +kernel
theorem d_lw_attacked_4 : decode b_lw_attacked 4 = .ok (.iload_n 2, 1) := by decide +kernel
theorem d_lw_attacked_5 : decode b_lw_attacked 5 = .ok (.invokevirtual 7, 3) := by decide +kernel
theorem d_lw_attacked_8 : decode b_lw_attacked 8 = .ok (.ifCond .eq 7, 3) := by decide +kernel
theorem d_lw_attacked_11 : decode b_lw_attacked 11 = .ok (.lconst 1, 1) := by decide +kernel
theorem d_lw_attacked_12 : decode b_lw_attacked 12 = .ok (.goto 4, 3) := by decide +kernel
theorem d_lw_attacked_15 : decode b_lw_attacked 15 = .ok (.lconst 0, 1) := by decide +kernel
theorem d_lw_attacked_16 : decode b_lw_attacked 16 = .ok (.lastore, 1) := by decide +kernel
theorem d_lw_attacked_17 : decode b_lw_attacked 17 = .ok (.goto 7, 3) := by decide +kernel
theorem d_lw_attacked_20 : decode b_lw_attacked 20 = .ok (.astore 4, 2) := by decide +kernel
theorem d_lw_attacked_22 : decode b_lw_attacked 22 = .ok (.iconst 1, 1) := by decide +kernel
theorem d_lw_attacked_23 : decode b_lw_attacked 23 = .ok (.ireturn, 1) := by decide +kernel
theorem d_lw_attacked_24 : decode b_lw_attacked 24 = .ok (.iconst 0, 1) := by decide +kernel
theorem d_lw_attacked_25 : decode b_lw_attacked 25 = .ok (.ireturn, 1) := by decide +kernel
theorem d_lw_spell_0 : decode b_lw_spell 0 = .ok (.aload_n 2, 1) := by decide +kernel
theorem d_lw_spell_1 : decode b_lw_spell 1 = .ok (.iconst 0, 1) := by decide +kernel
theorem d_lw_spell_2 : decode b_lw_spell 2 = .ok (.aload_n 0, 1) := by decide +kernel
theorem d_lw_spell_3 : decode b_lw_spell 3 = .ok (.iload_n 1, 1) := by decide +kernel
theorem d_lw_spell_4 : decode b_lw_spell 4 = .ok (.invokevirtual 15, 3) := by decide +kernel
theorem d_lw_spell_7 : decode b_lw_spell 7 = .ok (.i2l, 1) := by decide +kernel
theorem d_lw_spell_8 : decode b_lw_spell 8 = .ok (.lastore, 1) := by decide +kernel
theorem d_lw_spell_9 : decode b_lw_spell 9 = .ok (.goto 6, 3) := by decide +kernel
theorem d_lw_spell_12 : decode b_lw_spell 12 = .ok (.astore_n 3, 1) := by decide +kernel
theorem d_lw_spell_13 : decode b_lw_spell 13 = .ok (.iconst 1, 1) := by decide +kernel
theorem d_lw_spell_14 : decode b_lw_spell 14 = .ok (.ireturn, 1) := by decide +kernel
theorem d_lw_spell_15 : decode b_lw_spell 15 = .ok (.iconst 0, 1) := by decide +kernel
theorem d_lw_spell_16 : decode b_lw_spell 16 = .ok (.ireturn, 1) := by decide +kernel
theorem d_lw_law_0 : decode b_lw_law 0 = .ok (.new 8, 3) := by decide +kernel
theorem d_lw_law_3 : decode b_lw_law 3 = .ok (.dup, 1) := by decide +kernel
theorem d_lw_law_4 : decode b_lw_law 4 = .ok (.invokespecial 21, 3) := by decide +kernel
theorem d_lw_law_7 : decode b_lw_law 7 = .ok (.astore_n 1, 1) := by decide +kernel
theorem d_lw_law_8 : decode b_lw_law 8 = .ok (.new 22, 3) := by decide +kernel
theorem d_lw_law_11 : decode b_lw_law 11 = .ok (.dup, 1) := by decide +kernel
theorem d_lw_law_12 : decode b_lw_law 12 = .ok (.invokespecial 24, 3) := by decide +kernel
theorem d_lw_law_15 : decode b_lw_law 15 = .ok (.astore_n 2, 1) := by decide +kernel
theorem d_lw_law_16 : decode b_lw_law 16 = .ok (.iconst 1, 1) := by decide +kernel
theorem d_lw_law_17 : decode b_lw_law 17 = .ok (.newarray .long, 2) := by decide +kernel
theorem d_lw_law_19 : decode b_lw_law 19 = .ok (.astore_n 3, 1) := by decide +kernel
theorem d_lw_law_20 : decode b_lw_law 20 = .ok (.iconst 0, 1) := by decide +kernel
theorem d_lw_law_21 : decode b_lw_law 21 = .ok (.istore 4, 2) := by decide +kernel
theorem d_lw_law_23 : decode b_lw_law 23 = .ok (.iload 4, 2) := by decide +kernel
theorem d_lw_law_25 : decode b_lw_law 25 = .ok (.aload_n 0, 1) := by decide +kernel
theorem d_lw_law_26 : decode b_lw_law 26 = .ok (.arraylength, 1) := by decide +kernel
theorem d_lw_law_27 : decode b_lw_law 27 = .ok (.bipush 6, 2) := by decide +kernel
theorem d_lw_law_29 : decode b_lw_law 29 = .ok (.isub, 1) := by decide +kernel
theorem d_lw_law_30 : decode b_lw_law 30 = .ok (.if_icmp .gt 559, 3) := by decide +kernel
theorem d_lw_law_33 : decode b_lw_law 33 = .ok (.aload_n 0, 1) := by decide +kernel
theorem d_lw_law_34 : decode b_lw_law 34 = .ok (.iload 4, 2) := by decide +kernel
theorem d_lw_law_36 : decode b_lw_law 36 = .ok (.iaload, 1) := by decide +kernel
theorem d_lw_law_37 : decode b_lw_law 37 = .ok (.bipush 15, 2) := by decide +kernel
theorem d_lw_law_39 : decode b_lw_law 39 = .ok (.iand, 1) := by decide +kernel
theorem d_lw_law_40 : decode b_lw_law 40 = .ok (.tableswitch 543 0 13 #[72, 129, 140, 165, 178, 191, 228, 301, 326, 401, 438, 449, 505, 518], 72) := by decide +kernel
theorem d_lw_law_112 : decode b_lw_law 112 = .ok (.aload_n 1, 1) := by decide +kernel
theorem d_lw_law_113 : decode b_lw_law 113 = .ok (.aload_n 0, 1) := by decide +kernel
theorem d_lw_law_114 : decode b_lw_law 114 = .ok (.iload 4, 2) := by decide +kernel
theorem d_lw_law_116 : decode b_lw_law 116 = .ok (.iconst 1, 1) := by decide +kernel
theorem d_lw_law_117 : decode b_lw_law 117 = .ok (.iadd, 1) := by decide +kernel
theorem d_lw_law_118 : decode b_lw_law 118 = .ok (.iaload, 1) := by decide +kernel
theorem d_lw_law_119 : decode b_lw_law 119 = .ok (.i2l, 1) := by decide +kernel
theorem d_lw_law_120 : decode b_lw_law 120 = .ok (.bipush 32, 2) := by decide +kernel
theorem d_lw_law_122 : decode b_lw_law 122 = .ok (.lshl, 1) := by decide +kernel
theorem d_lw_law_123 : decode b_lw_law 123 = .ok (.aload_n 0, 1) := by decide +kernel
theorem d_lw_law_124 : decode b_lw_law 124 = .ok (.iload 4, 2) := by decide +kernel
theorem d_lw_law_126 : decode b_lw_law 126 = .ok (.iconst 2, 1) := by decide +kernel
theorem d_lw_law_127 : decode b_lw_law 127 = .ok (.iadd, 1) := by decide +kernel
theorem d_lw_law_128 : decode b_lw_law 128 = .ok (.iaload, 1) := by decide +kernel
theorem d_lw_law_129 : decode b_lw_law 129 = .ok (.i2l, 1) := by decide +kernel
theorem d_lw_law_130 : decode b_lw_law 130 = .ok (.ldc2_w 25, 3) := by decide +kernel
theorem d_lw_law_133 : decode b_lw_law 133 = .ok (.land, 1) := by decide +kernel
theorem d_lw_law_134 : decode b_lw_law 134 = .ok (.lor, 1) := by decide +kernel
theorem d_lw_law_135 : decode b_lw_law 135 = .ok (.invokevirtual 27, 3) := by decide +kernel
theorem d_lw_law_138 : decode b_lw_law 138 = .ok (.aload_n 2, 1) := by decide +kernel
theorem d_lw_law_139 : decode b_lw_law 139 = .ok (.aload_n 0, 1) := by decide +kernel
theorem d_lw_law_140 : decode b_lw_law 140 = .ok (.iload 4, 2) := by decide +kernel
theorem d_lw_law_142 : decode b_lw_law 142 = .ok (.iconst 1, 1) := by decide +kernel
theorem d_lw_law_143 : decode b_lw_law 143 = .ok (.iadd, 1) := by decide +kernel
theorem d_lw_law_144 : decode b_lw_law 144 = .ok (.iaload, 1) := by decide +kernel
theorem d_lw_law_145 : decode b_lw_law 145 = .ok (.i2l, 1) := by decide +kernel
theorem d_lw_law_146 : decode b_lw_law 146 = .ok (.bipush 32, 2) := by decide +kernel
theorem d_lw_law_148 : decode b_lw_law 148 = .ok (.lshl, 1) := by decide +kernel
theorem d_lw_law_149 : decode b_lw_law 149 = .ok (.aload_n 0, 1) := by decide +kernel
theorem d_lw_law_150 : decode b_lw_law 150 = .ok (.iload 4, 2) := by decide +kernel
theorem d_lw_law_152 : decode b_lw_law 152 = .ok (.iconst 2, 1) := by decide +kernel
theorem d_lw_law_153 : decode b_lw_law 153 = .ok (.iadd, 1) := by decide +kernel
theorem d_lw_law_154 : decode b_lw_law 154 = .ok (.iaload, 1) := by decide +kernel
theorem d_lw_law_155 : decode b_lw_law 155 = .ok (.i2l, 1) := by decide +kernel
theorem d_lw_law_156 : decode b_lw_law 156 = .ok (.ldc2_w 25, 3) := by decide +kernel
theorem d_lw_law_159 : decode b_lw_law 159 = .ok (.land, 1) := by decide +kernel
theorem d_lw_law_160 : decode b_lw_law 160 = .ok (.lor, 1) := by decide +kernel
theorem d_lw_law_161 : decode b_lw_law 161 = .ok (.invokevirtual 31, 3) := by decide +kernel
theorem d_lw_law_164 : decode b_lw_law 164 = .ok (.if_icmp .eq 419, 3) := by decide +kernel
theorem d_lw_law_167 : decode b_lw_law 167 = .ok (.iconst 0, 1) := by decide +kernel
theorem d_lw_law_168 : decode b_lw_law 168 = .ok (.ireturn, 1) := by decide +kernel
theorem d_lw_law_169 : decode b_lw_law 169 = .ok (.aload_n 1, 1) := by decide +kernel
