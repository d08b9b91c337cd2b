theorem d_rd_readRank_82 : decode b_rd_readRank 82 = .ok (.iload_n 3, 1) := by decide +kernel
theorem d_rd_readRank_83 : decode b_rd_readRank 83 = .ok (.invokestatic 71, 3) := by decide +kernel
theorem d_rd_readRank_86 : decode b_rd_readRank 86 = .ok (.iload 8, 2) := by decide +kernel
theorem d_rd_readRank_88 : decode b_rd_readRank 88 = .ok (.invokevirtual 75, 3) := by decide +kernel
theorem d_rd_readRank_91 : decode b_rd_readRank 91 = .ok (.iload 4, 2) := by decide +kernel
theorem d_rd_readRank_93 : decode b_rd_readRank 93 = .ok (.iload 8, 2) := by decide +kernel
theorem d_rd_readRank_95 : decode b_rd_readRank 95 = .ok (.ifCond .le 7, 3) := by decide +kernel
theorem d_rd_readRank_98 : decode b_rd_readRank 98 = .ok (.iconst 1, 1) := by decide +kernel
theorem d_rd_readRank_99 : decode b_rd_readRank 99 = .ok (.goto 5, 3) := by decide +kernel
theorem d_rd_readRank_102 : decode b_rd_readRank 102 = .ok (.iload 7, 2) := by decide +kernel
theorem d_rd_readRank_104 : decode b_rd_readRank 104 = .ok (.iadd, 1) := by decide +kernel
theorem d_rd_readRank_105 : decode b_rd_readRank 105 = .ok (.istore 4, 2) := by decide +kernel
theorem d_rd_readRank_107 : decode b_rd_readRank 107 = .ok (.iload 8, 2) := by decide +kernel
theorem d_rd_readRank_109 : decode b_rd_readRank 109 = .ok (.ifCond .ne 7, 3) := by decide +kernel
theorem d_rd_readRank_112 : decode b_rd_readRank 112 = .ok (.iconst 1, 1) := by decide +kernel
theorem d_rd_readRank_113 : decode b_rd_readRank 113 = .ok (.goto 4, 3) := by decide +kernel
theorem d_rd_readRank_116 : decode b_rd_readRank 116 = .ok (.iconst 0, 1) := by decide +kernel
theorem d_rd_readRank_117 : decode b_rd_readRank 117 = .ok (.istore 5, 2) := by decide +kernel
theorem d_rd_readRank_119 : decode b_rd_readRank 119 = .ok (.aload_n 0, 1) := by decide +kernel
theorem d_rd_readRank_120 : decode b_rd_readRank 120 = .ok (.dup, 1) := by decide +kernel
theorem d_rd_readRank_121 : decode b_rd_readRank 121 = .ok (.getfield 9, 3) := by decide +kernel
theorem d_rd_readRank_124 : decode b_rd_readRank 124 = .ok (.iconst 1, 1) := by decide +kernel
theorem d_rd_readRank_125 : decode b_rd_readRank 125 = .ok (.iadd, 1) := by decide +kernel
theorem d_rd_readRank_126 : decode b_rd_readRank 126 = .ok (.putfield 9, 3) := by decide +kernel
theorem d_rd_readRank_129 : decode b_rd_readRank 129 = .ok (.iinc 6 1, 3) := by decide +kernel
theorem d_rd_readRank_132 : decode b_rd_readRank 132 = .ok (.goto (-123), 3) := by decide +kernel
theorem d_rd_readRank_135 : decode b_rd_readRank 135 = .ok (.iload 4, 2) := by decide +kernel
theorem d_rd_readRank_137 : decode b_rd_readRank 137 = .ok (.bipush 8, 2) := by decide +kernel
theorem d_rd_readRank_139 : decode b_rd_readRank 139 = .ok (.if_icmp .ne 7, 3) := by decide +kernel
theorem d_rd_readRank_142 : decode b_rd_readRank 142 = .ok (.iconst 1, 1) := by decide +kernel
theorem d_rd_readRank_143 : decode b_rd_readRank 143 = .ok (.goto 4, 3) := by decide +kernel
theorem d_rd_readRank_146 : decode b_rd_readRank 146 = .ok (.iconst 0, 1) := by decide +kernel
theorem d_rd_readRank_147 : decode b_rd_readRank 147 = .ok (.ireturn, 1) := by decide +kernel
theorem d_rd_readRanks_0 : decode b_rd_readRanks 0 = .ok (.bipush 7, 2) := by decide +kernel
theorem d_rd_readRanks_2 : decode b_rd_readRanks 2 = .ok (.istore_n 3, 1) := by decide +kernel
theorem d_rd_readRanks_3 : decode b_rd_readRanks 3 = .ok (.iload_n 3, 1) := by decide +kernel
theorem d_rd_readRanks_4 : decode b_rd_readRanks 4 = .ok (.ifCond .lt 37, 3) := by decide +kernel
theorem d_rd_readRanks_7 : decode b_rd_readRanks 7 = .ok (.aload_n 0, 1) := by decide +kernel
theorem d_rd_readRanks_8 : decode b_rd_readRanks 8 = .ok (.aload_n 1, 1) := by decide +kernel
theorem d_rd_readRanks_9 : decode b_rd_readRanks 9 = .ok (.aload_n 2, 1) := by decide +kernel
theorem d_rd_readRanks_10 : decode b_rd_readRanks 10 = .ok (.iload_n 3, 1) := by decide +kernel
theorem d_rd_readRanks_11 : decode b_rd_readRanks 11 = .ok (.invokevirtual 57, 3) := by decide +kernel
theorem d_rd_readRanks_14 : decode b_rd_readRanks 14 = .ok (.ifCond .ne 5, 3) := by decide +kernel
theorem d_rd_readRanks_17 : decode b_rd_readRanks 17 = .ok (.iconst 0, 1) := by decide +kernel
theorem d_rd_readRanks_18 : decode b_rd_readRanks 18 = .ok (.ireturn, 1) := by decide +kernel
theorem d_rd_readRanks_19 : decode b_rd_readRanks 19 = .ok (.iload_n 3, 1) := by decide +kernel
theorem d_rd_readRanks_20 : decode b_rd_readRanks 20 = .ok (.ifCond .le 15, 3) := by decide +kernel
theorem d_rd_readRanks_23 : decode b_rd_readRanks 23 = .ok (.aload_n 0, 1) := by decide +kernel
theorem d_rd_readRanks_24 : decode b_rd_readRanks 24 = .ok (.aload_n 2, 1) := by decide +kernel
theorem d_rd_readRanks_25 : decode b_rd_readRanks 25 = .ok (.bipush 47, 2) := by decide +kernel
theorem d_rd_readRanks_27 : decode b_rd_readRanks 27 = .ok (.invokevirtual 24, 3) := by decide +kernel
theorem d_rd_readRanks_30 : decode b_rd_readRanks 30 = .ok (.ifCond .ne 5, 3) := by decide +kernel
theorem d_rd_readRanks_33 : decode b_rd_readRanks 33 = .ok (.iconst 0, 1) := by decide +kernel
theorem d_rd_readRanks_34 : decode b_rd_readRanks 34 = .ok (.ireturn, 1) := by decide +kernel
theorem d_rd_readRanks_35 : decode b_rd_readRanks 35 = .ok (.iinc 3 (-1), 3) := by decide +kernel
theorem d_rd_readRanks_38 : decode b_rd_readRanks 38 = .ok (.goto (-35), 3) := by decide +kernel
theorem d_rd_readRanks_41 : decode b_rd_readRanks 41 = .ok (.iconst 1, 1) := by decide +kernel
theorem d_rd_readRanks_42 : decode b_rd_readRanks 42 = .ok (.ireturn, 1) := by decide +kernel
theorem d_rd_readInto_0 : decode b_rd_readInto 0 = .ok (.aload_n 0, 1) := by decide +kernel
theorem d_rd_readInto_1 : decode b_rd_readInto 1 = .ok (.iconst 0, 1) := by decide +kernel
theorem d_rd_readInto_2 : decode b_rd_readInto 2 = .ok (.putfield 9, 3) := by decide +kernel
theorem d_rd_readInto_5 : decode b_rd_readInto 5 = .ok (.aload_n 1, 1) := by decide +kernel
theorem d_rd_readInto_6 : decode b_rd_readInto 6 = .ok (.invokevirtual 15, 3) := by decide +kernel
theorem d_rd_readInto_9 : decode b_rd_readInto 9 = .ok (.aload_n 0, 1) := by decide +kernel
theorem d_rd_readInto_10 : decode b_rd_readInto 10 = .ok (.aload_n 1, 1) := by decide +kernel
theorem d_rd_readInto_11 : decode b_rd_readInto 11 = .ok (.aload_n 2, 1) := by decide +kernel
theorem d_rd_readInto_12 : decode b_rd_readInto 12 = .ok (.invokevirtual 20, 3) := by decide +kernel
theorem d_rd_readInto_15 : decode b_rd_readInto 15 = .ok (.ifCond .eq 13, 3) := by decide +kernel
theorem d_rd_readInto_18 : decode b_rd_readInto 18 = .ok (.aload_n 0, 1) := by decide +kernel
theorem d_rd_readInto_19 : decode b_rd_readInto 19 = .ok (.aload_n 2, 1) := by decide +kernel
theorem d_rd_readInto_20 : decode b_rd_readInto 20 = .ok (.bipush 32, 2) := by decide +kernel
theorem d_rd_readInto_22 : decode b_rd_readInto 22 = .ok (.invokevirtual 24, 3) := by decide +kernel
theorem d_rd_readInto_25 : decode b_rd_readInto 25 = .ok (.ifCond .ne 5, 3) := by decide +kernel
theorem d_rd_readInto_28 : decode b_rd_readInto 28 = .ok (.iconst 1, 1) := by decide +kernel
theorem d_rd_readInto_29 : decode b_rd_readInto 29 = .ok (.ireturn, 1) := by decide +kernel
theorem d_rd_readInto_30 : decode b_rd_readInto 30 = .ok (.aload_n 0, 1) := by decide +kernel
theorem d_rd_readInto_31 : decode b_rd_readInto 31 = .ok (.aload_n 1, 1) := by decide +kernel
theorem d_rd_readInto_32 : decode b_rd_readInto 32 = .ok (.aload_n 2, 1) := by decide +kernel
theorem d_rd_readInto_33 : decode b_rd_readInto 33 = .ok (.invokevirtual 28, 3) := by decide +kernel
theorem d_rd_readInto_36 : decode b_rd_readInto 36 = .ok (.ifCond .eq 13, 3) := by decide +kernel
theorem d_rd_readInto_39 : decode b_rd_readInto 39 = .ok (.aload_n 0, 1) := by decide +kernel
theorem d_rd_readInto_40 : decode b_rd_readInto 40 = .ok (.aload_n 2, 1) := by decide +kernel
theorem d_rd_readInto_41 : decode b_rd_readInto 41 = .ok (.bipush 32, 2) := by decide +kernel
theorem d_rd_readInto_43 : decode b_rd_readInto 43 = .ok (.invokevirtual 24, 3) := by decide +kernel
theorem d_rd_readInto_46 : decode b_rd_readInto 46 = .ok (.ifCond .ne 5, 3) := by decide +kernel
theorem d_rd_readInto_49 : decode b_rd_readInto 49 = .ok (.iconst 2, 1) := by decide +kernel
theorem d_rd_readInto_50 : decode b_rd_readInto 50 = .ok (.ireturn, 1) := by decide +kernel
theorem d_rd_readInto_51 : decode b_rd_readInto 51 = .ok (.aload_n 0, 1) := by decide +kernel
theorem d_rd_readInto_52 : decode b_rd_readInto 52 = .ok (.aload_n 1, 1) := by decide +kernel
theorem d_rd_readInto_53 : decode b_rd_readInto 53 = .ok (.aload_n 2, 1) := by decide +kernel
theorem d_rd_readInto_54 : decode b_rd_readInto 54 = .ok (.invokevirtual 31, 3) := by decide +kernel
theorem d_rd_readInto_57 : decode b_rd_readInto 57 = .ok (.ifCond .eq 13, 3) := by decide +kernel
theorem d_rd_readInto_60 : decode b_rd_readInto 60 = .ok (.aload_n 0, 1) := by decide +kernel
theorem d_rd_readInto_61 : decode b_rd_readInto 61 = .ok (.aload_n 2, 1) := by decide +kernel
theorem d_rd_readInto_62 : decode b_rd_readInto 62 = .ok (.bipush 32, 2) := by decide +kernel
theorem d_rd_readInto_64 : decode b_rd_readInto 64 = .ok (.invokevirtual 24, 3) := by decide +kernel
theorem d_rd_readInto_67 : decode b_rd_readInto 67 = .ok (.ifCond .ne 5, 3) := by decide +kernel
theorem d_rd_readInto_70 : decode b_rd_readInto 70 = .ok (.iconst 3, 1) := by decide +kernel
theorem d_rd_readInto_71 : decode b_rd_readInto 71 = .ok (.ireturn, 1) := by decide +kernel
theorem d_rd_readInto_72 : decode b_rd_readInto 72 = .ok (.aload_n 0, 1) := by decide +kernel
theorem d_rd_readInto_73 : decode b_rd_readInto 73 = .ok (.aload_n 1, 1) := by decide +kernel
theorem d_rd_readInto_74 : decode b_rd_readInto 74 = .ok (.aload_n 2, 1) := by decide +kernel
theorem d_rd_readInto_75 : decode b_rd_readInto 75 = .ok (.invokevirtual 34, 3) := by decide +kernel
theorem d_rd_readInto_78 : decode b_rd_readInto 78 = .ok (.ifCond .eq 13, 3) := by decide +kernel
theorem d_rd_readInto_81 : decode b_rd_readInto 81 = .ok (.aload_n 0, 1) := by decide +kernel
theorem d_rd_readInto_82 : decode b_rd_readInto 82 = .ok (.aload_n 2, 1) := by decide +kernel
theorem d_rd_readInto_83 : decode b_rd_readInto 83 = .ok (.bipush 32, 2) := by decide +kernel
theorem d_rd_readInto_85 : decode b_rd_readInto 85 = .ok (.invokevirtual 24, 3) := by decide +kernel
theorem d_rd_readInto_88 : decode b_rd_readInto 88 = .ok (.ifCond .ne 5, 3) := by decide +kernel
theorem d_rd_readInto_91 : decode b_rd_readInto 91 = .ok (.iconst 4, 1) := by decide +kernel
theorem d_rd_readInto_92 : decode b_rd_readInto 92 = .ok (.ireturn, 1) := by decide +kernel
theorem d_rd_readInto_93 : decode b_rd_readInto 93 = .ok (.aload_n 1, 1) := by decide +kernel
theorem d_rd_readInto_94 : decode b_rd_readInto 94 = .ok (.aload_n 0, 1) := by decide +kernel
theorem d_rd_readInto_95 : decode b_rd_readInto 95 = .ok (.aload_n 2, 1) := by decide +kernel
theorem d_rd_readInto_96 : decode b_rd_readInto 96 = .ok (.sipush 999, 3) := by decide +kernel
theorem d_rd_readInto_99 : decode b_rd_readInto 99 = .ok (.invokevirtual 37, 3) := by decide +kernel
theorem d_rd_readInto_102 : decode b_rd_readInto 102 = .ok (.putfield 41, 3) := by decide +kernel
theorem d_rd_readInto_105 : decode b_rd_readInto 105 = .ok (.aload_n 1, 1) := by decide +kernel
theorem d_rd_readInto_106 : decode b_rd_readInto 106 = .ok (.getfield 41, 3) := by decide +kernel
theorem d_rd_readInto_109 : decode b_rd_readInto 109 = .ok (.iconst (-1), 1) := by decide +kernel
theorem d_rd_readInto_110 : decode b_rd_readInto 110 = .ok (.if_icmp .eq 13, 3) := by decide +kernel
theorem d_rd_readInto_113 : decode b_rd_readInto 113 = .ok (.aload_n 0, 1) := by decide +kernel
theorem d_rd_readInto_114 : decode b_rd_readInto 114 = .ok (.aload_n 2, 1) := by decide +kernel
theorem d_rd_readInto_115 : decode b_rd_readInto 115 = .ok (.bipush 32, 2) := by decide +kernel
theorem d_rd_readInto_117 : decode b_rd_readInto 117 = .ok (.invokevirtual 24, 3) := by decide +kernel
theorem d_rd_readInto_120 : decode b_rd_readInto 120 = .ok (.ifCond .ne 5, 3) := by decide +kernel
theorem d_rd_readInto_123 : decode b_rd_readInto 123 = .ok (.iconst 5, 1) := by decide +kernel
theorem d_rd_readInto_124 : decode b_rd_readInto 124 = .ok (.ireturn, 1) := by decide +kernel
theorem d_rd_readInto_125 : decode b_rd_readInto 125 = .ok (.aload_n 1, 1) := by decide +kernel
theorem d_rd_readInto_126 : decode b_rd_readInto 126 = .ok (.aload_n 0, 1) := by decide +kernel
theorem d_rd_readInto_127 : decode b_rd_readInto 127 = .ok (.aload_n 2, 1) := by decide +kernel
theorem d_rd_readInto_128 : decode b_rd_readInto 128 = .ok (.sipush 9999, 3) := by decide +kernel
theorem d_rd_readInto_131 : decode b_rd_readInto 131 = .ok (.invokevirtual 37, 3) := by decide +kernel
theorem d_rd_readInto_134 : decode b_rd_readInto 134 = .ok (.putfield 44, 3) := by decide +kernel
theorem d_rd_readInto_137 : decode b_rd_readInto 137 = .ok (.aload_n 1, 1) := by decide +kernel
theorem d_rd_readInto_138 : decode b_rd_readInto 138 = .ok (.getfield 44, 3) := by decide +kernel
theorem d_rd_readInto_141 : decode b_rd_readInto 141 = .ok (.iconst 1, 1) := by decide +kernel
theorem d_rd_readInto_142 : decode b_rd_readInto 142 = .ok (.if_icmp .lt 14, 3) := by decide +kernel
theorem d_rd_readInto_145 : decode b_rd_readInto 145 = .ok (.aload_n 0, 1) := by decide +kernel
theorem d_rd_readInto_146 : decode b_rd_readInto 146 = .ok (.getfield 9, 3) := by decide +kernel
theorem d_rd_readInto_149 : decode b_rd_readInto 149 = .ok (.aload_n 2, 1) := by decide +kernel
theorem d_rd_readInto_150 : decode b_rd_readInto 150 = .ok (.invokevirtual 47, 3) := by decide +kernel
theorem d_rd_readInto_153 : decode b_rd_readInto 153 = .ok (.if_icmp .eq 8, 3) := by decide +kernel
theorem d_rd_readInto_156 : decode b_rd_readInto 156 = .ok (.bipush 6, 2) := by decide +kernel
theorem d_rd_readInto_158 : decode b_rd_readInto 158 = .ok (.goto 4, 3) := by decide +kernel
theorem d_rd_readInto_161 : decode b_rd_readInto 161 = .ok (.iconst 0, 1) := by decide +kernel
theorem d_rd_readInto_162 : decode b_rd_readInto 162 = .ok (.ireturn, 1) := by decide +kernel
theorem d_td_count_0 : decode b_td_count 0 = .ok (.aload_n 0, 1) := by decide +kernel
theorem d_td_count_1 : decode b_td_count 1 = .ok (.getfield 18, 3) := by decide +kernel
theorem d_td_count_4 : decode b_td_count 4 = .ok (.ireturn, 1) := by decide +kernel
theorem d_td_clear_0 : decode b_td_clear 0 = .ok (.aload_n 0, 1) := by decide +kernel
theorem d_td_clear_1 : decode b_td_clear 1 = .ok (.iconst 0, 1) := by decide +kernel
theorem d_td_clear_2 : decode b_td_clear 2 = .ok (.putfield 18, 3) := by decide +kernel
theorem d_td_clear_5 : decode b_td_clear 5 = .ok (.return_, 1) := by decide +kernel
theorem d_td_has_0 : decode b_td_has 0 = .ok (.iload_n 1, 1) := by decide +kernel
theorem d_td_has_1 : decode b_td_has 1 = .ok (.ifCond .lt 22, 3) := by decide +kernel
theorem d_td_has_4 : decode b_td_has 4 = .ok (.iload_n 1, 1) := by decide +kernel
theorem d_td_has_5 : decode b_td_has 5 = .ok (.aload_n 0, 1) := by decide +kernel
theorem d_td_has_6 : decode b_td_has 6 = .ok (.getfield 18, 3) := by decide +kernel
theorem d_td_has_9 : decode b_td_has 9 = .ok (.if_icmp .ge 14, 3) := by decide +kernel
theorem d_td_has_12 : decode b_td_has 12 = .ok (.iload_n 1, 1) := by decide +kernel
theorem d_td_has_13 : decode b_td_has 13 = .ok (.sipush 330, 3) := by decide +kernel
theorem d_td_has_16 : decode b_td_has 16 = .ok (.if_icmp .ge 7, 3) := by decide +kernel
theorem d_td_has_19 : decode b_td_has 19 = .ok (.iconst 1, 1) := by decide +kernel
theorem d_td_has_20 : decode b_td_has 20 = .ok (.goto 4, 3) := by decide +kernel
theorem d_td_has_23 : decode b_td_has 23 = .ok (.iconst 0, 1) := by decide +kernel
theorem d_td_has_24 : decode b_td_has 24 = .ok (.ireturn, 1) := by decide +kernel
theorem d_td_move_0 : decode b_td_move 0 = .ok (.aload_n 0, 1) := by decide +kernel
theorem d_td_move_1 : decode b_td_move 1 = .ok (.iload_n 1, 1) := by decide +kernel
theorem d_td_move_2 : decode b_td_move 2 = .ok (.invokevirtual 22, 3) := by decide +kernel
theorem d_td_move_5 : decode b_td_move 5 = .ok (.ifCond .eq 12, 3) := by decide +kernel
theorem d_td_move_8 : decode b_td_move 8 = .ok (.aload_n 0, 1) := by decide +kernel
theorem d_td_move_9 : decode b_td_move 9 = .ok (.getfield 9, 3) := by decide +kernel
theorem d_td_move_12 : decode b_td_move 12 = .ok (.iload_n 1, 1) := by decide +kernel
theorem d_td_move_13 : decode b_td_move 13 = .ok (.iaload, 1) := by decide +kernel
theorem d_td_move_14 : decode b_td_move 14 = .ok (.goto 4, 3) := by decide +kernel
theorem d_td_move_17 : decode b_td_move 17 = .ok (.iconst (-1), 1) := by decide +kernel
theorem d_td_move_18 : decode b_td_move 18 = .ok (.ireturn, 1) := by decide +kernel
theorem d_td_sign_0 : decode b_td_sign 0 = .ok (.aload_n 0, 1) := by decide +kernel
theorem d_td_sign_1 : decode b_td_sign 1 = .ok (.iload_n 1, 1) := by decide +kernel
theorem d_td_sign_2 : decode b_td_sign 2 = .ok (.invokevirtual 22, 3) := by decide +kernel
theorem d_td_sign_5 : decode b_td_sign 5 = .ok (.ifCond .eq 12, 3) := by decide +kernel
theorem d_td_sign_8 : decode b_td_sign 8 = .ok (.aload_n 0, 1) := by decide +kernel
theorem d_td_sign_9 : decode b_td_sign 9 = .ok (.getfield 15, 3) := by decide +kernel
theorem d_td_sign_12 : decode b_td_sign 12 = .ok (.iload_n 1, 1) := by decide +kernel
theorem d_td_sign_13 : decode b_td_sign 13 = .ok (.iaload, 1) := by decide +kernel
theorem d_td_sign_14 : decode b_td_sign 14 = .ok (.goto 4, 3) := by decide +kernel
theorem d_td_sign_17 : decode b_td_sign 17 = .ok (.iconst (-1), 1) := by decide +kernel
theorem d_td_sign_18 : decode b_td_sign 18 = .ok (.ireturn, 1) := by decide +kernel
theorem d_td_indexOf_0 : decode b_td_indexOf 0 = .ok (.iconst 0, 1) := by decide +kernel
theorem d_td_indexOf_1 : decode b_td_indexOf 1 = .ok (.istore_n 2, 1) := by decide +kernel
theorem d_td_indexOf_2 : decode b_td_indexOf 2 = .ok (.iload_n 2, 1) := by decide +kernel
theorem d_td_indexOf_3 : decode b_td_indexOf 3 = .ok (.aload_n 0, 1) := by decide +kernel
theorem d_td_indexOf_4 : decode b_td_indexOf 4 = .ok (.getfield 18, 3) := by decide +kernel
theorem d_td_indexOf_7 : decode b_td_indexOf 7 = .ok (.if_icmp .ge 28, 3) := by decide +kernel
theorem d_td_indexOf_10 : decode b_td_indexOf 10 = .ok (.iload_n 2, 1) := by decide +kernel
theorem d_td_indexOf_11 : decode b_td_indexOf 11 = .ok (.sipush 330, 3) := by decide +kernel
theorem d_td_indexOf_14 : decode b_td_indexOf 14 = .ok (.if_icmp .ge 21, 3) := by decide +kernel
theorem d_td_indexOf_17 : decode b_td_indexOf 17 = .ok (.aload_n 0, 1) := by decide +kernel
theorem d_td_indexOf_18 : decode b_td_indexOf 18 = .ok (.getfield 9, 3) := by decide +kernel
theorem d_td_indexOf_21 : decode b_td_indexOf 21 = .ok (.iload_n 2, 1) := by decide +kernel
theorem d_td_indexOf_22 : decode b_td_indexOf 22 = .ok (.iaload, 1) := by decide +kernel
theorem d_td_indexOf_23 : decode b_td_indexOf 23 = .ok (.iload_n 1, 1) := by decide +kernel
theorem d_td_indexOf_24 : decode b_td_indexOf 24 = .ok (.if_icmp .ne 5, 3) := by decide +kernel
theorem d_td_indexOf_27 : decode b_td_indexOf 27 = .ok (.iload_n 2, 1) := by decide +kernel
theorem d_td_indexOf_28 : decode b_td_indexOf 28 = .ok (.ireturn, 1) := by decide +kernel
theorem d_td_indexOf_29 : decode b_td_indexOf 29 = .ok (.iinc 2 1, 3) := by decide +kernel
theorem d_td_indexOf_32 : decode b_td_indexOf 32 = .ok (.goto (-30), 3) := by decide +kernel
theorem d_td_indexOf_35 : decode b_td_indexOf 35 = .ok (.iconst (-1), 1) := by decide +kernel
theorem d_td_indexOf_36 : decode b_td_indexOf 36 = .ok (.ireturn, 1) := by decide +kernel
theorem d_td_take_0 : decode b_td_take 0 = .ok (.aload_n 0, 1) := by decide +kernel
theorem d_td_take_1 : decode b_td_take 1 = .ok (.getfield 18, 3) := by decide +kernel
theorem d_td_take_4 : decode b_td_take 4 = .ok (.sipush 330, 3) := by decide +kernel
theorem d_td_take_7 : decode b_td_take 7 = .ok (.if_icmp .ge 12, 3) := by decide +kernel
theorem d_td_take_10 : decode b_td_take 10 = .ok (.aload_n 0, 1) := by decide +kernel
theorem d_td_take_11 : decode b_td_take 11 = .ok (.iload_n 1, 1) := by decide +kernel
theorem d_td_take_12 : decode b_td_take 12 = .ok (.invokevirtual 26, 3) := by decide +kernel
theorem d_td_take_15 : decode b_td_take 15 = .ok (.iconst (-1), 1) := by decide +kernel
theorem d_td_take_16 : decode b_td_take 16 = .ok (.if_icmp .eq 5, 3) := by decide +kernel
theorem d_td_take_19 : decode b_td_take 19 = .ok (.iconst 0, 1) := by decide +kernel
theorem d_td_take_20 : decode b_td_take 20 = .ok (.ireturn, 1) := by decide +kernel
theorem d_td_take_21 : decode b_td_take 21 = .ok (.aload_n 0, 1) := by decide +kernel
theorem d_td_take_22 : decode b_td_take 22 = .ok (.getfield 9, 3) := by decide +kernel
theorem d_td_take_25 : decode b_td_take 25 = .ok (.aload_n 0, 1) := by decide +kernel
theorem d_td_take_26 : decode b_td_take 26 = .ok (.getfield 18, 3) := by decide +kernel
theorem d_td_take_29 : decode b_td_take 29 = .ok (.iload_n 1, 1) := by decide +kernel
theorem d_td_take_30 : decode b_td_take 30 = .ok (.iastore, 1) := by decide +kernel
theorem d_td_take_31 : decode b_td_take 31 = .ok (.aload_n 0, 1) := by decide +kernel
theorem d_td_take_32 : decode b_td_take 32 = .ok (.getfield 15, 3) := by decide +kernel
theorem d_td_take_35 : decode b_td_take 35 = .ok (.aload_n 0, 1) := by decide +kernel
theorem d_td_take_36 : decode b_td_take 36 = .ok (.getfield 18, 3) := by decide +kernel
theorem d_td_take_39 : decode b_td_take 39 = .ok (.iload_n 2, 1) := by decide +kernel
theorem d_td_take_40 : decode b_td_take 40 = .ok (.iastore, 1) := by decide +kernel
theorem d_td_take_41 : decode b_td_take 41 = .ok (.aload_n 0, 1) := by decide +kernel
theorem d_td_take_42 : decode b_td_take 42 = .ok (.dup, 1) := by decide +kernel
theorem d_td_take_43 : decode b_td_take 43 = .ok (.getfield 18, 3) := by decide +kernel
theorem d_td_take_46 : decode b_td_take 46 = .ok (.iconst 1, 1) := by decide +kernel
theorem d_td_take_47 : decode b_td_take 47 = .ok (.iadd, 1) := by decide +kernel
theorem d_td_take_48 : decode b_td_take 48 = .ok (.putfield 18, 3) := by decide +kernel
theorem d_td_take_51 : decode b_td_take 51 = .ok (.iconst 1, 1) := by decide +kernel
theorem d_td_take_52 : decode b_td_take 52 = .ok (.ireturn, 1) := by decide +kernel
theorem d_td_isRival_0 : decode b_td_isRival 0 = .ok (.iload_n 0, 1) := by decide +kernel
theorem d_td_isRival_1 : decode b_td_isRival 1 = .ok (.invokestatic 69, 3) := by decide +kernel
theorem d_td_isRival_4 : decode b_td_isRival 4 = .ok (.iload_n 1, 1) := by decide +kernel
theorem d_td_isRival_5 : decode b_td_isRival 5 = .ok (.invokestatic 69, 3) := by decide +kernel
theorem d_td_isRival_8 : decode b_td_isRival 8 = .ok (.if_icmp .ne 37, 3) := by decide +kernel
theorem d_td_isRival_11 : decode b_td_isRival 11 = .ok (.iload_n 0, 1) := by decide +kernel
theorem d_td_isRival_12 : decode b_td_isRival 12 = .ok (.invokestatic 47, 3) := by decide +kernel
theorem d_td_isRival_15 : decode b_td_isRival 15 = .ok (.iload_n 1, 1) := by decide +kernel
theorem d_td_isRival_16 : decode b_td_isRival 16 = .ok (.invokestatic 47, 3) := by decide +kernel
theorem d_td_isRival_19 : decode b_td_isRival 19 = .ok (.if_icmp .eq 26, 3) := by decide +kernel
theorem d_td_isRival_22 : decode b_td_isRival 22 = .ok (.aload_n 2, 1) := by decide +kernel
theorem d_td_isRival_23 : decode b_td_isRival 23 = .ok (.iload_n 0, 1) := by decide +kernel
theorem d_td_isRival_24 : decode b_td_isRival 24 = .ok (.invokestatic 47, 3) := by decide +kernel
theorem d_td_isRival_27 : decode b_td_isRival 27 = .ok (.invokevirtual 50, 3) := by decide +kernel
theorem d_td_isRival_30 : decode b_td_isRival 30 = .ok (.aload_n 2, 1) := by decide +kernel
theorem d_td_isRival_31 : decode b_td_isRival 31 = .ok (.iload_n 1, 1) := by decide +kernel
theorem d_td_isRival_32 : decode b_td_isRival 32 = .ok (.invokestatic 47, 3) := by decide +kernel
theorem d_td_isRival_35 : decode b_td_isRival 35 = .ok (.invokevirtual 50, 3) := by decide +kernel
theorem d_td_isRival_38 : decode b_td_isRival 38 = .ok (.if_icmp .ne 7, 3) := by decide +kernel
theorem d_td_isRival_41 : decode b_td_isRival 41 = .ok (.iconst 1, 1) := by decide +kernel
theorem d_td_isRival_42 : decode b_td_isRival 42 = .ok (.goto 4, 3) := by decide +kernel
theorem d_td_isRival_45 : decode b_td_isRival 45 = .ok (.iconst 0, 1) := by decide +kernel
theorem d_td_isRival_46 : decode b_td_isRival 46 = .ok (.ireturn, 1) := by decide +kernel
theorem d_td_addPawnMove_0 : decode b_td_addPawnMove 0 = .ok (.iload_n 1, 1) := by decide +kernel
theorem d_td_addPawnMove_1 : decode b_td_addPawnMove 1 = .ok (.invokestatic 47, 3) := by decide +kernel
theorem d_td_addPawnMove_4 : decode b_td_addPawnMove 4 = .ok (.invokestatic 66, 3) := by decide +kernel
theorem d_td_addPawnMove_7 : decode b_td_addPawnMove 7 = .ok (.istore_n 2, 1) := by decide +kernel
theorem d_td_addPawnMove_8 : decode b_td_addPawnMove 8 = .ok (.iload_n 2, 1) := by decide +kernel
theorem d_td_addPawnMove_9 : decode b_td_addPawnMove 9 = .ok (.iload_n 1, 1) := by decide +kernel
theorem d_td_addPawnMove_10 : decode b_td_addPawnMove 10 = .ok (.invokestatic 69, 3) := by decide +kernel
theorem d_td_addPawnMove_13 : decode b_td_addPawnMove 13 = .ok (.invokestatic 66, 3) := by decide +kernel
theorem d_td_addPawnMove_16 : decode b_td_addPawnMove 16 = .ok (.if_icmp .eq 19, 3) := by decide +kernel
theorem d_td_addPawnMove_19 : decode b_td_addPawnMove 19 = .ok (.aload_n 0, 1) := by decide +kernel
theorem d_td_addPawnMove_20 : decode b_td_addPawnMove 20 = .ok (.ldc 72, 2) := by decide +kernel
theorem d_td_addPawnMove_22 : decode b_td_addPawnMove 22 = .ok (.iload_n 2, 1) := by decide +kernel
theorem d_td_addPawnMove_23 : decode b_td_addPawnMove 23 = .ok (.invokestatic 74, 3) := by decide +kernel
theorem d_td_addPawnMove_26 : decode b_td_addPawnMove 26 = .ok (.invokevirtual 78, 3) := by decide +kernel
theorem d_td_addPawnMove_29 : decode b_td_addPawnMove 29 = .ok (.aload_n 0, 1) := by decide +kernel
theorem d_td_addPawnMove_30 : decode b_td_addPawnMove 30 = .ok (.bipush 120, 2) := by decide +kernel
theorem d_td_addPawnMove_32 : decode b_td_addPawnMove 32 = .ok (.invokevirtual 78, 3) := by decide +kernel
theorem d_td_addPawnMove_35 : decode b_td_addPawnMove 35 = .ok (.aload_n 0, 1) := by decide +kernel
theorem d_td_addPawnMove_36 : decode b_td_addPawnMove 36 = .ok (.iload_n 1, 1) := by decide +kernel
theorem d_td_addPawnMove_37 : decode b_td_addPawnMove 37 = .ok (.invokestatic 69, 3) := by decide +kernel
theorem d_td_addPawnMove_40 : decode b_td_addPawnMove 40 = .ok (.invokevirtual 82, 3) := by decide +kernel
theorem d_td_addPawnMove_43 : decode b_td_addPawnMove 43 = .ok (.iload_n 1, 1) := by decide +kernel
theorem d_td_addPawnMove_44 : decode b_td_addPawnMove 44 = .ok (.invokestatic 86, 3) := by decide +kernel
theorem d_td_addPawnMove_47 : decode b_td_addPawnMove 47 = .ok (.ifCond .eq 18, 3) := by decide +kernel
theorem d_td_addPawnMove_50 : decode b_td_addPawnMove 50 = .ok (.aload_n 0, 1) := by decide +kernel
theorem d_td_addPawnMove_51 : decode b_td_addPawnMove 51 = .ok (.ldc 89, 2) := by decide +kernel
theorem d_td_addPawnMove_53 : decode b_td_addPawnMove 53 = .ok (.iload_n 1, 1) := by decide +kernel
theorem d_td_addPawnMove_54 : decode b_td_addPawnMove 54 = .ok (.invokestatic 86, 3) := by decide +kernel
theorem d_td_addPawnMove_57 : decode b_td_addPawnMove 57 = .ok (.iconst 1, 1) := by decide +kernel
theorem d_td_addPawnMove_58 : decode b_td_addPawnMove 58 = .ok (.isub, 1) := by decide +kernel
theorem d_td_addPawnMove_59 : decode b_td_addPawnMove 59 = .ok (.invokestatic 74, 3) := by decide +kernel
theorem d_td_addPawnMove_62 : decode b_td_addPawnMove 62 = .ok (.invokevirtual 78, 3) := by decide +kernel
theorem d_td_addPawnMove_65 : decode b_td_addPawnMove 65 = .ok (.return_, 1) := by decide +kernel
theorem d_td_addOrigin_0 : decode b_td_addOrigin 0 = .ok (.iload_n 2, 1) := by decide +kernel
theorem d_td_addOrigin_1 : decode b_td_addOrigin 1 = .ok (.invokestatic 47, 3) := by decide +kernel
theorem d_td_addOrigin_4 : decode b_td_addOrigin 4 = .ok (.istore 4, 2) := by decide +kernel
theorem d_td_addOrigin_6 : decode b_td_addOrigin 6 = .ok (.iconst 0, 1) := by decide +kernel
theorem d_td_addOrigin_7 : decode b_td_addOrigin 7 = .ok (.istore 5, 2) := by decide +kernel
theorem d_td_addOrigin_9 : decode b_td_addOrigin 9 = .ok (.iconst 0, 1) := by decide +kernel
theorem d_td_addOrigin_10 : decode b_td_addOrigin 10 = .ok (.istore 6, 2) := by decide +kernel
theorem d_td_addOrigin_12 : decode b_td_addOrigin 12 = .ok (.iconst 0, 1) := by decide +kernel
theorem d_td_addOrigin_13 : decode b_td_addOrigin 13 = .ok (.istore 7, 2) := by decide +kernel
theorem d_td_addOrigin_15 : decode b_td_addOrigin 15 = .ok (.iconst 0, 1) := by decide +kernel
theorem d_td_addOrigin_16 : decode b_td_addOrigin 16 = .ok (.istore 8, 2) := by decide +kernel
theorem d_td_addOrigin_18 : decode b_td_addOrigin 18 = .ok (.iload 8, 2) := by decide +kernel
theorem d_td_addOrigin_20 : decode b_td_addOrigin 20 = .ok (.aload_n 0, 1) := by decide +kernel
theorem d_td_addOrigin_21 : decode b_td_addOrigin 21 = .ok (.getfield 18, 3) := by decide +kernel
theorem d_td_addOrigin_24 : decode b_td_addOrigin 24 = .ok (.if_icmp .ge 87, 3) := by decide +kernel
theorem d_td_addOrigin_27 : decode b_td_addOrigin 27 = .ok (.aload_n 0, 1) := by decide +kernel
theorem d_td_addOrigin_28 : decode b_td_addOrigin 28 = .ok (.iload 8, 2) := by decide +kernel
theorem d_td_addOrigin_30 : decode b_td_addOrigin 30 = .ok (.invokevirtual 30, 3) := by decide +kernel
theorem d_td_addOrigin_33 : decode b_td_addOrigin 33 = .ok (.iload_n 2, 1) := by decide +kernel
theorem d_td_addOrigin_34 : decode b_td_addOrigin 34 = .ok (.aload_n 3, 1) := by decide +kernel
theorem d_td_addOrigin_35 : decode b_td_addOrigin 35 = .ok (.invokestatic 94, 3) := by decide +kernel
theorem d_td_addOrigin_38 : decode b_td_addOrigin 38 = .ok (.ifCond .eq 67, 3) := by decide +kernel
theorem d_td_addOrigin_41 : decode b_td_addOrigin 41 = .ok (.aload_n 0, 1) := by decide +kernel
theorem d_td_addOrigin_42 : decode b_td_addOrigin 42 = .ok (.iload 8, 2) := by decide +kernel
theorem d_td_addOrigin_44 : decode b_td_addOrigin 44 = .ok (.invokevirtual 30, 3) := by decide +kernel
theorem d_td_addOrigin_47 : decode b_td_addOrigin 47 = .ok (.invokestatic 47, 3) := by decide +kernel
theorem d_td_addOrigin_50 : decode b_td_addOrigin 50 = .ok (.istore 9, 2) := by decide +kernel
theorem d_td_addOrigin_52 : decode b_td_addOrigin 52 = .ok (.iconst 1, 1) := by decide +kernel
theorem d_td_addOrigin_53 : decode b_td_addOrigin 53 = .ok (.istore 5, 2) := by decide +kernel
theorem d_td_addOrigin_55 : decode b_td_addOrigin 55 = .ok (.iload 6, 2) := by decide +kernel
theorem d_td_addOrigin_57 : decode b_td_addOrigin 57 = .ok (.ifCond .ne 16, 3) := by decide +kernel
theorem d_td_addOrigin_60 : decode b_td_addOrigin 60 = .ok (.iload 9, 2) := by decide +kernel
theorem d_td_addOrigin_62 : decode b_td_addOrigin 62 = .ok (.invokestatic 66, 3) := by decide +kernel
theorem d_td_addOrigin_65 : decode b_td_addOrigin 65 = .ok (.iload 4, 2) := by decide +kernel
theorem d_td_addOrigin_67 : decode b_td_addOrigin 67 = .ok (.invokestatic 66, 3) := by decide +kernel
theorem d_td_addOrigin_70 : decode b_td_addOrigin 70 = .ok (.if_icmp .ne 7, 3) := by decide +kernel
theorem d_td_addOrigin_73 : decode b_td_addOrigin 73 = .ok (.iconst 1, 1) := by decide +kernel
theorem d_td_addOrigin_74 : decode b_td_addOrigin 74 = .ok (.goto 4, 3) := by decide +kernel
theorem d_td_addOrigin_77 : decode b_td_addOrigin 77 = .ok (.iconst 0, 1) := by decide +kernel
theorem d_td_addOrigin_78 : decode b_td_addOrigin 78 = .ok (.istore 6, 2) := by decide +kernel
theorem d_td_addOrigin_80 : decode b_td_addOrigin 80 = .ok (.iload 7, 2) := by decide +kernel
theorem d_td_addOrigin_82 : decode b_td_addOrigin 82 = .ok (.ifCond .ne 16, 3) := by decide +kernel
theorem d_td_addOrigin_85 : decode b_td_addOrigin 85 = .ok (.iload 9, 2) := by decide +kernel
theorem d_td_addOrigin_87 : decode b_td_addOrigin 87 = .ok (.invokestatic 98, 3) := by decide +kernel
theorem d_td_addOrigin_90 : decode b_td_addOrigin 90 = .ok (.iload 4, 2) := by decide +kernel
theorem d_td_addOrigin_92 : decode b_td_addOrigin 92 = .ok (.invokestatic 98, 3) := by decide +kernel
theorem d_td_addOrigin_95 : decode b_td_addOrigin 95 = .ok (.if_icmp .ne 7, 3) := by decide +kernel
theorem d_td_addOrigin_98 : decode b_td_addOrigin 98 = .ok (.iconst 1, 1) := by decide +kernel
theorem d_td_addOrigin_99 : decode b_td_addOrigin 99 = .ok (.goto 4, 3) := by decide +kernel
theorem d_td_addOrigin_102 : decode b_td_addOrigin 102 = .ok (.iconst 0, 1) := by decide +kernel
theorem d_td_addOrigin_103 : decode b_td_addOrigin 103 = .ok (.istore 7, 2) := by decide +kernel
theorem d_td_addOrigin_105 : decode b_td_addOrigin 105 = .ok (.iinc 8 1, 3) := by decide +kernel
theorem d_td_addOrigin_108 : decode b_td_addOrigin 108 = .ok (.goto (-90), 3) := by decide +kernel
theorem d_td_addOrigin_111 : decode b_td_addOrigin 111 = .ok (.iload 5, 2) := by decide +kernel
theorem d_td_addOrigin_113 : decode b_td_addOrigin 113 = .ok (.ifCond .eq 27, 3) := by decide +kernel
theorem d_td_addOrigin_116 : decode b_td_addOrigin 116 = .ok (.iload 6, 2) := by decide +kernel
theorem d_td_addOrigin_118 : decode b_td_addOrigin 118 = .ok (.ifCond .eq 8, 3) := by decide +kernel
theorem d_td_addOrigin_121 : decode b_td_addOrigin 121 = .ok (.iload 7, 2) := by decide +kernel
theorem d_td_addOrigin_123 : decode b_td_addOrigin 123 = .ok (.ifCond .eq 17, 3) := by decide +kernel
theorem d_td_addOrigin_126 : decode b_td_addOrigin 126 = .ok (.aload_n 1, 1) := by decide +kernel
theorem d_td_addOrigin_127 : decode b_td_addOrigin 127 = .ok (.ldc 72, 2) := by decide +kernel
theorem d_td_addOrigin_129 : decode b_td_addOrigin 129 = .ok (.iload 4, 2) := by decide +kernel
theorem d_td_addOrigin_131 : decode b_td_addOrigin 131 = .ok (.invokestatic 66, 3) := by decide +kernel
theorem d_td_addOrigin_134 : decode b_td_addOrigin 134 = .ok (.invokestatic 74, 3) := by decide +kernel
theorem d_td_addOrigin_137 : decode b_td_addOrigin 137 = .ok (.invokevirtual 78, 3) := by decide +kernel
theorem d_td_addOrigin_140 : decode b_td_addOrigin 140 = .ok (.iload 6, 2) := by decide +kernel
theorem d_td_addOrigin_142 : decode b_td_addOrigin 142 = .ok (.ifCond .eq 17, 3) := by decide +kernel
theorem d_td_addOrigin_145 : decode b_td_addOrigin 145 = .ok (.aload_n 1, 1) := by decide +kernel
theorem d_td_addOrigin_146 : decode b_td_addOrigin 146 = .ok (.ldc 101, 2) := by decide +kernel
theorem d_td_addOrigin_148 : decode b_td_addOrigin 148 = .ok (.iload 4, 2) := by decide +kernel
theorem d_td_addOrigin_150 : decode b_td_addOrigin 150 = .ok (.invokestatic 98, 3) := by decide +kernel
theorem d_td_addOrigin_153 : decode b_td_addOrigin 153 = .ok (.invokestatic 74, 3) := by decide +kernel
theorem d_td_addOrigin_156 : decode b_td_addOrigin 156 = .ok (.invokevirtual 78, 3) := by decide +kernel
theorem d_td_addOrigin_159 : decode b_td_addOrigin 159 = .ok (.return_, 1) := by decide +kernel
theorem d_td_addManMove_0 : decode b_td_addManMove 0 = .ok (.aload_n 1, 1) := by decide +kernel
theorem d_td_addManMove_1 : decode b_td_addManMove 1 = .ok (.ldc 89, 2) := by decide +kernel
theorem d_td_addManMove_3 : decode b_td_addManMove 3 = .ok (.aload_n 3, 1) := by decide +kernel
theorem d_td_addManMove_4 : decode b_td_addManMove 4 = .ok (.iload_n 2, 1) := by decide +kernel
theorem d_td_addManMove_5 : decode b_td_addManMove 5 = .ok (.invokestatic 47, 3) := by decide +kernel
theorem d_td_addManMove_8 : decode b_td_addManMove 8 = .ok (.invokevirtual 50, 3) := by decide +kernel
theorem d_td_addManMove_11 : decode b_td_addManMove 11 = .ok (.invokestatic 55, 3) := by decide +kernel
theorem d_td_addManMove_14 : decode b_td_addManMove 14 = .ok (.iconst 1, 1) := by decide +kernel
theorem d_td_addManMove_15 : decode b_td_addManMove 15 = .ok (.isub, 1) := by decide +kernel
theorem d_td_addManMove_16 : decode b_td_addManMove 16 = .ok (.invokestatic 74, 3) := by decide +kernel
theorem d_td_addManMove_19 : decode b_td_addManMove 19 = .ok (.invokevirtual 78, 3) := by decide +kernel
theorem d_td_addManMove_22 : decode b_td_addManMove 22 = .ok (.aload_n 0, 1) := by decide +kernel
theorem d_td_addManMove_23 : decode b_td_addManMove 23 = .ok (.aload_n 1, 1) := by decide +kernel
theorem d_td_addManMove_24 : decode b_td_addManMove 24 = .ok (.iload_n 2, 1) := by decide +kernel
theorem d_td_addManMove_25 : decode b_td_addManMove 25 = .ok (.aload_n 3, 1) := by decide +kernel
theorem d_td_addManMove_26 : decode b_td_addManMove 26 = .ok (.invokevirtual 91, 3) := by decide +kernel
theorem d_td_addManMove_29 : decode b_td_addManMove 29 = .ok (.aload_n 3, 1) := by decide +kernel
theorem d_td_addManMove_30 : decode b_td_addManMove 30 = .ok (.iload_n 2, 1) := by decide +kernel
theorem d_td_addManMove_31 : decode b_td_addManMove 31 = .ok (.invokestatic 69, 3) := by decide +kernel
theorem d_td_addManMove_34 : decode b_td_addManMove 34 = .ok (.invokevirtual 50, 3) := by decide +kernel
theorem d_td_addManMove_37 : decode b_td_addManMove 37 = .ok (.ifCond .eq 9, 3) := by decide +kernel
theorem d_td_addManMove_40 : decode b_td_addManMove 40 = .ok (.aload_n 1, 1) := by decide +kernel
theorem d_td_addManMove_41 : decode b_td_addManMove 41 = .ok (.bipush 120, 2) := by decide +kernel
theorem d_td_addManMove_43 : decode b_td_addManMove 43 = .ok (.invokevirtual 78, 3) := by decide +kernel
theorem d_td_addManMove_46 : decode b_td_addManMove 46 = .ok (.aload_n 1, 1) := by decide +kernel
theorem d_td_addManMove_47 : decode b_td_addManMove 47 = .ok (.iload_n 2, 1) := by decide +kernel
theorem d_td_addManMove_48 : decode b_td_addManMove 48 = .ok (.invokestatic 69, 3) := by decide +kernel
theorem d_td_addManMove_51 : decode b_td_addManMove 51 = .ok (.invokevirtual 82, 3) := by decide +kernel
theorem d_td_addManMove_54 : decode b_td_addManMove 54 = .ok (.return_, 1) := by decide +kernel
