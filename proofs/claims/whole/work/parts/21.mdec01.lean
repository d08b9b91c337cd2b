theorem d_md_readPassant_54 : decode b_md_readPassant 54 = .ok (.aload_n 0, 1) := by decide +kernel
theorem d_md_readPassant_55 : decode b_md_readPassant 55 = .ok (.getfield 67, 3) := by decide +kernel
theorem d_md_readPassant_58 : decode b_md_readPassant 58 = .ok (.ifCond .ne 8, 3) := by decide +kernel
theorem d_md_readPassant_61 : decode b_md_readPassant 61 = .ok (.bipush 54, 2) := by decide +kernel
theorem d_md_readPassant_63 : decode b_md_readPassant 63 = .ok (.goto 5, 3) := by decide +kernel
theorem d_md_readPassant_66 : decode b_md_readPassant 66 = .ok (.bipush 51, 2) := by decide +kernel
theorem d_md_readPassant_68 : decode b_md_readPassant 68 = .ok (.invokevirtual 57, 3) := by decide +kernel
theorem d_md_readPassant_71 : decode b_md_readPassant 71 = .ok (.ifCond .eq 7, 3) := by decide +kernel
theorem d_md_readPassant_74 : decode b_md_readPassant 74 = .ok (.iconst 1, 1) := by decide +kernel
theorem d_md_readPassant_75 : decode b_md_readPassant 75 = .ok (.goto 4, 3) := by decide +kernel
theorem d_md_readPassant_78 : decode b_md_readPassant 78 = .ok (.iconst 0, 1) := by decide +kernel
theorem d_md_readPassant_79 : decode b_md_readPassant 79 = .ok (.ireturn, 1) := by decide +kernel
theorem d_md_readNumber_0 : decode b_md_readNumber 0 = .ok (.iconst 0, 1) := by decide +kernel
theorem d_md_readNumber_1 : decode b_md_readNumber 1 = .ok (.istore_n 2, 1) := by decide +kernel
theorem d_md_readNumber_2 : decode b_md_readNumber 2 = .ok (.iconst 0, 1) := by decide +kernel
theorem d_md_readNumber_3 : decode b_md_readNumber 3 = .ok (.istore_n 3, 1) := by decide +kernel
theorem d_md_readNumber_4 : decode b_md_readNumber 4 = .ok (.aload_n 0, 1) := by decide +kernel
theorem d_md_readNumber_5 : decode b_md_readNumber 5 = .ok (.invokevirtual 46, 3) := by decide +kernel
theorem d_md_readNumber_8 : decode b_md_readNumber 8 = .ok (.istore 4, 2) := by decide +kernel
theorem d_md_readNumber_10 : decode b_md_readNumber 10 = .ok (.aload_n 0, 1) := by decide +kernel
theorem d_md_readNumber_11 : decode b_md_readNumber 11 = .ok (.invokevirtual 46, 3) := by decide +kernel
theorem d_md_readNumber_14 : decode b_md_readNumber 14 = .ok (.invokestatic 70, 3) := by decide +kernel
theorem d_md_readNumber_17 : decode b_md_readNumber 17 = .ok (.ifCond .eq 37, 3) := by decide +kernel
theorem d_md_readNumber_20 : decode b_md_readNumber 20 = .ok (.iload_n 3, 1) := by decide +kernel
theorem d_md_readNumber_21 : decode b_md_readNumber 21 = .ok (.iload_n 1, 1) := by decide +kernel
theorem d_md_readNumber_22 : decode b_md_readNumber 22 = .ok (.if_icmp .gt 32, 3) := by decide +kernel
theorem d_md_readNumber_25 : decode b_md_readNumber 25 = .ok (.bipush 10, 2) := by decide +kernel
theorem d_md_readNumber_27 : decode b_md_readNumber 27 = .ok (.iload_n 2, 1) := by decide +kernel
theorem d_md_readNumber_28 : decode b_md_readNumber 28 = .ok (.imul, 1) := by decide +kernel
theorem d_md_readNumber_29 : decode b_md_readNumber 29 = .ok (.aload_n 0, 1) := by decide +kernel
theorem d_md_readNumber_30 : decode b_md_readNumber 30 = .ok (.invokevirtual 46, 3) := by decide +kernel
theorem d_md_readNumber_33 : decode b_md_readNumber 33 = .ok (.iadd, 1) := by decide +kernel
theorem d_md_readNumber_34 : decode b_md_readNumber 34 = .ok (.bipush 48, 2) := by decide +kernel
theorem d_md_readNumber_36 : decode b_md_readNumber 36 = .ok (.isub, 1) := by decide +kernel
theorem d_md_readNumber_37 : decode b_md_readNumber 37 = .ok (.istore_n 2, 1) := by decide +kernel
theorem d_md_readNumber_38 : decode b_md_readNumber 38 = .ok (.iinc 3 1, 3) := by decide +kernel
theorem d_md_readNumber_41 : decode b_md_readNumber 41 = .ok (.aload_n 0, 1) := by decide +kernel
theorem d_md_readNumber_42 : decode b_md_readNumber 42 = .ok (.dup, 1) := by decide +kernel
theorem d_md_readNumber_43 : decode b_md_readNumber 43 = .ok (.getfield 43, 3) := by decide +kernel
theorem d_md_readNumber_46 : decode b_md_readNumber 46 = .ok (.iconst 1, 1) := by decide +kernel
theorem d_md_readNumber_47 : decode b_md_readNumber 47 = .ok (.iadd, 1) := by decide +kernel
theorem d_md_readNumber_48 : decode b_md_readNumber 48 = .ok (.putfield 43, 3) := by decide +kernel
theorem d_md_readNumber_51 : decode b_md_readNumber 51 = .ok (.goto (-41), 3) := by decide +kernel
theorem d_md_readNumber_54 : decode b_md_readNumber 54 = .ok (.iload_n 3, 1) := by decide +kernel
theorem d_md_readNumber_55 : decode b_md_readNumber 55 = .ok (.ifCond .le 24, 3) := by decide +kernel
theorem d_md_readNumber_58 : decode b_md_readNumber 58 = .ok (.iload_n 3, 1) := by decide +kernel
theorem d_md_readNumber_59 : decode b_md_readNumber 59 = .ok (.iload_n 1, 1) := by decide +kernel
theorem d_md_readNumber_60 : decode b_md_readNumber 60 = .ok (.if_icmp .gt 19, 3) := by decide +kernel
theorem d_md_readNumber_63 : decode b_md_readNumber 63 = .ok (.iload_n 3, 1) := by decide +kernel
theorem d_md_readNumber_64 : decode b_md_readNumber 64 = .ok (.iconst 1, 1) := by decide +kernel
theorem d_md_readNumber_65 : decode b_md_readNumber 65 = .ok (.if_icmp .eq 10, 3) := by decide +kernel
theorem d_md_readNumber_68 : decode b_md_readNumber 68 = .ok (.iload 4, 2) := by decide +kernel
theorem d_md_readNumber_70 : decode b_md_readNumber 70 = .ok (.bipush 48, 2) := by decide +kernel
theorem d_md_readNumber_72 : decode b_md_readNumber 72 = .ok (.if_icmp .eq 7, 3) := by decide +kernel
theorem d_md_readNumber_75 : decode b_md_readNumber 75 = .ok (.iload_n 2, 1) := by decide +kernel
theorem d_md_readNumber_76 : decode b_md_readNumber 76 = .ok (.goto 4, 3) := by decide +kernel
theorem d_md_readNumber_79 : decode b_md_readNumber 79 = .ok (.iconst (-1), 1) := by decide +kernel
theorem d_md_readNumber_80 : decode b_md_readNumber 80 = .ok (.ireturn, 1) := by decide +kernel
theorem d_md_readFields_0 : decode b_md_readFields 0 = .ok (.aload_n 0, 1) := by decide +kernel
theorem d_md_readFields_1 : decode b_md_readFields 1 = .ok (.iconst 0, 1) := by decide +kernel
theorem d_md_readFields_2 : decode b_md_readFields 2 = .ok (.putfield 43, 3) := by decide +kernel
theorem d_md_readFields_5 : decode b_md_readFields 5 = .ok (.aload_n 0, 1) := by decide +kernel
theorem d_md_readFields_6 : decode b_md_readFields 6 = .ok (.invokevirtual 73, 3) := by decide +kernel
theorem d_md_readFields_9 : decode b_md_readFields 9 = .ok (.ifCond .eq 12, 3) := by decide +kernel
theorem d_md_readFields_12 : decode b_md_readFields 12 = .ok (.aload_n 0, 1) := by decide +kernel
theorem d_md_readFields_13 : decode b_md_readFields 13 = .ok (.bipush 32, 2) := by decide +kernel
theorem d_md_readFields_15 : decode b_md_readFields 15 = .ok (.invokevirtual 57, 3) := by decide +kernel
theorem d_md_readFields_18 : decode b_md_readFields 18 = .ok (.ifCond .ne 5, 3) := by decide +kernel
theorem d_md_readFields_21 : decode b_md_readFields 21 = .ok (.iconst 1, 1) := by decide +kernel
theorem d_md_readFields_22 : decode b_md_readFields 22 = .ok (.ireturn, 1) := by decide +kernel
theorem d_md_readFields_23 : decode b_md_readFields 23 = .ok (.aload_n 0, 1) := by decide +kernel
theorem d_md_readFields_24 : decode b_md_readFields 24 = .ok (.aload_n 0, 1) := by decide +kernel
theorem d_md_readFields_25 : decode b_md_readFields 25 = .ok (.invokevirtual 46, 3) := by decide +kernel
theorem d_md_readFields_28 : decode b_md_readFields 28 = .ok (.bipush 98, 2) := by decide +kernel
theorem d_md_readFields_30 : decode b_md_readFields 30 = .ok (.if_icmp .ne 7, 3) := by decide +kernel
theorem d_md_readFields_33 : decode b_md_readFields 33 = .ok (.iconst 1, 1) := by decide +kernel
theorem d_md_readFields_34 : decode b_md_readFields 34 = .ok (.goto 4, 3) := by decide +kernel
theorem d_md_readFields_37 : decode b_md_readFields 37 = .ok (.iconst 0, 1) := by decide +kernel
theorem d_md_readFields_38 : decode b_md_readFields 38 = .ok (.putfield 67, 3) := by decide +kernel
theorem d_md_readFields_41 : decode b_md_readFields 41 = .ok (.aload_n 0, 1) := by decide +kernel
theorem d_md_readFields_42 : decode b_md_readFields 42 = .ok (.bipush 119, 2) := by decide +kernel
theorem d_md_readFields_44 : decode b_md_readFields 44 = .ok (.invokevirtual 57, 3) := by decide +kernel
theorem d_md_readFields_47 : decode b_md_readFields 47 = .ok (.ifCond .ne 12, 3) := by decide +kernel
theorem d_md_readFields_50 : decode b_md_readFields 50 = .ok (.aload_n 0, 1) := by decide +kernel
theorem d_md_readFields_51 : decode b_md_readFields 51 = .ok (.bipush 98, 2) := by decide +kernel
theorem d_md_readFields_53 : decode b_md_readFields 53 = .ok (.invokevirtual 57, 3) := by decide +kernel
theorem d_md_readFields_56 : decode b_md_readFields 56 = .ok (.ifCond .eq 12, 3) := by decide +kernel
theorem d_md_readFields_59 : decode b_md_readFields 59 = .ok (.aload_n 0, 1) := by decide +kernel
theorem d_md_readFields_60 : decode b_md_readFields 60 = .ok (.bipush 32, 2) := by decide +kernel
theorem d_md_readFields_62 : decode b_md_readFields 62 = .ok (.invokevirtual 57, 3) := by decide +kernel
theorem d_md_readFields_65 : decode b_md_readFields 65 = .ok (.ifCond .ne 5, 3) := by decide +kernel
theorem d_md_readFields_68 : decode b_md_readFields 68 = .ok (.iconst 2, 1) := by decide +kernel
theorem d_md_readFields_69 : decode b_md_readFields 69 = .ok (.ireturn, 1) := by decide +kernel
theorem d_md_readFields_70 : decode b_md_readFields 70 = .ok (.aload_n 0, 1) := by decide +kernel
theorem d_md_readFields_71 : decode b_md_readFields 71 = .ok (.invokevirtual 77, 3) := by decide +kernel
theorem d_md_readFields_74 : decode b_md_readFields 74 = .ok (.ifCond .eq 12, 3) := by decide +kernel
theorem d_md_readFields_77 : decode b_md_readFields 77 = .ok (.aload_n 0, 1) := by decide +kernel
theorem d_md_readFields_78 : decode b_md_readFields 78 = .ok (.bipush 32, 2) := by decide +kernel
theorem d_md_readFields_80 : decode b_md_readFields 80 = .ok (.invokevirtual 57, 3) := by decide +kernel
theorem d_md_readFields_83 : decode b_md_readFields 83 = .ok (.ifCond .ne 5, 3) := by decide +kernel
theorem d_md_readFields_86 : decode b_md_readFields 86 = .ok (.iconst 3, 1) := by decide +kernel
theorem d_md_readFields_87 : decode b_md_readFields 87 = .ok (.ireturn, 1) := by decide +kernel
theorem d_md_readFields_88 : decode b_md_readFields 88 = .ok (.aload_n 0, 1) := by decide +kernel
theorem d_md_readFields_89 : decode b_md_readFields 89 = .ok (.invokevirtual 80, 3) := by decide +kernel
theorem d_md_readFields_92 : decode b_md_readFields 92 = .ok (.ifCond .eq 12, 3) := by decide +kernel
theorem d_md_readFields_95 : decode b_md_readFields 95 = .ok (.aload_n 0, 1) := by decide +kernel
theorem d_md_readFields_96 : decode b_md_readFields 96 = .ok (.bipush 32, 2) := by decide +kernel
theorem d_md_readFields_98 : decode b_md_readFields 98 = .ok (.invokevirtual 57, 3) := by decide +kernel
theorem d_md_readFields_101 : decode b_md_readFields 101 = .ok (.ifCond .ne 5, 3) := by decide +kernel
theorem d_md_readFields_104 : decode b_md_readFields 104 = .ok (.iconst 4, 1) := by decide +kernel
theorem d_md_readFields_105 : decode b_md_readFields 105 = .ok (.ireturn, 1) := by decide +kernel
theorem d_md_readFields_106 : decode b_md_readFields 106 = .ok (.aload_n 0, 1) := by decide +kernel
theorem d_md_readFields_107 : decode b_md_readFields 107 = .ok (.aload_n 0, 1) := by decide +kernel
theorem d_md_readFields_108 : decode b_md_readFields 108 = .ok (.iconst 3, 1) := by decide +kernel
theorem d_md_readFields_109 : decode b_md_readFields 109 = .ok (.invokevirtual 83, 3) := by decide +kernel
theorem d_md_readFields_112 : decode b_md_readFields 112 = .ok (.putfield 86, 3) := by decide +kernel
theorem d_md_readFields_115 : decode b_md_readFields 115 = .ok (.aload_n 0, 1) := by decide +kernel
theorem d_md_readFields_116 : decode b_md_readFields 116 = .ok (.getfield 86, 3) := by decide +kernel
theorem d_md_readFields_119 : decode b_md_readFields 119 = .ok (.ifCond .lt 12, 3) := by decide +kernel
theorem d_md_readFields_122 : decode b_md_readFields 122 = .ok (.aload_n 0, 1) := by decide +kernel
theorem d_md_readFields_123 : decode b_md_readFields 123 = .ok (.bipush 32, 2) := by decide +kernel
theorem d_md_readFields_125 : decode b_md_readFields 125 = .ok (.invokevirtual 57, 3) := by decide +kernel
theorem d_md_readFields_128 : decode b_md_readFields 128 = .ok (.ifCond .ne 5, 3) := by decide +kernel
theorem d_md_readFields_131 : decode b_md_readFields 131 = .ok (.iconst 5, 1) := by decide +kernel
theorem d_md_readFields_132 : decode b_md_readFields 132 = .ok (.ireturn, 1) := by decide +kernel
theorem d_md_readFields_133 : decode b_md_readFields 133 = .ok (.aload_n 0, 1) := by decide +kernel
theorem d_md_readFields_134 : decode b_md_readFields 134 = .ok (.aload_n 0, 1) := by decide +kernel
theorem d_md_readFields_135 : decode b_md_readFields 135 = .ok (.iconst 4, 1) := by decide +kernel
theorem d_md_readFields_136 : decode b_md_readFields 136 = .ok (.invokevirtual 83, 3) := by decide +kernel
theorem d_md_readFields_139 : decode b_md_readFields 139 = .ok (.putfield 89, 3) := by decide +kernel
theorem d_md_readFields_142 : decode b_md_readFields 142 = .ok (.aload_n 0, 1) := by decide +kernel
theorem d_md_readFields_143 : decode b_md_readFields 143 = .ok (.getfield 89, 3) := by decide +kernel
theorem d_md_readFields_146 : decode b_md_readFields 146 = .ok (.iconst 1, 1) := by decide +kernel
theorem d_md_readFields_147 : decode b_md_readFields 147 = .ok (.if_icmp .lt 14, 3) := by decide +kernel
theorem d_md_readFields_150 : decode b_md_readFields 150 = .ok (.aload_n 0, 1) := by decide +kernel
theorem d_md_readFields_151 : decode b_md_readFields 151 = .ok (.getfield 43, 3) := by decide +kernel
theorem d_md_readFields_154 : decode b_md_readFields 154 = .ok (.aload_n 0, 1) := by decide +kernel
theorem d_md_readFields_155 : decode b_md_readFields 155 = .ok (.getfield 38, 3) := by decide +kernel
theorem d_md_readFields_158 : decode b_md_readFields 158 = .ok (.if_icmp .eq 8, 3) := by decide +kernel
theorem d_md_readFields_161 : decode b_md_readFields 161 = .ok (.bipush 6, 2) := by decide +kernel
theorem d_md_readFields_163 : decode b_md_readFields 163 = .ok (.goto 4, 3) := by decide +kernel
theorem d_md_readFields_166 : decode b_md_readFields 166 = .ok (.iconst 0, 1) := by decide +kernel
theorem d_md_readFields_167 : decode b_md_readFields 167 = .ok (.ireturn, 1) := by decide +kernel
theorem d_md_howMany_0 : decode b_md_howMany 0 = .ok (.iconst 0, 1) := by decide +kernel
theorem d_md_howMany_1 : decode b_md_howMany 1 = .ok (.istore_n 2, 1) := by decide +kernel
theorem d_md_howMany_2 : decode b_md_howMany 2 = .ok (.iconst 0, 1) := by decide +kernel
theorem d_md_howMany_3 : decode b_md_howMany 3 = .ok (.istore_n 3, 1) := by decide +kernel
theorem d_md_howMany_4 : decode b_md_howMany 4 = .ok (.iload_n 3, 1) := by decide +kernel
theorem d_md_howMany_5 : decode b_md_howMany 5 = .ok (.bipush 64, 2) := by decide +kernel
theorem d_md_howMany_7 : decode b_md_howMany 7 = .ok (.if_icmp .ge 27, 3) := by decide +kernel
theorem d_md_howMany_10 : decode b_md_howMany 10 = .ok (.iload_n 2, 1) := by decide +kernel
theorem d_md_howMany_11 : decode b_md_howMany 11 = .ok (.aload_n 0, 1) := by decide +kernel
theorem d_md_howMany_12 : decode b_md_howMany 12 = .ok (.getfield 29, 3) := by decide +kernel
theorem d_md_howMany_15 : decode b_md_howMany 15 = .ok (.iload_n 3, 1) := by decide +kernel
theorem d_md_howMany_16 : decode b_md_howMany 16 = .ok (.iaload, 1) := by decide +kernel
theorem d_md_howMany_17 : decode b_md_howMany 17 = .ok (.iload_n 1, 1) := by decide +kernel
theorem d_md_howMany_18 : decode b_md_howMany 18 = .ok (.if_icmp .ne 7, 3) := by decide +kernel
theorem d_md_howMany_21 : decode b_md_howMany 21 = .ok (.iconst 1, 1) := by decide +kernel
theorem d_md_howMany_22 : decode b_md_howMany 22 = .ok (.goto 4, 3) := by decide +kernel
theorem d_md_howMany_25 : decode b_md_howMany 25 = .ok (.iconst 0, 1) := by decide +kernel
theorem d_md_howMany_26 : decode b_md_howMany 26 = .ok (.iadd, 1) := by decide +kernel
theorem d_md_howMany_27 : decode b_md_howMany 27 = .ok (.istore_n 2, 1) := by decide +kernel
theorem d_md_howMany_28 : decode b_md_howMany 28 = .ok (.iinc 3 1, 3) := by decide +kernel
theorem d_md_howMany_31 : decode b_md_howMany 31 = .ok (.goto (-27), 3) := by decide +kernel
theorem d_md_howMany_34 : decode b_md_howMany 34 = .ok (.iload_n 2, 1) := by decide +kernel
theorem d_md_howMany_35 : decode b_md_howMany 35 = .ok (.ireturn, 1) := by decide +kernel
theorem d_md_rightsFit_0 : decode b_md_rightsFit 0 = .ok (.iconst 1, 1) := by decide +kernel
theorem d_md_rightsFit_1 : decode b_md_rightsFit 1 = .ok (.istore_n 1, 1) := by decide +kernel
theorem d_md_rightsFit_2 : decode b_md_rightsFit 2 = .ok (.iconst 0, 1) := by decide +kernel
theorem d_md_rightsFit_3 : decode b_md_rightsFit 3 = .ok (.istore_n 2, 1) := by decide +kernel
theorem d_md_rightsFit_4 : decode b_md_rightsFit 4 = .ok (.iload_n 2, 1) := by decide +kernel
theorem d_md_rightsFit_5 : decode b_md_rightsFit 5 = .ok (.iconst 4, 1) := by decide +kernel
theorem d_md_rightsFit_6 : decode b_md_rightsFit 6 = .ok (.if_icmp .ge 109, 3) := by decide +kernel
theorem d_md_rightsFit_9 : decode b_md_rightsFit 9 = .ok (.iload_n 2, 1) := by decide +kernel
theorem d_md_rightsFit_10 : decode b_md_rightsFit 10 = .ok (.iconst 2, 1) := by decide +kernel
theorem d_md_rightsFit_11 : decode b_md_rightsFit 11 = .ok (.if_icmp .ge 7, 3) := by decide +kernel
theorem d_md_rightsFit_14 : decode b_md_rightsFit 14 = .ok (.iconst 0, 1) := by decide +kernel
theorem d_md_rightsFit_15 : decode b_md_rightsFit 15 = .ok (.goto 5, 3) := by decide +kernel
theorem d_md_rightsFit_18 : decode b_md_rightsFit 18 = .ok (.bipush 56, 2) := by decide +kernel
theorem d_md_rightsFit_20 : decode b_md_rightsFit 20 = .ok (.istore_n 3, 1) := by decide +kernel
theorem d_md_rightsFit_21 : decode b_md_rightsFit 21 = .ok (.iload_n 2, 1) := by decide +kernel
theorem d_md_rightsFit_22 : decode b_md_rightsFit 22 = .ok (.iconst 2, 1) := by decide +kernel
theorem d_md_rightsFit_23 : decode b_md_rightsFit 23 = .ok (.if_icmp .ge 7, 3) := by decide +kernel
theorem d_md_rightsFit_26 : decode b_md_rightsFit 26 = .ok (.iconst 0, 1) := by decide +kernel
theorem d_md_rightsFit_27 : decode b_md_rightsFit 27 = .ok (.goto 5, 3) := by decide +kernel
theorem d_md_rightsFit_30 : decode b_md_rightsFit 30 = .ok (.bipush 6, 2) := by decide +kernel
theorem d_md_rightsFit_32 : decode b_md_rightsFit 32 = .ok (.istore 4, 2) := by decide +kernel
theorem d_md_rightsFit_34 : decode b_md_rightsFit 34 = .ok (.aload_n 0, 1) := by decide +kernel
theorem d_md_rightsFit_35 : decode b_md_rightsFit 35 = .ok (.getfield 29, 3) := by decide +kernel
theorem d_md_rightsFit_38 : decode b_md_rightsFit 38 = .ok (.iload_n 3, 1) := by decide +kernel
theorem d_md_rightsFit_39 : decode b_md_rightsFit 39 = .ok (.iconst 4, 1) := by decide +kernel
theorem d_md_rightsFit_40 : decode b_md_rightsFit 40 = .ok (.iadd, 1) := by decide +kernel
theorem d_md_rightsFit_41 : decode b_md_rightsFit 41 = .ok (.iaload, 1) := by decide +kernel
theorem d_md_rightsFit_42 : decode b_md_rightsFit 42 = .ok (.bipush 6, 2) := by decide +kernel
theorem d_md_rightsFit_44 : decode b_md_rightsFit 44 = .ok (.iload 4, 2) := by decide +kernel
theorem d_md_rightsFit_46 : decode b_md_rightsFit 46 = .ok (.iadd, 1) := by decide +kernel
theorem d_md_rightsFit_47 : decode b_md_rightsFit 47 = .ok (.if_icmp .ne 33, 3) := by decide +kernel
theorem d_md_rightsFit_50 : decode b_md_rightsFit 50 = .ok (.aload_n 0, 1) := by decide +kernel
theorem d_md_rightsFit_51 : decode b_md_rightsFit 51 = .ok (.getfield 29, 3) := by decide +kernel
theorem d_md_rightsFit_54 : decode b_md_rightsFit 54 = .ok (.iload_n 2, 1) := by decide +kernel
theorem d_md_rightsFit_55 : decode b_md_rightsFit 55 = .ok (.iconst 2, 1) := by decide +kernel
theorem d_md_rightsFit_56 : decode b_md_rightsFit 56 = .ok (.irem, 1) := by decide +kernel
theorem d_md_rightsFit_57 : decode b_md_rightsFit 57 = .ok (.ifCond .ne 10, 3) := by decide +kernel
theorem d_md_rightsFit_60 : decode b_md_rightsFit 60 = .ok (.iload_n 3, 1) := by decide +kernel
theorem d_md_rightsFit_61 : decode b_md_rightsFit 61 = .ok (.bipush 7, 2) := by decide +kernel
theorem d_md_rightsFit_63 : decode b_md_rightsFit 63 = .ok (.iadd, 1) := by decide +kernel
theorem d_md_rightsFit_64 : decode b_md_rightsFit 64 = .ok (.goto 4, 3) := by decide +kernel
theorem d_md_rightsFit_67 : decode b_md_rightsFit 67 = .ok (.iload_n 3, 1) := by decide +kernel
theorem d_md_rightsFit_68 : decode b_md_rightsFit 68 = .ok (.iaload, 1) := by decide +kernel
theorem d_md_rightsFit_69 : decode b_md_rightsFit 69 = .ok (.iconst 4, 1) := by decide +kernel
theorem d_md_rightsFit_70 : decode b_md_rightsFit 70 = .ok (.iload 4, 2) := by decide +kernel
theorem d_md_rightsFit_72 : decode b_md_rightsFit 72 = .ok (.iadd, 1) := by decide +kernel
theorem d_md_rightsFit_73 : decode b_md_rightsFit 73 = .ok (.if_icmp .ne 7, 3) := by decide +kernel
theorem d_md_rightsFit_76 : decode b_md_rightsFit 76 = .ok (.iconst 1, 1) := by decide +kernel
theorem d_md_rightsFit_77 : decode b_md_rightsFit 77 = .ok (.goto 4, 3) := by decide +kernel
theorem d_md_rightsFit_80 : decode b_md_rightsFit 80 = .ok (.iconst 0, 1) := by decide +kernel
theorem d_md_rightsFit_81 : decode b_md_rightsFit 81 = .ok (.istore 5, 2) := by decide +kernel
theorem d_md_rightsFit_83 : decode b_md_rightsFit 83 = .ok (.iload_n 1, 1) := by decide +kernel
theorem d_md_rightsFit_84 : decode b_md_rightsFit 84 = .ok (.ifCond .eq 23, 3) := by decide +kernel
theorem d_md_rightsFit_87 : decode b_md_rightsFit 87 = .ok (.iload 5, 2) := by decide +kernel
theorem d_md_rightsFit_89 : decode b_md_rightsFit 89 = .ok (.ifCond .ne 14, 3) := by decide +kernel
theorem d_md_rightsFit_92 : decode b_md_rightsFit 92 = .ok (.aload_n 0, 1) := by decide +kernel
theorem d_md_rightsFit_93 : decode b_md_rightsFit 93 = .ok (.getfield 61, 3) := by decide +kernel
theorem d_md_rightsFit_96 : decode b_md_rightsFit 96 = .ok (.iload_n 2, 1) := by decide +kernel
theorem d_md_rightsFit_97 : decode b_md_rightsFit 97 = .ok (.ishr, 1) := by decide +kernel
theorem d_md_rightsFit_98 : decode b_md_rightsFit 98 = .ok (.iconst 1, 1) := by decide +kernel
theorem d_md_rightsFit_99 : decode b_md_rightsFit 99 = .ok (.iand, 1) := by decide +kernel
theorem d_md_rightsFit_100 : decode b_md_rightsFit 100 = .ok (.ifCond .ne 7, 3) := by decide +kernel
theorem d_md_rightsFit_103 : decode b_md_rightsFit 103 = .ok (.iconst 1, 1) := by decide +kernel
theorem d_md_rightsFit_104 : decode b_md_rightsFit 104 = .ok (.goto 4, 3) := by decide +kernel
theorem d_md_rightsFit_107 : decode b_md_rightsFit 107 = .ok (.iconst 0, 1) := by decide +kernel
theorem d_md_rightsFit_108 : decode b_md_rightsFit 108 = .ok (.istore_n 1, 1) := by decide +kernel
theorem d_md_rightsFit_109 : decode b_md_rightsFit 109 = .ok (.iinc 2 1, 3) := by decide +kernel
theorem d_md_rightsFit_112 : decode b_md_rightsFit 112 = .ok (.goto (-108), 3) := by decide +kernel
theorem d_md_rightsFit_115 : decode b_md_rightsFit 115 = .ok (.iload_n 1, 1) := by decide +kernel
theorem d_md_rightsFit_116 : decode b_md_rightsFit 116 = .ok (.ireturn, 1) := by decide +kernel
theorem d_md_passantFits_0 : decode b_md_passantFits 0 = .ok (.aload_n 0, 1) := by decide +kernel
theorem d_md_passantFits_1 : decode b_md_passantFits 1 = .ok (.getfield 64, 3) := by decide +kernel
theorem d_md_passantFits_4 : decode b_md_passantFits 4 = .ok (.ifCond .ge 5, 3) := by decide +kernel
theorem d_md_passantFits_7 : decode b_md_passantFits 7 = .ok (.iconst 1, 1) := by decide +kernel
theorem d_md_passantFits_8 : decode b_md_passantFits 8 = .ok (.ireturn, 1) := by decide +kernel
theorem d_md_passantFits_9 : decode b_md_passantFits 9 = .ok (.aload_n 0, 1) := by decide +kernel
theorem d_md_passantFits_10 : decode b_md_passantFits 10 = .ok (.getfield 67, 3) := by decide +kernel
theorem d_md_passantFits_13 : decode b_md_passantFits 13 = .ok (.ifCond .ne 8, 3) := by decide +kernel
theorem d_md_passantFits_16 : decode b_md_passantFits 16 = .ok (.bipush (-8), 2) := by decide +kernel
theorem d_md_passantFits_18 : decode b_md_passantFits 18 = .ok (.goto 5, 3) := by decide +kernel
theorem d_md_passantFits_21 : decode b_md_passantFits 21 = .ok (.bipush 8, 2) := by decide +kernel
theorem d_md_passantFits_23 : decode b_md_passantFits 23 = .ok (.istore_n 1, 1) := by decide +kernel
theorem d_md_passantFits_24 : decode b_md_passantFits 24 = .ok (.aload_n 0, 1) := by decide +kernel
theorem d_md_passantFits_25 : decode b_md_passantFits 25 = .ok (.getfield 64, 3) := by decide +kernel
theorem d_md_passantFits_28 : decode b_md_passantFits 28 = .ok (.aload_n 0, 1) := by decide +kernel
theorem d_md_passantFits_29 : decode b_md_passantFits 29 = .ok (.getfield 67, 3) := by decide +kernel
theorem d_md_passantFits_32 : decode b_md_passantFits 32 = .ok (.ifCond .ne 8, 3) := by decide +kernel
theorem d_md_passantFits_35 : decode b_md_passantFits 35 = .ok (.bipush 48, 2) := by decide +kernel
theorem d_md_passantFits_37 : decode b_md_passantFits 37 = .ok (.goto 5, 3) := by decide +kernel
theorem d_md_passantFits_40 : decode b_md_passantFits 40 = .ok (.bipush 8, 2) := by decide +kernel
theorem d_md_passantFits_42 : decode b_md_passantFits 42 = .ok (.iadd, 1) := by decide +kernel
theorem d_md_passantFits_43 : decode b_md_passantFits 43 = .ok (.istore_n 2, 1) := by decide +kernel
theorem d_md_passantFits_44 : decode b_md_passantFits 44 = .ok (.aload_n 0, 1) := by decide +kernel
theorem d_md_passantFits_45 : decode b_md_passantFits 45 = .ok (.getfield 29, 3) := by decide +kernel
theorem d_md_passantFits_48 : decode b_md_passantFits 48 = .ok (.iload_n 2, 1) := by decide +kernel
theorem d_md_passantFits_49 : decode b_md_passantFits 49 = .ok (.iaload, 1) := by decide +kernel
theorem d_md_passantFits_50 : decode b_md_passantFits 50 = .ok (.ifCond .ne 51, 3) := by decide +kernel
theorem d_md_passantFits_53 : decode b_md_passantFits 53 = .ok (.aload_n 0, 1) := by decide +kernel
theorem d_md_passantFits_54 : decode b_md_passantFits 54 = .ok (.getfield 29, 3) := by decide +kernel
theorem d_md_passantFits_57 : decode b_md_passantFits 57 = .ok (.iload_n 2, 1) := by decide +kernel
theorem d_md_passantFits_58 : decode b_md_passantFits 58 = .ok (.iload_n 1, 1) := by decide +kernel
theorem d_md_passantFits_59 : decode b_md_passantFits 59 = .ok (.iadd, 1) := by decide +kernel
theorem d_md_passantFits_60 : decode b_md_passantFits 60 = .ok (.iaload, 1) := by decide +kernel
theorem d_md_passantFits_61 : decode b_md_passantFits 61 = .ok (.ifCond .ne 40, 3) := by decide +kernel
theorem d_md_passantFits_64 : decode b_md_passantFits 64 = .ok (.aload_n 0, 1) := by decide +kernel
theorem d_md_passantFits_65 : decode b_md_passantFits 65 = .ok (.getfield 29, 3) := by decide +kernel
theorem d_md_passantFits_68 : decode b_md_passantFits 68 = .ok (.iload_n 2, 1) := by decide +kernel
theorem d_md_passantFits_69 : decode b_md_passantFits 69 = .ok (.iconst 2, 1) := by decide +kernel
theorem d_md_passantFits_70 : decode b_md_passantFits 70 = .ok (.iload_n 1, 1) := by decide +kernel
theorem d_md_passantFits_71 : decode b_md_passantFits 71 = .ok (.imul, 1) := by decide +kernel
theorem d_md_passantFits_72 : decode b_md_passantFits 72 = .ok (.iadd, 1) := by decide +kernel
theorem d_md_passantFits_73 : decode b_md_passantFits 73 = .ok (.iaload, 1) := by decide +kernel
theorem d_md_passantFits_74 : decode b_md_passantFits 74 = .ok (.aload_n 0, 1) := by decide +kernel
theorem d_md_passantFits_75 : decode b_md_passantFits 75 = .ok (.getfield 67, 3) := by decide +kernel
theorem d_md_passantFits_78 : decode b_md_passantFits 78 = .ok (.ifCond .ne 8, 3) := by decide +kernel
theorem d_md_passantFits_81 : decode b_md_passantFits 81 = .ok (.bipush 7, 2) := by decide +kernel
theorem d_md_passantFits_83 : decode b_md_passantFits 83 = .ok (.goto 4, 3) := by decide +kernel
theorem d_md_passantFits_86 : decode b_md_passantFits 86 = .ok (.iconst 1, 1) := by decide +kernel
theorem d_md_passantFits_87 : decode b_md_passantFits 87 = .ok (.if_icmp .ne 14, 3) := by decide +kernel
theorem d_md_passantFits_90 : decode b_md_passantFits 90 = .ok (.aload_n 0, 1) := by decide +kernel
theorem d_md_passantFits_91 : decode b_md_passantFits 91 = .ok (.getfield 86, 3) := by decide +kernel
theorem d_md_passantFits_94 : decode b_md_passantFits 94 = .ok (.ifCond .ne 7, 3) := by decide +kernel
theorem d_md_passantFits_97 : decode b_md_passantFits 97 = .ok (.iconst 1, 1) := by decide +kernel
theorem d_md_passantFits_98 : decode b_md_passantFits 98 = .ok (.goto 4, 3) := by decide +kernel
theorem d_md_passantFits_101 : decode b_md_passantFits 101 = .ok (.iconst 0, 1) := by decide +kernel
theorem d_md_passantFits_102 : decode b_md_passantFits 102 = .ok (.ireturn, 1) := by decide +kernel
theorem d_md_pawnsFit_0 : decode b_md_pawnsFit 0 = .ok (.iconst 1, 1) := by decide +kernel
theorem d_md_pawnsFit_1 : decode b_md_pawnsFit 1 = .ok (.istore_n 1, 1) := by decide +kernel
theorem d_md_pawnsFit_2 : decode b_md_pawnsFit 2 = .ok (.iconst 0, 1) := by decide +kernel
theorem d_md_pawnsFit_3 : decode b_md_pawnsFit 3 = .ok (.istore_n 2, 1) := by decide +kernel
theorem d_md_pawnsFit_4 : decode b_md_pawnsFit 4 = .ok (.iload_n 2, 1) := by decide +kernel
theorem d_md_pawnsFit_5 : decode b_md_pawnsFit 5 = .ok (.bipush 8, 2) := by decide +kernel
theorem d_md_pawnsFit_7 : decode b_md_pawnsFit 7 = .ok (.if_icmp .ge 48, 3) := by decide +kernel
theorem d_md_pawnsFit_10 : decode b_md_pawnsFit 10 = .ok (.iload_n 1, 1) := by decide +kernel
theorem d_md_pawnsFit_11 : decode b_md_pawnsFit 11 = .ok (.ifCond .eq 36, 3) := by decide +kernel
theorem d_md_pawnsFit_14 : decode b_md_pawnsFit 14 = .ok (.aload_n 0, 1) := by decide +kernel
theorem d_md_pawnsFit_15 : decode b_md_pawnsFit 15 = .ok (.getfield 29, 3) := by decide +kernel
theorem d_md_pawnsFit_18 : decode b_md_pawnsFit 18 = .ok (.iload_n 2, 1) := by decide +kernel
theorem d_md_pawnsFit_19 : decode b_md_pawnsFit 19 = .ok (.iaload, 1) := by decide +kernel
theorem d_md_pawnsFit_20 : decode b_md_pawnsFit 20 = .ok (.bipush 6, 2) := by decide +kernel
theorem d_md_pawnsFit_22 : decode b_md_pawnsFit 22 = .ok (.irem, 1) := by decide +kernel
theorem d_md_pawnsFit_23 : decode b_md_pawnsFit 23 = .ok (.iconst 1, 1) := by decide +kernel
theorem d_md_pawnsFit_24 : decode b_md_pawnsFit 24 = .ok (.if_icmp .eq 23, 3) := by decide +kernel
theorem d_md_pawnsFit_27 : decode b_md_pawnsFit 27 = .ok (.aload_n 0, 1) := by decide +kernel
theorem d_md_pawnsFit_28 : decode b_md_pawnsFit 28 = .ok (.getfield 29, 3) := by decide +kernel
theorem d_md_pawnsFit_31 : decode b_md_pawnsFit 31 = .ok (.bipush 56, 2) := by decide +kernel
theorem d_md_pawnsFit_33 : decode b_md_pawnsFit 33 = .ok (.iload_n 2, 1) := by decide +kernel
theorem d_md_pawnsFit_34 : decode b_md_pawnsFit 34 = .ok (.iadd, 1) := by decide +kernel
theorem d_md_pawnsFit_35 : decode b_md_pawnsFit 35 = .ok (.iaload, 1) := by decide +kernel
theorem d_md_pawnsFit_36 : decode b_md_pawnsFit 36 = .ok (.bipush 6, 2) := by decide +kernel
theorem d_md_pawnsFit_38 : decode b_md_pawnsFit 38 = .ok (.irem, 1) := by decide +kernel
theorem d_md_pawnsFit_39 : decode b_md_pawnsFit 39 = .ok (.iconst 1, 1) := by decide +kernel
theorem d_md_pawnsFit_40 : decode b_md_pawnsFit 40 = .ok (.if_icmp .eq 7, 3) := by decide +kernel
theorem d_md_pawnsFit_43 : decode b_md_pawnsFit 43 = .ok (.iconst 1, 1) := by decide +kernel
theorem d_md_pawnsFit_44 : decode b_md_pawnsFit 44 = .ok (.goto 4, 3) := by decide +kernel
theorem d_md_pawnsFit_47 : decode b_md_pawnsFit 47 = .ok (.iconst 0, 1) := by decide +kernel
theorem d_md_pawnsFit_48 : decode b_md_pawnsFit 48 = .ok (.istore_n 1, 1) := by decide +kernel
theorem d_md_pawnsFit_49 : decode b_md_pawnsFit 49 = .ok (.iinc 2 1, 3) := by decide +kernel
theorem d_md_pawnsFit_52 : decode b_md_pawnsFit 52 = .ok (.goto (-48), 3) := by decide +kernel
theorem d_md_pawnsFit_55 : decode b_md_pawnsFit 55 = .ok (.iload_n 1, 1) := by decide +kernel
theorem d_md_pawnsFit_56 : decode b_md_pawnsFit 56 = .ok (.ifCond .eq 24, 3) := by decide +kernel
theorem d_md_pawnsFit_59 : decode b_md_pawnsFit 59 = .ok (.aload_n 0, 1) := by decide +kernel
theorem d_md_pawnsFit_60 : decode b_md_pawnsFit 60 = .ok (.iconst 0, 1) := by decide +kernel
theorem d_md_pawnsFit_61 : decode b_md_pawnsFit 61 = .ok (.invokevirtual 92, 3) := by decide +kernel
theorem d_md_pawnsFit_64 : decode b_md_pawnsFit 64 = .ok (.ifCond .ne 16, 3) := by decide +kernel
theorem d_md_pawnsFit_67 : decode b_md_pawnsFit 67 = .ok (.aload_n 0, 1) := by decide +kernel
theorem d_md_pawnsFit_68 : decode b_md_pawnsFit 68 = .ok (.bipush 6, 2) := by decide +kernel
theorem d_md_pawnsFit_70 : decode b_md_pawnsFit 70 = .ok (.invokevirtual 92, 3) := by decide +kernel
theorem d_md_pawnsFit_73 : decode b_md_pawnsFit 73 = .ok (.ifCond .ne 7, 3) := by decide +kernel
theorem d_md_pawnsFit_76 : decode b_md_pawnsFit 76 = .ok (.iconst 1, 1) := by decide +kernel
theorem d_md_pawnsFit_77 : decode b_md_pawnsFit 77 = .ok (.goto 4, 3) := by decide +kernel
theorem d_md_pawnsFit_80 : decode b_md_pawnsFit 80 = .ok (.iconst 0, 1) := by decide +kernel
theorem d_md_pawnsFit_81 : decode b_md_pawnsFit 81 = .ok (.ireturn, 1) := by decide +kernel
theorem d_md_above_0 : decode b_md_above 0 = .ok (.iload_n 0, 1) := by decide +kernel
theorem d_md_above_1 : decode b_md_above 1 = .ok (.iload_n 1, 1) := by decide +kernel
theorem d_md_above_2 : decode b_md_above 2 = .ok (.if_icmp .le 9, 3) := by decide +kernel
theorem d_md_above_5 : decode b_md_above 5 = .ok (.iload_n 0, 1) := by decide +kernel
theorem d_md_above_6 : decode b_md_above 6 = .ok (.iload_n 1, 1) := by decide +kernel
theorem d_md_above_7 : decode b_md_above 7 = .ok (.isub, 1) := by decide +kernel
theorem d_md_above_8 : decode b_md_above 8 = .ok (.goto 4, 3) := by decide +kernel
theorem d_md_above_11 : decode b_md_above 11 = .ok (.iconst 0, 1) := by decide +kernel
theorem d_md_above_12 : decode b_md_above 12 = .ok (.ireturn, 1) := by decide +kernel
theorem d_md_tooMany_0 : decode b_md_tooMany 0 = .ok (.aload_n 0, 1) := by decide +kernel
theorem d_md_tooMany_1 : decode b_md_tooMany 1 = .ok (.iconst 1, 1) := by decide +kernel
theorem d_md_tooMany_2 : decode b_md_tooMany 2 = .ok (.iload_n 1, 1) := by decide +kernel
theorem d_md_tooMany_3 : decode b_md_tooMany 3 = .ok (.iadd, 1) := by decide +kernel
theorem d_md_tooMany_4 : decode b_md_tooMany 4 = .ok (.invokevirtual 95, 3) := by decide +kernel
theorem d_md_tooMany_7 : decode b_md_tooMany 7 = .ok (.istore_n 2, 1) := by decide +kernel
theorem d_md_tooMany_8 : decode b_md_tooMany 8 = .ok (.aload_n 0, 1) := by decide +kernel
theorem d_md_tooMany_9 : decode b_md_tooMany 9 = .ok (.iconst 2, 1) := by decide +kernel
theorem d_md_tooMany_10 : decode b_md_tooMany 10 = .ok (.iload_n 1, 1) := by decide +kernel
theorem d_md_tooMany_11 : decode b_md_tooMany 11 = .ok (.iadd, 1) := by decide +kernel
theorem d_md_tooMany_12 : decode b_md_tooMany 12 = .ok (.invokevirtual 95, 3) := by decide +kernel
theorem d_md_tooMany_15 : decode b_md_tooMany 15 = .ok (.iconst 2, 1) := by decide +kernel
theorem d_md_tooMany_16 : decode b_md_tooMany 16 = .ok (.invokestatic 98, 3) := by decide +kernel
theorem d_md_tooMany_19 : decode b_md_tooMany 19 = .ok (.aload_n 0, 1) := by decide +kernel
theorem d_md_tooMany_20 : decode b_md_tooMany 20 = .ok (.iconst 3, 1) := by decide +kernel
theorem d_md_tooMany_21 : decode b_md_tooMany 21 = .ok (.iload_n 1, 1) := by decide +kernel
theorem d_md_tooMany_22 : decode b_md_tooMany 22 = .ok (.iadd, 1) := by decide +kernel
theorem d_md_tooMany_23 : decode b_md_tooMany 23 = .ok (.invokevirtual 95, 3) := by decide +kernel
theorem d_md_tooMany_26 : decode b_md_tooMany 26 = .ok (.iconst 2, 1) := by decide +kernel
theorem d_md_tooMany_27 : decode b_md_tooMany 27 = .ok (.invokestatic 98, 3) := by decide +kernel
theorem d_md_tooMany_30 : decode b_md_tooMany 30 = .ok (.iadd, 1) := by decide +kernel
theorem d_md_tooMany_31 : decode b_md_tooMany 31 = .ok (.aload_n 0, 1) := by decide +kernel
theorem d_md_tooMany_32 : decode b_md_tooMany 32 = .ok (.iconst 4, 1) := by decide +kernel
theorem d_md_tooMany_33 : decode b_md_tooMany 33 = .ok (.iload_n 1, 1) := by decide +kernel
theorem d_md_tooMany_34 : decode b_md_tooMany 34 = .ok (.iadd, 1) := by decide +kernel
theorem d_md_tooMany_35 : decode b_md_tooMany 35 = .ok (.invokevirtual 95, 3) := by decide +kernel
theorem d_md_tooMany_38 : decode b_md_tooMany 38 = .ok (.iconst 2, 1) := by decide +kernel
theorem d_md_tooMany_39 : decode b_md_tooMany 39 = .ok (.invokestatic 98, 3) := by decide +kernel
theorem d_md_tooMany_42 : decode b_md_tooMany 42 = .ok (.iadd, 1) := by decide +kernel
theorem d_md_tooMany_43 : decode b_md_tooMany 43 = .ok (.aload_n 0, 1) := by decide +kernel
theorem d_md_tooMany_44 : decode b_md_tooMany 44 = .ok (.iconst 5, 1) := by decide +kernel
theorem d_md_tooMany_45 : decode b_md_tooMany 45 = .ok (.iload_n 1, 1) := by decide +kernel
theorem d_md_tooMany_46 : decode b_md_tooMany 46 = .ok (.iadd, 1) := by decide +kernel
theorem d_md_tooMany_47 : decode b_md_tooMany 47 = .ok (.invokevirtual 95, 3) := by decide +kernel
theorem d_md_tooMany_50 : decode b_md_tooMany 50 = .ok (.iconst 1, 1) := by decide +kernel
theorem d_md_tooMany_51 : decode b_md_tooMany 51 = .ok (.invokestatic 98, 3) := by decide +kernel
theorem d_md_tooMany_54 : decode b_md_tooMany 54 = .ok (.iadd, 1) := by decide +kernel
theorem d_md_tooMany_55 : decode b_md_tooMany 55 = .ok (.istore_n 3, 1) := by decide +kernel
theorem d_md_tooMany_56 : decode b_md_tooMany 56 = .ok (.iload_n 2, 1) := by decide +kernel
theorem d_md_tooMany_57 : decode b_md_tooMany 57 = .ok (.bipush 8, 2) := by decide +kernel
theorem d_md_tooMany_59 : decode b_md_tooMany 59 = .ok (.if_icmp .gt 11, 3) := by decide +kernel
theorem d_md_tooMany_62 : decode b_md_tooMany 62 = .ok (.iload_n 3, 1) := by decide +kernel
theorem d_md_tooMany_63 : decode b_md_tooMany 63 = .ok (.bipush 8, 2) := by decide +kernel
theorem d_md_tooMany_65 : decode b_md_tooMany 65 = .ok (.iload_n 2, 1) := by decide +kernel
theorem d_md_tooMany_66 : decode b_md_tooMany 66 = .ok (.isub, 1) := by decide +kernel
theorem d_md_tooMany_67 : decode b_md_tooMany 67 = .ok (.if_icmp .le 7, 3) := by decide +kernel
theorem d_md_tooMany_70 : decode b_md_tooMany 70 = .ok (.iconst 1, 1) := by decide +kernel
theorem d_md_tooMany_71 : decode b_md_tooMany 71 = .ok (.goto 4, 3) := by decide +kernel
theorem d_md_tooMany_74 : decode b_md_tooMany 74 = .ok (.iconst 0, 1) := by decide +kernel
theorem d_md_tooMany_75 : decode b_md_tooMany 75 = .ok (.ireturn, 1) := by decide +kernel
theorem d_md_isAttacked_0 : decode b_md_isAttacked 0 = .ok (.iload_n 1, 1) := by decide +kernel
theorem d_md_isAttacked_1 : decode b_md_isAttacked 1 = .ok (.bipush 8, 2) := by decide +kernel
