theorem d_md_say_5 : decode b_md_say 5 = .ok (.getfield 158, 3) := by decide +kernel
theorem d_md_say_8 : decode b_md_say 8 = .ok (.iload_n 1, 1) := by decide +kernel
theorem d_md_say_9 : decode b_md_say 9 = .ok (.iastore, 1) := by decide +kernel
theorem d_md_say_10 : decode b_md_say 10 = .ok (.aload_n 0, 1) := by decide +kernel
theorem d_md_say_11 : decode b_md_say 11 = .ok (.dup, 1) := by decide +kernel
theorem d_md_say_12 : decode b_md_say 12 = .ok (.getfield 158, 3) := by decide +kernel
theorem d_md_say_15 : decode b_md_say 15 = .ok (.iconst 1, 1) := by decide +kernel
theorem d_md_say_16 : decode b_md_say 16 = .ok (.iadd, 1) := by decide +kernel
theorem d_md_say_17 : decode b_md_say 17 = .ok (.putfield 158, 3) := by decide +kernel
theorem d_md_say_20 : decode b_md_say 20 = .ok (.return_, 1) := by decide +kernel
theorem d_md_castles_0 : decode b_md_castles 0 = .ok (.aload_n 0, 1) := by decide +kernel
theorem d_md_castles_1 : decode b_md_castles 1 = .ok (.getfield 7, 3) := by decide +kernel
theorem d_md_castles_4 : decode b_md_castles 4 = .ok (.iload_n 1, 1) := by decide +kernel
theorem d_md_castles_5 : decode b_md_castles 5 = .ok (.invokestatic 146, 3) := by decide +kernel
theorem d_md_castles_8 : decode b_md_castles 8 = .ok (.iaload, 1) := by decide +kernel
theorem d_md_castles_9 : decode b_md_castles 9 = .ok (.istore_n 2, 1) := by decide +kernel
theorem d_md_castles_10 : decode b_md_castles 10 = .ok (.iload_n 1, 1) := by decide +kernel
theorem d_md_castles_11 : decode b_md_castles 11 = .ok (.invokestatic 149, 3) := by decide +kernel
theorem d_md_castles_14 : decode b_md_castles 14 = .ok (.bipush 8, 2) := by decide +kernel
theorem d_md_castles_16 : decode b_md_castles 16 = .ok (.irem, 1) := by decide +kernel
theorem d_md_castles_17 : decode b_md_castles 17 = .ok (.iload_n 1, 1) := by decide +kernel
theorem d_md_castles_18 : decode b_md_castles 18 = .ok (.invokestatic 146, 3) := by decide +kernel
theorem d_md_castles_21 : decode b_md_castles 21 = .ok (.bipush 8, 2) := by decide +kernel
theorem d_md_castles_23 : decode b_md_castles 23 = .ok (.irem, 1) := by decide +kernel
theorem d_md_castles_24 : decode b_md_castles 24 = .ok (.isub, 1) := by decide +kernel
theorem d_md_castles_25 : decode b_md_castles 25 = .ok (.istore_n 3, 1) := by decide +kernel
theorem d_md_castles_26 : decode b_md_castles 26 = .ok (.iload_n 2, 1) := by decide +kernel
theorem d_md_castles_27 : decode b_md_castles 27 = .ok (.bipush 6, 2) := by decide +kernel
theorem d_md_castles_29 : decode b_md_castles 29 = .ok (.if_icmp .eq 13, 3) := by decide +kernel
theorem d_md_castles_32 : decode b_md_castles 32 = .ok (.iload_n 2, 1) := by decide +kernel
theorem d_md_castles_33 : decode b_md_castles 33 = .ok (.bipush 12, 2) := by decide +kernel
theorem d_md_castles_35 : decode b_md_castles 35 = .ok (.if_icmp .eq 7, 3) := by decide +kernel
theorem d_md_castles_38 : decode b_md_castles 38 = .ok (.iconst 0, 1) := by decide +kernel
theorem d_md_castles_39 : decode b_md_castles 39 = .ok (.goto 22, 3) := by decide +kernel
theorem d_md_castles_42 : decode b_md_castles 42 = .ok (.iload_n 3, 1) := by decide +kernel
theorem d_md_castles_43 : decode b_md_castles 43 = .ok (.iconst 1, 1) := by decide +kernel
theorem d_md_castles_44 : decode b_md_castles 44 = .ok (.if_icmp .le 7, 3) := by decide +kernel
theorem d_md_castles_47 : decode b_md_castles 47 = .ok (.iconst 1, 1) := by decide +kernel
theorem d_md_castles_48 : decode b_md_castles 48 = .ok (.goto 13, 3) := by decide +kernel
theorem d_md_castles_51 : decode b_md_castles 51 = .ok (.iload_n 3, 1) := by decide +kernel
theorem d_md_castles_52 : decode b_md_castles 52 = .ok (.iconst (-1), 1) := by decide +kernel
theorem d_md_castles_53 : decode b_md_castles 53 = .ok (.if_icmp .ge 7, 3) := by decide +kernel
theorem d_md_castles_56 : decode b_md_castles 56 = .ok (.iconst 2, 1) := by decide +kernel
theorem d_md_castles_57 : decode b_md_castles 57 = .ok (.goto 4, 3) := by decide +kernel
theorem d_md_castles_60 : decode b_md_castles 60 = .ok (.iconst 0, 1) := by decide +kernel
theorem d_md_castles_61 : decode b_md_castles 61 = .ok (.ireturn, 1) := by decide +kernel
theorem d_md_sayCastling_0 : decode b_md_sayCastling 0 = .ok (.aload_n 0, 1) := by decide +kernel
theorem d_md_sayCastling_1 : decode b_md_sayCastling 1 = .ok (.bipush 48, 2) := by decide +kernel
theorem d_md_sayCastling_3 : decode b_md_sayCastling 3 = .ok (.invokevirtual 161, 3) := by decide +kernel
theorem d_md_sayCastling_6 : decode b_md_sayCastling 6 = .ok (.aload_n 0, 1) := by decide +kernel
theorem d_md_sayCastling_7 : decode b_md_sayCastling 7 = .ok (.bipush 45, 2) := by decide +kernel
theorem d_md_sayCastling_9 : decode b_md_sayCastling 9 = .ok (.invokevirtual 161, 3) := by decide +kernel
theorem d_md_sayCastling_12 : decode b_md_sayCastling 12 = .ok (.aload_n 0, 1) := by decide +kernel
theorem d_md_sayCastling_13 : decode b_md_sayCastling 13 = .ok (.bipush 48, 2) := by decide +kernel
theorem d_md_sayCastling_15 : decode b_md_sayCastling 15 = .ok (.invokevirtual 161, 3) := by decide +kernel
theorem d_md_sayCastling_18 : decode b_md_sayCastling 18 = .ok (.iload_n 1, 1) := by decide +kernel
theorem d_md_sayCastling_19 : decode b_md_sayCastling 19 = .ok (.iconst 2, 1) := by decide +kernel
theorem d_md_sayCastling_20 : decode b_md_sayCastling 20 = .ok (.if_icmp .ne 15, 3) := by decide +kernel
theorem d_md_sayCastling_23 : decode b_md_sayCastling 23 = .ok (.aload_n 0, 1) := by decide +kernel
theorem d_md_sayCastling_24 : decode b_md_sayCastling 24 = .ok (.bipush 45, 2) := by decide +kernel
theorem d_md_sayCastling_26 : decode b_md_sayCastling 26 = .ok (.invokevirtual 161, 3) := by decide +kernel
theorem d_md_sayCastling_29 : decode b_md_sayCastling 29 = .ok (.aload_n 0, 1) := by decide +kernel
theorem d_md_sayCastling_30 : decode b_md_sayCastling 30 = .ok (.bipush 48, 2) := by decide +kernel
theorem d_md_sayCastling_32 : decode b_md_sayCastling 32 = .ok (.invokevirtual 161, 3) := by decide +kernel
theorem d_md_sayCastling_35 : decode b_md_sayCastling 35 = .ok (.return_, 1) := by decide +kernel
theorem d_md_saySquare_0 : decode b_md_saySquare 0 = .ok (.aload_n 0, 1) := by decide +kernel
theorem d_md_saySquare_1 : decode b_md_saySquare 1 = .ok (.bipush 97, 2) := by decide +kernel
theorem d_md_saySquare_3 : decode b_md_saySquare 3 = .ok (.iload_n 1, 1) := by decide +kernel
theorem d_md_saySquare_4 : decode b_md_saySquare 4 = .ok (.bipush 8, 2) := by decide +kernel
theorem d_md_saySquare_6 : decode b_md_saySquare 6 = .ok (.irem, 1) := by decide +kernel
theorem d_md_saySquare_7 : decode b_md_saySquare 7 = .ok (.iadd, 1) := by decide +kernel
theorem d_md_saySquare_8 : decode b_md_saySquare 8 = .ok (.invokevirtual 161, 3) := by decide +kernel
theorem d_md_saySquare_11 : decode b_md_saySquare 11 = .ok (.aload_n 0, 1) := by decide +kernel
theorem d_md_saySquare_12 : decode b_md_saySquare 12 = .ok (.bipush 49, 2) := by decide +kernel
theorem d_md_saySquare_14 : decode b_md_saySquare 14 = .ok (.iload_n 1, 1) := by decide +kernel
theorem d_md_saySquare_15 : decode b_md_saySquare 15 = .ok (.bipush 8, 2) := by decide +kernel
theorem d_md_saySquare_17 : decode b_md_saySquare 17 = .ok (.idiv, 1) := by decide +kernel
theorem d_md_saySquare_18 : decode b_md_saySquare 18 = .ok (.iadd, 1) := by decide +kernel
theorem d_md_saySquare_19 : decode b_md_saySquare 19 = .ok (.invokevirtual 161, 3) := by decide +kernel
theorem d_md_saySquare_22 : decode b_md_saySquare 22 = .ok (.return_, 1) := by decide +kernel
theorem d_md_rivals_0 : decode b_md_rivals 0 = .ok (.iload_n 1, 1) := by decide +kernel
theorem d_md_rivals_1 : decode b_md_rivals 1 = .ok (.invokestatic 146, 3) := by decide +kernel
theorem d_md_rivals_4 : decode b_md_rivals 4 = .ok (.istore_n 3, 1) := by decide +kernel
theorem d_md_rivals_5 : decode b_md_rivals 5 = .ok (.iconst 0, 1) := by decide +kernel
theorem d_md_rivals_6 : decode b_md_rivals 6 = .ok (.istore 4, 2) := by decide +kernel
theorem d_md_rivals_8 : decode b_md_rivals 8 = .ok (.iconst 0, 1) := by decide +kernel
theorem d_md_rivals_9 : decode b_md_rivals 9 = .ok (.istore 5, 2) := by decide +kernel
theorem d_md_rivals_11 : decode b_md_rivals 11 = .ok (.iload 5, 2) := by decide +kernel
theorem d_md_rivals_13 : decode b_md_rivals 13 = .ok (.aload_n 0, 1) := by decide +kernel
theorem d_md_rivals_14 : decode b_md_rivals 14 = .ok (.getfield 133, 3) := by decide +kernel
theorem d_md_rivals_17 : decode b_md_rivals 17 = .ok (.if_icmp .ge 120, 3) := by decide +kernel
theorem d_md_rivals_20 : decode b_md_rivals 20 = .ok (.aload_n 0, 1) := by decide +kernel
theorem d_md_rivals_21 : decode b_md_rivals 21 = .ok (.getfield 23, 3) := by decide +kernel
theorem d_md_rivals_24 : decode b_md_rivals 24 = .ok (.iload 5, 2) := by decide +kernel
theorem d_md_rivals_26 : decode b_md_rivals 26 = .ok (.iaload, 1) := by decide +kernel
theorem d_md_rivals_27 : decode b_md_rivals 27 = .ok (.invokestatic 146, 3) := by decide +kernel
theorem d_md_rivals_30 : decode b_md_rivals 30 = .ok (.istore 6, 2) := by decide +kernel
theorem d_md_rivals_32 : decode b_md_rivals 32 = .ok (.iload 6, 2) := by decide +kernel
theorem d_md_rivals_34 : decode b_md_rivals 34 = .ok (.iload_n 3, 1) := by decide +kernel
theorem d_md_rivals_35 : decode b_md_rivals 35 = .ok (.if_icmp .eq 40, 3) := by decide +kernel
theorem d_md_rivals_38 : decode b_md_rivals 38 = .ok (.aload_n 0, 1) := by decide +kernel
theorem d_md_rivals_39 : decode b_md_rivals 39 = .ok (.getfield 23, 3) := by decide +kernel
theorem d_md_rivals_42 : decode b_md_rivals 42 = .ok (.iload 5, 2) := by decide +kernel
theorem d_md_rivals_44 : decode b_md_rivals 44 = .ok (.iaload, 1) := by decide +kernel
theorem d_md_rivals_45 : decode b_md_rivals 45 = .ok (.invokestatic 149, 3) := by decide +kernel
theorem d_md_rivals_48 : decode b_md_rivals 48 = .ok (.iload_n 1, 1) := by decide +kernel
theorem d_md_rivals_49 : decode b_md_rivals 49 = .ok (.invokestatic 149, 3) := by decide +kernel
theorem d_md_rivals_52 : decode b_md_rivals 52 = .ok (.if_icmp .ne 23, 3) := by decide +kernel
theorem d_md_rivals_55 : decode b_md_rivals 55 = .ok (.aload_n 0, 1) := by decide +kernel
theorem d_md_rivals_56 : decode b_md_rivals 56 = .ok (.getfield 7, 3) := by decide +kernel
theorem d_md_rivals_59 : decode b_md_rivals 59 = .ok (.iload 6, 2) := by decide +kernel
theorem d_md_rivals_61 : decode b_md_rivals 61 = .ok (.iaload, 1) := by decide +kernel
theorem d_md_rivals_62 : decode b_md_rivals 62 = .ok (.aload_n 0, 1) := by decide +kernel
theorem d_md_rivals_63 : decode b_md_rivals 63 = .ok (.getfield 7, 3) := by decide +kernel
theorem d_md_rivals_66 : decode b_md_rivals 66 = .ok (.iload_n 3, 1) := by decide +kernel
theorem d_md_rivals_67 : decode b_md_rivals 67 = .ok (.iaload, 1) := by decide +kernel
theorem d_md_rivals_68 : decode b_md_rivals 68 = .ok (.if_icmp .ne 7, 3) := by decide +kernel
theorem d_md_rivals_71 : decode b_md_rivals 71 = .ok (.iconst 1, 1) := by decide +kernel
theorem d_md_rivals_72 : decode b_md_rivals 72 = .ok (.goto 4, 3) := by decide +kernel
theorem d_md_rivals_75 : decode b_md_rivals 75 = .ok (.iconst 0, 1) := by decide +kernel
theorem d_md_rivals_76 : decode b_md_rivals 76 = .ok (.istore 7, 2) := by decide +kernel
theorem d_md_rivals_78 : decode b_md_rivals 78 = .ok (.iload 4, 2) := by decide +kernel
theorem d_md_rivals_80 : decode b_md_rivals 80 = .ok (.iload 7, 2) := by decide +kernel
theorem d_md_rivals_82 : decode b_md_rivals 82 = .ok (.ifCond .eq 45, 3) := by decide +kernel
theorem d_md_rivals_85 : decode b_md_rivals 85 = .ok (.iload_n 2, 1) := by decide +kernel
theorem d_md_rivals_86 : decode b_md_rivals 86 = .ok (.ifCond .eq 37, 3) := by decide +kernel
theorem d_md_rivals_89 : decode b_md_rivals 89 = .ok (.iload_n 2, 1) := by decide +kernel
theorem d_md_rivals_90 : decode b_md_rivals 90 = .ok (.iconst 1, 1) := by decide +kernel
theorem d_md_rivals_91 : decode b_md_rivals 91 = .ok (.if_icmp .ne 15, 3) := by decide +kernel
theorem d_md_rivals_94 : decode b_md_rivals 94 = .ok (.iload 6, 2) := by decide +kernel
theorem d_md_rivals_96 : decode b_md_rivals 96 = .ok (.bipush 8, 2) := by decide +kernel
theorem d_md_rivals_98 : decode b_md_rivals 98 = .ok (.irem, 1) := by decide +kernel
theorem d_md_rivals_99 : decode b_md_rivals 99 = .ok (.iload_n 3, 1) := by decide +kernel
theorem d_md_rivals_100 : decode b_md_rivals 100 = .ok (.bipush 8, 2) := by decide +kernel
theorem d_md_rivals_102 : decode b_md_rivals 102 = .ok (.irem, 1) := by decide +kernel
theorem d_md_rivals_103 : decode b_md_rivals 103 = .ok (.if_icmp .eq 20, 3) := by decide +kernel
theorem d_md_rivals_106 : decode b_md_rivals 106 = .ok (.iload_n 2, 1) := by decide +kernel
theorem d_md_rivals_107 : decode b_md_rivals 107 = .ok (.iconst 2, 1) := by decide +kernel
theorem d_md_rivals_108 : decode b_md_rivals 108 = .ok (.if_icmp .ne 19, 3) := by decide +kernel
theorem d_md_rivals_111 : decode b_md_rivals 111 = .ok (.iload 6, 2) := by decide +kernel
theorem d_md_rivals_113 : decode b_md_rivals 113 = .ok (.bipush 8, 2) := by decide +kernel
theorem d_md_rivals_115 : decode b_md_rivals 115 = .ok (.idiv, 1) := by decide +kernel
theorem d_md_rivals_116 : decode b_md_rivals 116 = .ok (.iload_n 3, 1) := by decide +kernel
theorem d_md_rivals_117 : decode b_md_rivals 117 = .ok (.bipush 8, 2) := by decide +kernel
theorem d_md_rivals_119 : decode b_md_rivals 119 = .ok (.idiv, 1) := by decide +kernel
theorem d_md_rivals_120 : decode b_md_rivals 120 = .ok (.if_icmp .ne 7, 3) := by decide +kernel
theorem d_md_rivals_123 : decode b_md_rivals 123 = .ok (.iconst 1, 1) := by decide +kernel
theorem d_md_rivals_124 : decode b_md_rivals 124 = .ok (.goto 4, 3) := by decide +kernel
theorem d_md_rivals_127 : decode b_md_rivals 127 = .ok (.iconst 0, 1) := by decide +kernel
theorem d_md_rivals_128 : decode b_md_rivals 128 = .ok (.iadd, 1) := by decide +kernel
theorem d_md_rivals_129 : decode b_md_rivals 129 = .ok (.istore 4, 2) := by decide +kernel
theorem d_md_rivals_131 : decode b_md_rivals 131 = .ok (.iinc 5 1, 3) := by decide +kernel
theorem d_md_rivals_134 : decode b_md_rivals 134 = .ok (.goto (-123), 3) := by decide +kernel
theorem d_md_rivals_137 : decode b_md_rivals 137 = .ok (.iload 4, 2) := by decide +kernel
theorem d_md_rivals_139 : decode b_md_rivals 139 = .ok (.ireturn, 1) := by decide +kernel
theorem d_md_sayOrigin_0 : decode b_md_sayOrigin 0 = .ok (.iload_n 1, 1) := by decide +kernel
theorem d_md_sayOrigin_1 : decode b_md_sayOrigin 1 = .ok (.invokestatic 146, 3) := by decide +kernel
theorem d_md_sayOrigin_4 : decode b_md_sayOrigin 4 = .ok (.istore_n 2, 1) := by decide +kernel
theorem d_md_sayOrigin_5 : decode b_md_sayOrigin 5 = .ok (.aload_n 0, 1) := by decide +kernel
theorem d_md_sayOrigin_6 : decode b_md_sayOrigin 6 = .ok (.iload_n 1, 1) := by decide +kernel
theorem d_md_sayOrigin_7 : decode b_md_sayOrigin 7 = .ok (.iconst 0, 1) := by decide +kernel
theorem d_md_sayOrigin_8 : decode b_md_sayOrigin 8 = .ok (.invokevirtual 164, 3) := by decide +kernel
theorem d_md_sayOrigin_11 : decode b_md_sayOrigin 11 = .ok (.ifCond .ne 4, 3) := by decide +kernel
theorem d_md_sayOrigin_14 : decode b_md_sayOrigin 14 = .ok (.return_, 1) := by decide +kernel
theorem d_md_sayOrigin_15 : decode b_md_sayOrigin 15 = .ok (.aload_n 0, 1) := by decide +kernel
theorem d_md_sayOrigin_16 : decode b_md_sayOrigin 16 = .ok (.iload_n 1, 1) := by decide +kernel
theorem d_md_sayOrigin_17 : decode b_md_sayOrigin 17 = .ok (.iconst 1, 1) := by decide +kernel
theorem d_md_sayOrigin_18 : decode b_md_sayOrigin 18 = .ok (.invokevirtual 164, 3) := by decide +kernel
theorem d_md_sayOrigin_21 : decode b_md_sayOrigin 21 = .ok (.ifCond .ne 7, 3) := by decide +kernel
theorem d_md_sayOrigin_24 : decode b_md_sayOrigin 24 = .ok (.iconst 1, 1) := by decide +kernel
theorem d_md_sayOrigin_25 : decode b_md_sayOrigin 25 = .ok (.goto 4, 3) := by decide +kernel
theorem d_md_sayOrigin_28 : decode b_md_sayOrigin 28 = .ok (.iconst 0, 1) := by decide +kernel
theorem d_md_sayOrigin_29 : decode b_md_sayOrigin 29 = .ok (.istore_n 3, 1) := by decide +kernel
theorem d_md_sayOrigin_30 : decode b_md_sayOrigin 30 = .ok (.iload_n 3, 1) := by decide +kernel
theorem d_md_sayOrigin_31 : decode b_md_sayOrigin 31 = .ok (.ifCond .ne 16, 3) := by decide +kernel
theorem d_md_sayOrigin_34 : decode b_md_sayOrigin 34 = .ok (.aload_n 0, 1) := by decide +kernel
theorem d_md_sayOrigin_35 : decode b_md_sayOrigin 35 = .ok (.iload_n 1, 1) := by decide +kernel
theorem d_md_sayOrigin_36 : decode b_md_sayOrigin 36 = .ok (.iconst 2, 1) := by decide +kernel
theorem d_md_sayOrigin_37 : decode b_md_sayOrigin 37 = .ok (.invokevirtual 164, 3) := by decide +kernel
theorem d_md_sayOrigin_40 : decode b_md_sayOrigin 40 = .ok (.ifCond .ne 7, 3) := by decide +kernel
theorem d_md_sayOrigin_43 : decode b_md_sayOrigin 43 = .ok (.iconst 1, 1) := by decide +kernel
theorem d_md_sayOrigin_44 : decode b_md_sayOrigin 44 = .ok (.goto 4, 3) := by decide +kernel
theorem d_md_sayOrigin_47 : decode b_md_sayOrigin 47 = .ok (.iconst 0, 1) := by decide +kernel
theorem d_md_sayOrigin_48 : decode b_md_sayOrigin 48 = .ok (.istore 4, 2) := by decide +kernel
theorem d_md_sayOrigin_50 : decode b_md_sayOrigin 50 = .ok (.iload_n 3, 1) := by decide +kernel
theorem d_md_sayOrigin_51 : decode b_md_sayOrigin 51 = .ok (.ifCond .ne 8, 3) := by decide +kernel
theorem d_md_sayOrigin_54 : decode b_md_sayOrigin 54 = .ok (.iload 4, 2) := by decide +kernel
theorem d_md_sayOrigin_56 : decode b_md_sayOrigin 56 = .ok (.ifCond .ne 14, 3) := by decide +kernel
theorem d_md_sayOrigin_59 : decode b_md_sayOrigin 59 = .ok (.aload_n 0, 1) := by decide +kernel
theorem d_md_sayOrigin_60 : decode b_md_sayOrigin 60 = .ok (.bipush 97, 2) := by decide +kernel
theorem d_md_sayOrigin_62 : decode b_md_sayOrigin 62 = .ok (.iload_n 2, 1) := by decide +kernel
theorem d_md_sayOrigin_63 : decode b_md_sayOrigin 63 = .ok (.bipush 8, 2) := by decide +kernel
theorem d_md_sayOrigin_65 : decode b_md_sayOrigin 65 = .ok (.irem, 1) := by decide +kernel
theorem d_md_sayOrigin_66 : decode b_md_sayOrigin 66 = .ok (.iadd, 1) := by decide +kernel
theorem d_md_sayOrigin_67 : decode b_md_sayOrigin 67 = .ok (.invokevirtual 161, 3) := by decide +kernel
theorem d_md_sayOrigin_70 : decode b_md_sayOrigin 70 = .ok (.iload_n 3, 1) := by decide +kernel
theorem d_md_sayOrigin_71 : decode b_md_sayOrigin 71 = .ok (.ifCond .ne 14, 3) := by decide +kernel
theorem d_md_sayOrigin_74 : decode b_md_sayOrigin 74 = .ok (.aload_n 0, 1) := by decide +kernel
theorem d_md_sayOrigin_75 : decode b_md_sayOrigin 75 = .ok (.bipush 49, 2) := by decide +kernel
theorem d_md_sayOrigin_77 : decode b_md_sayOrigin 77 = .ok (.iload_n 2, 1) := by decide +kernel
theorem d_md_sayOrigin_78 : decode b_md_sayOrigin 78 = .ok (.bipush 8, 2) := by decide +kernel
theorem d_md_sayOrigin_80 : decode b_md_sayOrigin 80 = .ok (.idiv, 1) := by decide +kernel
theorem d_md_sayOrigin_81 : decode b_md_sayOrigin 81 = .ok (.iadd, 1) := by decide +kernel
theorem d_md_sayOrigin_82 : decode b_md_sayOrigin 82 = .ok (.invokevirtual 161, 3) := by decide +kernel
theorem d_md_sayOrigin_85 : decode b_md_sayOrigin 85 = .ok (.return_, 1) := by decide +kernel
theorem d_md_spelling_0 : decode b_md_spelling 0 = .ok (.aload_n 0, 1) := by decide +kernel
theorem d_md_spelling_1 : decode b_md_spelling 1 = .ok (.iconst 0, 1) := by decide +kernel
theorem d_md_spelling_2 : decode b_md_spelling 2 = .ok (.putfield 158, 3) := by decide +kernel
theorem d_md_spelling_5 : decode b_md_spelling 5 = .ok (.iload_n 1, 1) := by decide +kernel
theorem d_md_spelling_6 : decode b_md_spelling 6 = .ok (.invokestatic 146, 3) := by decide +kernel
theorem d_md_spelling_9 : decode b_md_spelling 9 = .ok (.istore_n 2, 1) := by decide +kernel
theorem d_md_spelling_10 : decode b_md_spelling 10 = .ok (.iload_n 1, 1) := by decide +kernel
theorem d_md_spelling_11 : decode b_md_spelling 11 = .ok (.invokestatic 149, 3) := by decide +kernel
theorem d_md_spelling_14 : decode b_md_spelling 14 = .ok (.istore_n 3, 1) := by decide +kernel
theorem d_md_spelling_15 : decode b_md_spelling 15 = .ok (.aload_n 0, 1) := by decide +kernel
theorem d_md_spelling_16 : decode b_md_spelling 16 = .ok (.getfield 7, 3) := by decide +kernel
theorem d_md_spelling_19 : decode b_md_spelling 19 = .ok (.iload_n 2, 1) := by decide +kernel
theorem d_md_spelling_20 : decode b_md_spelling 20 = .ok (.iaload, 1) := by decide +kernel
theorem d_md_spelling_21 : decode b_md_spelling 21 = .ok (.istore 4, 2) := by decide +kernel
theorem d_md_spelling_23 : decode b_md_spelling 23 = .ok (.aload_n 0, 1) := by decide +kernel
theorem d_md_spelling_24 : decode b_md_spelling 24 = .ok (.iload_n 1, 1) := by decide +kernel
theorem d_md_spelling_25 : decode b_md_spelling 25 = .ok (.invokevirtual 167, 3) := by decide +kernel
theorem d_md_spelling_28 : decode b_md_spelling 28 = .ok (.ifCond .le 15, 3) := by decide +kernel
theorem d_md_spelling_31 : decode b_md_spelling 31 = .ok (.aload_n 0, 1) := by decide +kernel
theorem d_md_spelling_32 : decode b_md_spelling 32 = .ok (.aload_n 0, 1) := by decide +kernel
theorem d_md_spelling_33 : decode b_md_spelling 33 = .ok (.iload_n 1, 1) := by decide +kernel
theorem d_md_spelling_34 : decode b_md_spelling 34 = .ok (.invokevirtual 167, 3) := by decide +kernel
theorem d_md_spelling_37 : decode b_md_spelling 37 = .ok (.invokevirtual 170, 3) := by decide +kernel
theorem d_md_spelling_40 : decode b_md_spelling 40 = .ok (.goto 115, 3) := by decide +kernel
theorem d_md_spelling_43 : decode b_md_spelling 43 = .ok (.aload_n 0, 1) := by decide +kernel
theorem d_md_spelling_44 : decode b_md_spelling 44 = .ok (.iload 4, 2) := by decide +kernel
theorem d_md_spelling_46 : decode b_md_spelling 46 = .ok (.invokevirtual 152, 3) := by decide +kernel
theorem d_md_spelling_49 : decode b_md_spelling 49 = .ok (.ifCond .eq 57, 3) := by decide +kernel
theorem d_md_spelling_52 : decode b_md_spelling 52 = .ok (.iload_n 2, 1) := by decide +kernel
theorem d_md_spelling_53 : decode b_md_spelling 53 = .ok (.bipush 8, 2) := by decide +kernel
theorem d_md_spelling_55 : decode b_md_spelling 55 = .ok (.irem, 1) := by decide +kernel
theorem d_md_spelling_56 : decode b_md_spelling 56 = .ok (.iload_n 3, 1) := by decide +kernel
theorem d_md_spelling_57 : decode b_md_spelling 57 = .ok (.bipush 8, 2) := by decide +kernel
theorem d_md_spelling_59 : decode b_md_spelling 59 = .ok (.irem, 1) := by decide +kernel
theorem d_md_spelling_60 : decode b_md_spelling 60 = .ok (.if_icmp .eq 20, 3) := by decide +kernel
theorem d_md_spelling_63 : decode b_md_spelling 63 = .ok (.aload_n 0, 1) := by decide +kernel
theorem d_md_spelling_64 : decode b_md_spelling 64 = .ok (.bipush 97, 2) := by decide +kernel
theorem d_md_spelling_66 : decode b_md_spelling 66 = .ok (.iload_n 2, 1) := by decide +kernel
theorem d_md_spelling_67 : decode b_md_spelling 67 = .ok (.bipush 8, 2) := by decide +kernel
theorem d_md_spelling_69 : decode b_md_spelling 69 = .ok (.irem, 1) := by decide +kernel
theorem d_md_spelling_70 : decode b_md_spelling 70 = .ok (.iadd, 1) := by decide +kernel
theorem d_md_spelling_71 : decode b_md_spelling 71 = .ok (.invokevirtual 161, 3) := by decide +kernel
theorem d_md_spelling_74 : decode b_md_spelling 74 = .ok (.aload_n 0, 1) := by decide +kernel
theorem d_md_spelling_75 : decode b_md_spelling 75 = .ok (.bipush 120, 2) := by decide +kernel
theorem d_md_spelling_77 : decode b_md_spelling 77 = .ok (.invokevirtual 161, 3) := by decide +kernel
theorem d_md_spelling_80 : decode b_md_spelling 80 = .ok (.aload_n 0, 1) := by decide +kernel
theorem d_md_spelling_81 : decode b_md_spelling 81 = .ok (.iload_n 3, 1) := by decide +kernel
theorem d_md_spelling_82 : decode b_md_spelling 82 = .ok (.invokevirtual 173, 3) := by decide +kernel
theorem d_md_spelling_85 : decode b_md_spelling 85 = .ok (.iload_n 1, 1) := by decide +kernel
theorem d_md_spelling_86 : decode b_md_spelling 86 = .ok (.bipush 12, 2) := by decide +kernel
theorem d_md_spelling_88 : decode b_md_spelling 88 = .ok (.ishr, 1) := by decide +kernel
theorem d_md_spelling_89 : decode b_md_spelling 89 = .ok (.ifCond .le 66, 3) := by decide +kernel
theorem d_md_spelling_92 : decode b_md_spelling 92 = .ok (.aload_n 0, 1) := by decide +kernel
theorem d_md_spelling_93 : decode b_md_spelling 93 = .ok (.iload_n 1, 1) := by decide +kernel
theorem d_md_spelling_94 : decode b_md_spelling 94 = .ok (.bipush 12, 2) := by decide +kernel
theorem d_md_spelling_96 : decode b_md_spelling 96 = .ok (.ishr, 1) := by decide +kernel
theorem d_md_spelling_97 : decode b_md_spelling 97 = .ok (.invokestatic 50, 3) := by decide +kernel
theorem d_md_spelling_100 : decode b_md_spelling 100 = .ok (.invokevirtual 161, 3) := by decide +kernel
theorem d_md_spelling_103 : decode b_md_spelling 103 = .ok (.goto 52, 3) := by decide +kernel
theorem d_md_spelling_106 : decode b_md_spelling 106 = .ok (.aload_n 0, 1) := by decide +kernel
theorem d_md_spelling_107 : decode b_md_spelling 107 = .ok (.iload 4, 2) := by decide +kernel
theorem d_md_spelling_109 : decode b_md_spelling 109 = .ok (.bipush 6, 2) := by decide +kernel
theorem d_md_spelling_111 : decode b_md_spelling 111 = .ok (.if_icmp .le 11, 3) := by decide +kernel
theorem d_md_spelling_114 : decode b_md_spelling 114 = .ok (.iload 4, 2) := by decide +kernel
theorem d_md_spelling_116 : decode b_md_spelling 116 = .ok (.bipush 6, 2) := by decide +kernel
theorem d_md_spelling_118 : decode b_md_spelling 118 = .ok (.isub, 1) := by decide +kernel
theorem d_md_spelling_119 : decode b_md_spelling 119 = .ok (.goto 5, 3) := by decide +kernel
theorem d_md_spelling_122 : decode b_md_spelling 122 = .ok (.iload 4, 2) := by decide +kernel
theorem d_md_spelling_124 : decode b_md_spelling 124 = .ok (.invokestatic 50, 3) := by decide +kernel
theorem d_md_spelling_127 : decode b_md_spelling 127 = .ok (.invokevirtual 161, 3) := by decide +kernel
theorem d_md_spelling_130 : decode b_md_spelling 130 = .ok (.aload_n 0, 1) := by decide +kernel
theorem d_md_spelling_131 : decode b_md_spelling 131 = .ok (.iload_n 1, 1) := by decide +kernel
theorem d_md_spelling_132 : decode b_md_spelling 132 = .ok (.invokevirtual 176, 3) := by decide +kernel
theorem d_md_spelling_135 : decode b_md_spelling 135 = .ok (.aload_n 0, 1) := by decide +kernel
theorem d_md_spelling_136 : decode b_md_spelling 136 = .ok (.getfield 7, 3) := by decide +kernel
theorem d_md_spelling_139 : decode b_md_spelling 139 = .ok (.iload_n 3, 1) := by decide +kernel
theorem d_md_spelling_140 : decode b_md_spelling 140 = .ok (.iaload, 1) := by decide +kernel
theorem d_md_spelling_141 : decode b_md_spelling 141 = .ok (.ifCond .le 9, 3) := by decide +kernel
theorem d_md_spelling_144 : decode b_md_spelling 144 = .ok (.aload_n 0, 1) := by decide +kernel
theorem d_md_spelling_145 : decode b_md_spelling 145 = .ok (.bipush 120, 2) := by decide +kernel
theorem d_md_spelling_147 : decode b_md_spelling 147 = .ok (.invokevirtual 161, 3) := by decide +kernel
theorem d_md_spelling_150 : decode b_md_spelling 150 = .ok (.aload_n 0, 1) := by decide +kernel
theorem d_md_spelling_151 : decode b_md_spelling 151 = .ok (.iload_n 3, 1) := by decide +kernel
theorem d_md_spelling_152 : decode b_md_spelling 152 = .ok (.invokevirtual 173, 3) := by decide +kernel
theorem d_md_spelling_155 : decode b_md_spelling 155 = .ok (.return_, 1) := by decide +kernel
theorem d_md_saySign_0 : decode b_md_saySign 0 = .ok (.iload_n 1, 1) := by decide +kernel
theorem d_md_saySign_1 : decode b_md_saySign 1 = .ok (.ifCond .le 19, 3) := by decide +kernel
theorem d_md_saySign_4 : decode b_md_saySign 4 = .ok (.aload_n 0, 1) := by decide +kernel
theorem d_md_saySign_5 : decode b_md_saySign 5 = .ok (.iload_n 1, 1) := by decide +kernel
theorem d_md_saySign_6 : decode b_md_saySign 6 = .ok (.iconst 1, 1) := by decide +kernel
theorem d_md_saySign_7 : decode b_md_saySign 7 = .ok (.if_icmp .ne 8, 3) := by decide +kernel
theorem d_md_saySign_10 : decode b_md_saySign 10 = .ok (.bipush 43, 2) := by decide +kernel
theorem d_md_saySign_12 : decode b_md_saySign 12 = .ok (.goto 5, 3) := by decide +kernel
theorem d_md_saySign_15 : decode b_md_saySign 15 = .ok (.bipush 35, 2) := by decide +kernel
theorem d_md_saySign_17 : decode b_md_saySign 17 = .ok (.invokevirtual 161, 3) := by decide +kernel
theorem d_md_saySign_20 : decode b_md_saySign 20 = .ok (.return_, 1) := by decide +kernel
theorem d_md_spell_0 : decode b_md_spell 0 = .ok (.aload_n 0, 1) := by decide +kernel
theorem d_md_spell_1 : decode b_md_spell 1 = .ok (.iload_n 1, 1) := by decide +kernel
theorem d_md_spell_2 : decode b_md_spell 2 = .ok (.invokevirtual 155, 3) := by decide +kernel
theorem d_md_spell_5 : decode b_md_spell 5 = .ok (.istore_n 2, 1) := by decide +kernel
theorem d_md_spell_6 : decode b_md_spell 6 = .ok (.aload_n 0, 1) := by decide +kernel
theorem d_md_spell_7 : decode b_md_spell 7 = .ok (.iload_n 2, 1) := by decide +kernel
theorem d_md_spell_8 : decode b_md_spell 8 = .ok (.ifCond .ge 7, 3) := by decide +kernel
theorem d_md_spell_11 : decode b_md_spell 11 = .ok (.iconst 1, 1) := by decide +kernel
theorem d_md_spell_12 : decode b_md_spell 12 = .ok (.goto 4, 3) := by decide +kernel
theorem d_md_spell_15 : decode b_md_spell 15 = .ok (.iconst 0, 1) := by decide +kernel
theorem d_md_spell_16 : decode b_md_spell 16 = .ok (.putfield 35, 3) := by decide +kernel
theorem d_md_spell_19 : decode b_md_spell 19 = .ok (.aload_n 0, 1) := by decide +kernel
theorem d_md_spell_20 : decode b_md_spell 20 = .ok (.getfield 35, 3) := by decide +kernel
theorem d_md_spell_23 : decode b_md_spell 23 = .ok (.ifCond .le 5, 3) := by decide +kernel
theorem d_md_spell_26 : decode b_md_spell 26 = .ok (.iconst 0, 1) := by decide +kernel
theorem d_md_spell_27 : decode b_md_spell 27 = .ok (.ireturn, 1) := by decide +kernel
theorem d_md_spell_28 : decode b_md_spell 28 = .ok (.aload_n 0, 1) := by decide +kernel
theorem d_md_spell_29 : decode b_md_spell 29 = .ok (.iload_n 1, 1) := by decide +kernel
theorem d_md_spell_30 : decode b_md_spell 30 = .ok (.invokevirtual 179, 3) := by decide +kernel
theorem d_md_spell_33 : decode b_md_spell 33 = .ok (.aload_n 0, 1) := by decide +kernel
theorem d_md_spell_34 : decode b_md_spell 34 = .ok (.aload_n 0, 1) := by decide +kernel
theorem d_md_spell_35 : decode b_md_spell 35 = .ok (.getfield 26, 3) := by decide +kernel
theorem d_md_spell_38 : decode b_md_spell 38 = .ok (.iload_n 2, 1) := by decide +kernel
theorem d_md_spell_39 : decode b_md_spell 39 = .ok (.iaload, 1) := by decide +kernel
theorem d_md_spell_40 : decode b_md_spell 40 = .ok (.invokevirtual 182, 3) := by decide +kernel
theorem d_md_spell_43 : decode b_md_spell 43 = .ok (.aload_n 0, 1) := by decide +kernel
theorem d_md_spell_44 : decode b_md_spell 44 = .ok (.aload_n 0, 1) := by decide +kernel
theorem d_md_spell_45 : decode b_md_spell 45 = .ok (.getfield 158, 3) := by decide +kernel
theorem d_md_spell_48 : decode b_md_spell 48 = .ok (.putfield 38, 3) := by decide +kernel
theorem d_md_spell_51 : decode b_md_spell 51 = .ok (.iconst 0, 1) := by decide +kernel
theorem d_md_spell_52 : decode b_md_spell 52 = .ok (.istore_n 3, 1) := by decide +kernel
theorem d_md_spell_53 : decode b_md_spell 53 = .ok (.iload_n 3, 1) := by decide +kernel
theorem d_md_spell_54 : decode b_md_spell 54 = .ok (.aload_n 0, 1) := by decide +kernel
theorem d_md_spell_55 : decode b_md_spell 55 = .ok (.getfield 158, 3) := by decide +kernel
theorem d_md_spell_58 : decode b_md_spell 58 = .ok (.if_icmp .ge 21, 3) := by decide +kernel
theorem d_md_spell_61 : decode b_md_spell 61 = .ok (.aload_n 0, 1) := by decide +kernel
theorem d_md_spell_62 : decode b_md_spell 62 = .ok (.getfield 20, 3) := by decide +kernel
theorem d_md_spell_65 : decode b_md_spell 65 = .ok (.iload_n 3, 1) := by decide +kernel
theorem d_md_spell_66 : decode b_md_spell 66 = .ok (.aload_n 0, 1) := by decide +kernel
theorem d_md_spell_67 : decode b_md_spell 67 = .ok (.getfield 32, 3) := by decide +kernel
theorem d_md_spell_70 : decode b_md_spell 70 = .ok (.iload_n 3, 1) := by decide +kernel
theorem d_md_spell_71 : decode b_md_spell 71 = .ok (.iaload, 1) := by decide +kernel
theorem d_md_spell_72 : decode b_md_spell 72 = .ok (.iastore, 1) := by decide +kernel
theorem d_md_spell_73 : decode b_md_spell 73 = .ok (.iinc 3 1, 3) := by decide +kernel
theorem d_md_spell_76 : decode b_md_spell 76 = .ok (.goto (-23), 3) := by decide +kernel
theorem d_md_spell_79 : decode b_md_spell 79 = .ok (.aload_n 0, 1) := by decide +kernel
theorem d_md_spell_80 : decode b_md_spell 80 = .ok (.getfield 38, 3) := by decide +kernel
theorem d_md_spell_83 : decode b_md_spell 83 = .ok (.ireturn, 1) := by decide +kernel
theorem d_md_isText_0 : decode b_md_isText 0 = .ok (.aload_n 0, 1) := by decide +kernel
theorem d_md_isText_1 : decode b_md_isText 1 = .ok (.getfield 158, 3) := by decide +kernel
theorem d_md_isText_4 : decode b_md_isText 4 = .ok (.iload_n 1, 1) := by decide +kernel
theorem d_md_isText_5 : decode b_md_isText 5 = .ok (.if_icmp .ne 7, 3) := by decide +kernel
theorem d_md_isText_8 : decode b_md_isText 8 = .ok (.iconst 1, 1) := by decide +kernel
theorem d_md_isText_9 : decode b_md_isText 9 = .ok (.goto 4, 3) := by decide +kernel
theorem d_md_isText_12 : decode b_md_isText 12 = .ok (.iconst 0, 1) := by decide +kernel
theorem d_md_isText_13 : decode b_md_isText 13 = .ok (.istore_n 2, 1) := by decide +kernel
theorem d_md_isText_14 : decode b_md_isText 14 = .ok (.iconst 0, 1) := by decide +kernel
theorem d_md_isText_15 : decode b_md_isText 15 = .ok (.istore_n 3, 1) := by decide +kernel
theorem d_md_isText_16 : decode b_md_isText 16 = .ok (.iload_n 3, 1) := by decide +kernel
theorem d_md_isText_17 : decode b_md_isText 17 = .ok (.iload_n 1, 1) := by decide +kernel
theorem d_md_isText_18 : decode b_md_isText 18 = .ok (.if_icmp .ge 34, 3) := by decide +kernel
theorem d_md_isText_21 : decode b_md_isText 21 = .ok (.iload_n 2, 1) := by decide +kernel
theorem d_md_isText_22 : decode b_md_isText 22 = .ok (.ifCond .eq 30, 3) := by decide +kernel
theorem d_md_isText_25 : decode b_md_isText 25 = .ok (.aload_n 0, 1) := by decide +kernel
theorem d_md_isText_26 : decode b_md_isText 26 = .ok (.getfield 32, 3) := by decide +kernel
theorem d_md_isText_29 : decode b_md_isText 29 = .ok (.iload_n 3, 1) := by decide +kernel
theorem d_md_isText_30 : decode b_md_isText 30 = .ok (.iaload, 1) := by decide +kernel
theorem d_md_isText_31 : decode b_md_isText 31 = .ok (.aload_n 0, 1) := by decide +kernel
theorem d_md_isText_32 : decode b_md_isText 32 = .ok (.getfield 20, 3) := by decide +kernel
theorem d_md_isText_35 : decode b_md_isText 35 = .ok (.iload_n 3, 1) := by decide +kernel
theorem d_md_isText_36 : decode b_md_isText 36 = .ok (.iaload, 1) := by decide +kernel
theorem d_md_isText_37 : decode b_md_isText 37 = .ok (.if_icmp .ne 7, 3) := by decide +kernel
theorem d_md_isText_40 : decode b_md_isText 40 = .ok (.iconst 1, 1) := by decide +kernel
theorem d_md_isText_41 : decode b_md_isText 41 = .ok (.goto 4, 3) := by decide +kernel
theorem d_md_isText_44 : decode b_md_isText 44 = .ok (.iconst 0, 1) := by decide +kernel
theorem d_md_isText_45 : decode b_md_isText 45 = .ok (.istore_n 2, 1) := by decide +kernel
theorem d_md_isText_46 : decode b_md_isText 46 = .ok (.iinc 3 1, 3) := by decide +kernel
theorem d_md_isText_49 : decode b_md_isText 49 = .ok (.goto (-33), 3) := by decide +kernel
theorem d_md_isText_52 : decode b_md_isText 52 = .ok (.iload_n 2, 1) := by decide +kernel
theorem d_md_isText_53 : decode b_md_isText 53 = .ok (.ireturn, 1) := by decide +kernel
theorem d_md_isFile_0 : decode b_md_isFile 0 = .ok (.aload_n 0, 1) := by decide +kernel
theorem d_md_isFile_1 : decode b_md_isFile 1 = .ok (.invokevirtual 46, 3) := by decide +kernel
theorem d_md_isFile_4 : decode b_md_isFile 4 = .ok (.bipush 97, 2) := by decide +kernel
theorem d_md_isFile_6 : decode b_md_isFile 6 = .ok (.if_icmp .lt 16, 3) := by decide +kernel
theorem d_md_isFile_9 : decode b_md_isFile 9 = .ok (.aload_n 0, 1) := by decide +kernel
theorem d_md_isFile_10 : decode b_md_isFile 10 = .ok (.invokevirtual 46, 3) := by decide +kernel
theorem d_md_isFile_13 : decode b_md_isFile 13 = .ok (.bipush 104, 2) := by decide +kernel
theorem d_md_isFile_15 : decode b_md_isFile 15 = .ok (.if_icmp .gt 7, 3) := by decide +kernel
theorem d_md_isFile_18 : decode b_md_isFile 18 = .ok (.iconst 1, 1) := by decide +kernel
theorem d_md_isFile_19 : decode b_md_isFile 19 = .ok (.goto 4, 3) := by decide +kernel
theorem d_md_isFile_22 : decode b_md_isFile 22 = .ok (.iconst 0, 1) := by decide +kernel
theorem d_md_isFile_23 : decode b_md_isFile 23 = .ok (.ireturn, 1) := by decide +kernel
theorem d_md_isRank_0 : decode b_md_isRank 0 = .ok (.aload_n 0, 1) := by decide +kernel
theorem d_md_isRank_1 : decode b_md_isRank 1 = .ok (.invokevirtual 46, 3) := by decide +kernel
theorem d_md_isRank_4 : decode b_md_isRank 4 = .ok (.bipush 49, 2) := by decide +kernel
theorem d_md_isRank_6 : decode b_md_isRank 6 = .ok (.if_icmp .lt 16, 3) := by decide +kernel
theorem d_md_isRank_9 : decode b_md_isRank 9 = .ok (.aload_n 0, 1) := by decide +kernel
theorem d_md_isRank_10 : decode b_md_isRank 10 = .ok (.invokevirtual 46, 3) := by decide +kernel
theorem d_md_isRank_13 : decode b_md_isRank 13 = .ok (.bipush 56, 2) := by decide +kernel
