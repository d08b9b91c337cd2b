theorem d_td_addUnsigned_0 : decode b_td_addUnsigned 0 = .ok (.aload_n 0, 1) := by decide +kernel
theorem d_td_addUnsigned_1 : decode b_td_addUnsigned 1 = .ok (.iload_n 2, 1) := by decide +kernel
theorem d_td_addUnsigned_2 : decode b_td_addUnsigned 2 = .ok (.invokevirtual 30, 3) := by decide +kernel
theorem d_td_addUnsigned_5 : decode b_td_addUnsigned 5 = .ok (.istore 4, 2) := by decide +kernel
theorem d_td_addUnsigned_7 : decode b_td_addUnsigned 7 = .ok (.iload 4, 2) := by decide +kernel
theorem d_td_addUnsigned_9 : decode b_td_addUnsigned 9 = .ok (.aload_n 3, 1) := by decide +kernel
theorem d_td_addUnsigned_10 : decode b_td_addUnsigned 10 = .ok (.invokestatic 33, 3) := by decide +kernel
theorem d_td_addUnsigned_13 : decode b_td_addUnsigned 13 = .ok (.istore 5, 2) := by decide +kernel
theorem d_td_addUnsigned_15 : decode b_td_addUnsigned 15 = .ok (.iload 5, 2) := by decide +kernel
theorem d_td_addUnsigned_17 : decode b_td_addUnsigned 17 = .ok (.ifCond .eq 22, 3) := by decide +kernel
theorem d_td_addUnsigned_20 : decode b_td_addUnsigned 20 = .ok (.aload_n 1, 1) := by decide +kernel
theorem d_td_addUnsigned_21 : decode b_td_addUnsigned 21 = .ok (.iload 5, 2) := by decide +kernel
theorem d_td_addUnsigned_23 : decode b_td_addUnsigned 23 = .ok (.ifCond .le 8, 3) := by decide +kernel
theorem d_td_addUnsigned_26 : decode b_td_addUnsigned 26 = .ok (.ldc 37, 2) := by decide +kernel
theorem d_td_addUnsigned_28 : decode b_td_addUnsigned 28 = .ok (.goto 5, 3) := by decide +kernel
theorem d_td_addUnsigned_31 : decode b_td_addUnsigned 31 = .ok (.ldc 39, 2) := by decide +kernel
theorem d_td_addUnsigned_33 : decode b_td_addUnsigned 33 = .ok (.invokevirtual 41, 3) := by decide +kernel
theorem d_td_addUnsigned_36 : decode b_td_addUnsigned 36 = .ok (.goto 36, 3) := by decide +kernel
theorem d_td_addUnsigned_39 : decode b_td_addUnsigned 39 = .ok (.aload_n 3, 1) := by decide +kernel
theorem d_td_addUnsigned_40 : decode b_td_addUnsigned 40 = .ok (.iload 4, 2) := by decide +kernel
theorem d_td_addUnsigned_42 : decode b_td_addUnsigned 42 = .ok (.invokestatic 47, 3) := by decide +kernel
theorem d_td_addUnsigned_45 : decode b_td_addUnsigned 45 = .ok (.invokevirtual 50, 3) := by decide +kernel
theorem d_td_addUnsigned_48 : decode b_td_addUnsigned 48 = .ok (.invokestatic 55, 3) := by decide +kernel
theorem d_td_addUnsigned_51 : decode b_td_addUnsigned 51 = .ok (.iconst 1, 1) := by decide +kernel
theorem d_td_addUnsigned_52 : decode b_td_addUnsigned 52 = .ok (.if_icmp .ne 12, 3) := by decide +kernel
theorem d_td_addUnsigned_55 : decode b_td_addUnsigned 55 = .ok (.aload_n 1, 1) := by decide +kernel
theorem d_td_addUnsigned_56 : decode b_td_addUnsigned 56 = .ok (.iload 4, 2) := by decide +kernel
theorem d_td_addUnsigned_58 : decode b_td_addUnsigned 58 = .ok (.invokestatic 58, 3) := by decide +kernel
theorem d_td_addUnsigned_61 : decode b_td_addUnsigned 61 = .ok (.goto 11, 3) := by decide +kernel
theorem d_td_addUnsigned_64 : decode b_td_addUnsigned 64 = .ok (.aload_n 0, 1) := by decide +kernel
theorem d_td_addUnsigned_65 : decode b_td_addUnsigned 65 = .ok (.aload_n 1, 1) := by decide +kernel
theorem d_td_addUnsigned_66 : decode b_td_addUnsigned 66 = .ok (.iload 4, 2) := by decide +kernel
theorem d_td_addUnsigned_68 : decode b_td_addUnsigned 68 = .ok (.aload_n 3, 1) := by decide +kernel
theorem d_td_addUnsigned_69 : decode b_td_addUnsigned 69 = .ok (.invokevirtual 62, 3) := by decide +kernel
theorem d_td_addUnsigned_72 : decode b_td_addUnsigned 72 = .ok (.return_, 1) := by decide +kernel
theorem d_fm_unsignedSize_0 : decode b_fm_unsignedSize 0 = .ok (.aload_n 0, 1) := by decide +kernel
theorem d_fm_unsignedSize_1 : decode b_fm_unsignedSize 1 = .ok (.getfield 9, 3) := by decide +kernel
theorem d_fm_unsignedSize_4 : decode b_fm_unsignedSize 4 = .ok (.ireturn, 1) := by decide +kernel
theorem d_fm_sign_0 : decode b_fm_sign 0 = .ok (.aload_n 0, 1) := by decide +kernel
theorem d_fm_sign_1 : decode b_fm_sign 1 = .ok (.getfield 15, 3) := by decide +kernel
theorem d_fm_sign_4 : decode b_fm_sign 4 = .ok (.ireturn, 1) := by decide +kernel
theorem d_fm_fileIn_0 : decode b_fm_fileIn 0 = .ok (.ldc 103, 2) := by decide +kernel
theorem d_fm_fileIn_2 : decode b_fm_fileIn 2 = .ok (.aload_n 0, 1) := by decide +kernel
theorem d_fm_fileIn_3 : decode b_fm_fileIn 3 = .ok (.iload_n 1, 1) := by decide +kernel
theorem d_fm_fileIn_4 : decode b_fm_fileIn 4 = .ok (.invokevirtual 26, 3) := by decide +kernel
theorem d_fm_fileIn_7 : decode b_fm_fileIn 7 = .ok (.invokevirtual 30, 3) := by decide +kernel
theorem d_fm_fileIn_10 : decode b_fm_fileIn 10 = .ok (.ireturn, 1) := by decide +kernel
theorem d_fm_rankIn_0 : decode b_fm_rankIn 0 = .ok (.ldc 105, 2) := by decide +kernel
theorem d_fm_rankIn_2 : decode b_fm_rankIn 2 = .ok (.aload_n 0, 1) := by decide +kernel
theorem d_fm_rankIn_3 : decode b_fm_rankIn 3 = .ok (.iload_n 1, 1) := by decide +kernel
theorem d_fm_rankIn_4 : decode b_fm_rankIn 4 = .ok (.invokevirtual 26, 3) := by decide +kernel
theorem d_fm_rankIn_7 : decode b_fm_rankIn 7 = .ok (.invokevirtual 30, 3) := by decide +kernel
theorem d_fm_rankIn_10 : decode b_fm_rankIn 10 = .ok (.ireturn, 1) := by decide +kernel
theorem d_fm_squareIn_0 : decode b_fm_squareIn 0 = .ok (.aload_n 0, 1) := by decide +kernel
theorem d_fm_squareIn_1 : decode b_fm_squareIn 1 = .ok (.iload_n 1, 1) := by decide +kernel
theorem d_fm_squareIn_2 : decode b_fm_squareIn 2 = .ok (.invokestatic 96, 3) := by decide +kernel
theorem d_fm_squareIn_5 : decode b_fm_squareIn 5 = .ok (.aload_n 0, 1) := by decide +kernel
theorem d_fm_squareIn_6 : decode b_fm_squareIn 6 = .ok (.iload_n 1, 1) := by decide +kernel
theorem d_fm_squareIn_7 : decode b_fm_squareIn 7 = .ok (.iconst 1, 1) := by decide +kernel
theorem d_fm_squareIn_8 : decode b_fm_squareIn 8 = .ok (.iadd, 1) := by decide +kernel
theorem d_fm_squareIn_9 : decode b_fm_squareIn 9 = .ok (.invokestatic 93, 3) := by decide +kernel
theorem d_fm_squareIn_12 : decode b_fm_squareIn 12 = .ok (.invokestatic 107, 3) := by decide +kernel
theorem d_fm_squareIn_15 : decode b_fm_squareIn 15 = .ok (.ireturn, 1) := by decide +kernel
theorem d_fm_isCastling_0 : decode b_fm_isCastling 0 = .ok (.aload_n 0, 1) := by decide +kernel
theorem d_fm_isCastling_1 : decode b_fm_isCastling 1 = .ok (.iconst 0, 1) := by decide +kernel
theorem d_fm_isCastling_2 : decode b_fm_isCastling 2 = .ok (.putfield 50, 3) := by decide +kernel
theorem d_fm_isCastling_5 : decode b_fm_isCastling 5 = .ok (.aload_n 1, 1) := by decide +kernel
theorem d_fm_isCastling_6 : decode b_fm_isCastling 6 = .ok (.ldc 79, 2) := by decide +kernel
theorem d_fm_isCastling_8 : decode b_fm_isCastling 8 = .ok (.aload_n 0, 1) := by decide +kernel
theorem d_fm_isCastling_9 : decode b_fm_isCastling 9 = .ok (.getfield 9, 3) := by decide +kernel
theorem d_fm_isCastling_12 : decode b_fm_isCastling 12 = .ok (.invokevirtual 81, 3) := by decide +kernel
theorem d_fm_isCastling_15 : decode b_fm_isCastling 15 = .ok (.ifCond .eq 11, 3) := by decide +kernel
theorem d_fm_isCastling_18 : decode b_fm_isCastling 18 = .ok (.aload_n 0, 1) := by decide +kernel
theorem d_fm_isCastling_19 : decode b_fm_isCastling 19 = .ok (.iconst 1, 1) := by decide +kernel
theorem d_fm_isCastling_20 : decode b_fm_isCastling 20 = .ok (.putfield 50, 3) := by decide +kernel
theorem d_fm_isCastling_23 : decode b_fm_isCastling 23 = .ok (.goto 21, 3) := by decide +kernel
theorem d_fm_isCastling_26 : decode b_fm_isCastling 26 = .ok (.aload_n 1, 1) := by decide +kernel
theorem d_fm_isCastling_27 : decode b_fm_isCastling 27 = .ok (.ldc 85, 2) := by decide +kernel
theorem d_fm_isCastling_29 : decode b_fm_isCastling 29 = .ok (.aload_n 0, 1) := by decide +kernel
theorem d_fm_isCastling_30 : decode b_fm_isCastling 30 = .ok (.getfield 9, 3) := by decide +kernel
theorem d_fm_isCastling_33 : decode b_fm_isCastling 33 = .ok (.invokevirtual 81, 3) := by decide +kernel
theorem d_fm_isCastling_36 : decode b_fm_isCastling 36 = .ok (.ifCond .eq 8, 3) := by decide +kernel
theorem d_fm_isCastling_39 : decode b_fm_isCastling 39 = .ok (.aload_n 0, 1) := by decide +kernel
theorem d_fm_isCastling_40 : decode b_fm_isCastling 40 = .ok (.iconst (-1), 1) := by decide +kernel
theorem d_fm_isCastling_41 : decode b_fm_isCastling 41 = .ok (.putfield 50, 3) := by decide +kernel
theorem d_fm_isCastling_44 : decode b_fm_isCastling 44 = .ok (.aload_n 0, 1) := by decide +kernel
theorem d_fm_isCastling_45 : decode b_fm_isCastling 45 = .ok (.getfield 50, 3) := by decide +kernel
theorem d_fm_isCastling_48 : decode b_fm_isCastling 48 = .ok (.ifCond .eq 7, 3) := by decide +kernel
theorem d_fm_isCastling_51 : decode b_fm_isCastling 51 = .ok (.iconst 1, 1) := by decide +kernel
theorem d_fm_isCastling_52 : decode b_fm_isCastling 52 = .ok (.goto 4, 3) := by decide +kernel
theorem d_fm_isCastling_55 : decode b_fm_isCastling 55 = .ok (.iconst 0, 1) := by decide +kernel
theorem d_fm_isCastling_56 : decode b_fm_isCastling 56 = .ok (.ireturn, 1) := by decide +kernel
theorem d_fm_isManMove_0 : decode b_fm_isManMove 0 = .ok (.aload_n 0, 1) := by decide +kernel
theorem d_fm_isManMove_1 : decode b_fm_isManMove 1 = .ok (.getfield 9, 3) := by decide +kernel
theorem d_fm_isManMove_4 : decode b_fm_isManMove 4 = .ok (.iconst 2, 1) := by decide +kernel
theorem d_fm_isManMove_5 : decode b_fm_isManMove 5 = .ok (.isub, 1) := by decide +kernel
theorem d_fm_isManMove_6 : decode b_fm_isManMove 6 = .ok (.istore_n 2, 1) := by decide +kernel
theorem d_fm_isManMove_7 : decode b_fm_isManMove 7 = .ok (.aload_n 0, 1) := by decide +kernel
theorem d_fm_isManMove_8 : decode b_fm_isManMove 8 = .ok (.ldc 87, 2) := by decide +kernel
theorem d_fm_isManMove_10 : decode b_fm_isManMove 10 = .ok (.aload_n 1, 1) := by decide +kernel
theorem d_fm_isManMove_11 : decode b_fm_isManMove 11 = .ok (.iconst 0, 1) := by decide +kernel
theorem d_fm_isManMove_12 : decode b_fm_isManMove 12 = .ok (.invokevirtual 26, 3) := by decide +kernel
theorem d_fm_isManMove_15 : decode b_fm_isManMove 15 = .ok (.invokevirtual 30, 3) := by decide +kernel
theorem d_fm_isManMove_18 : decode b_fm_isManMove 18 = .ok (.iconst 1, 1) := by decide +kernel
theorem d_fm_isManMove_19 : decode b_fm_isManMove 19 = .ok (.iadd, 1) := by decide +kernel
theorem d_fm_isManMove_20 : decode b_fm_isManMove 20 = .ok (.putfield 64, 3) := by decide +kernel
theorem d_fm_isManMove_23 : decode b_fm_isManMove 23 = .ok (.aload_n 0, 1) := by decide +kernel
theorem d_fm_isManMove_24 : decode b_fm_isManMove 24 = .ok (.aload_n 1, 1) := by decide +kernel
theorem d_fm_isManMove_25 : decode b_fm_isManMove 25 = .ok (.iload_n 2, 1) := by decide +kernel
theorem d_fm_isManMove_26 : decode b_fm_isManMove 26 = .ok (.invokestatic 89, 3) := by decide +kernel
theorem d_fm_isManMove_29 : decode b_fm_isManMove 29 = .ok (.putfield 70, 3) := by decide +kernel
theorem d_fm_isManMove_32 : decode b_fm_isManMove 32 = .ok (.aload_n 0, 1) := by decide +kernel
theorem d_fm_isManMove_33 : decode b_fm_isManMove 33 = .ok (.iconst 0, 1) := by decide +kernel
theorem d_fm_isManMove_34 : decode b_fm_isManMove 34 = .ok (.putfield 76, 3) := by decide +kernel
theorem d_fm_isManMove_37 : decode b_fm_isManMove 37 = .ok (.aload_n 0, 1) := by decide +kernel
theorem d_fm_isManMove_38 : decode b_fm_isManMove 38 = .ok (.getfield 64, 3) := by decide +kernel
theorem d_fm_isManMove_41 : decode b_fm_isManMove 41 = .ok (.iconst 2, 1) := by decide +kernel
theorem d_fm_isManMove_42 : decode b_fm_isManMove 42 = .ok (.if_icmp .lt 20, 3) := by decide +kernel
theorem d_fm_isManMove_45 : decode b_fm_isManMove 45 = .ok (.aload_n 0, 1) := by decide +kernel
theorem d_fm_isManMove_46 : decode b_fm_isManMove 46 = .ok (.getfield 64, 3) := by decide +kernel
theorem d_fm_isManMove_49 : decode b_fm_isManMove 49 = .ok (.bipush 6, 2) := by decide +kernel
theorem d_fm_isManMove_51 : decode b_fm_isManMove 51 = .ok (.if_icmp .gt 11, 3) := by decide +kernel
theorem d_fm_isManMove_54 : decode b_fm_isManMove 54 = .ok (.aload_n 0, 1) := by decide +kernel
theorem d_fm_isManMove_55 : decode b_fm_isManMove 55 = .ok (.getfield 70, 3) := by decide +kernel
theorem d_fm_isManMove_58 : decode b_fm_isManMove 58 = .ok (.iconst (-1), 1) := by decide +kernel
theorem d_fm_isManMove_59 : decode b_fm_isManMove 59 = .ok (.if_icmp .ne 5, 3) := by decide +kernel
theorem d_fm_isManMove_62 : decode b_fm_isManMove 62 = .ok (.iconst 0, 1) := by decide +kernel
theorem d_fm_isManMove_63 : decode b_fm_isManMove 63 = .ok (.ireturn, 1) := by decide +kernel
theorem d_fm_isManMove_64 : decode b_fm_isManMove 64 = .ok (.aload_n 1, 1) := by decide +kernel
theorem d_fm_isManMove_65 : decode b_fm_isManMove 65 = .ok (.iload_n 2, 1) := by decide +kernel
theorem d_fm_isManMove_66 : decode b_fm_isManMove 66 = .ok (.iconst 1, 1) := by decide +kernel
theorem d_fm_isManMove_67 : decode b_fm_isManMove 67 = .ok (.isub, 1) := by decide +kernel
theorem d_fm_isManMove_68 : decode b_fm_isManMove 68 = .ok (.invokevirtual 26, 3) := by decide +kernel
theorem d_fm_isManMove_71 : decode b_fm_isManMove 71 = .ok (.bipush 120, 2) := by decide +kernel
theorem d_fm_isManMove_73 : decode b_fm_isManMove 73 = .ok (.if_icmp .ne 6, 3) := by decide +kernel
theorem d_fm_isManMove_76 : decode b_fm_isManMove 76 = .ok (.iinc 2 (-1), 3) := by decide +kernel
theorem d_fm_isManMove_79 : decode b_fm_isManMove 79 = .ok (.aload_n 1, 1) := by decide +kernel
theorem d_fm_isManMove_80 : decode b_fm_isManMove 80 = .ok (.iload_n 2, 1) := by decide +kernel
theorem d_fm_isManMove_81 : decode b_fm_isManMove 81 = .ok (.iconst 1, 1) := by decide +kernel
theorem d_fm_isManMove_82 : decode b_fm_isManMove 82 = .ok (.isub, 1) := by decide +kernel
theorem d_fm_isManMove_83 : decode b_fm_isManMove 83 = .ok (.invokestatic 93, 3) := by decide +kernel
theorem d_fm_isManMove_86 : decode b_fm_isManMove 86 = .ok (.ifCond .lt 6, 3) := by decide +kernel
theorem d_fm_isManMove_89 : decode b_fm_isManMove 89 = .ok (.iinc 2 (-1), 3) := by decide +kernel
theorem d_fm_isManMove_92 : decode b_fm_isManMove 92 = .ok (.aload_n 1, 1) := by decide +kernel
theorem d_fm_isManMove_93 : decode b_fm_isManMove 93 = .ok (.iload_n 2, 1) := by decide +kernel
theorem d_fm_isManMove_94 : decode b_fm_isManMove 94 = .ok (.iconst 1, 1) := by decide +kernel
theorem d_fm_isManMove_95 : decode b_fm_isManMove 95 = .ok (.isub, 1) := by decide +kernel
theorem d_fm_isManMove_96 : decode b_fm_isManMove 96 = .ok (.invokestatic 96, 3) := by decide +kernel
theorem d_fm_isManMove_99 : decode b_fm_isManMove 99 = .ok (.ifCond .lt 6, 3) := by decide +kernel
theorem d_fm_isManMove_102 : decode b_fm_isManMove 102 = .ok (.iinc 2 (-1), 3) := by decide +kernel
theorem d_fm_isManMove_105 : decode b_fm_isManMove 105 = .ok (.iload_n 2, 1) := by decide +kernel
theorem d_fm_isManMove_106 : decode b_fm_isManMove 106 = .ok (.iconst 1, 1) := by decide +kernel
theorem d_fm_isManMove_107 : decode b_fm_isManMove 107 = .ok (.if_icmp .ne 7, 3) := by decide +kernel
theorem d_fm_isManMove_110 : decode b_fm_isManMove 110 = .ok (.iconst 1, 1) := by decide +kernel
theorem d_fm_isManMove_111 : decode b_fm_isManMove 111 = .ok (.goto 4, 3) := by decide +kernel
theorem d_fm_isManMove_114 : decode b_fm_isManMove 114 = .ok (.iconst 0, 1) := by decide +kernel
theorem d_fm_isManMove_115 : decode b_fm_isManMove 115 = .ok (.ireturn, 1) := by decide +kernel
theorem d_fm_isPawnMove_0 : decode b_fm_isPawnMove 0 = .ok (.ldc 87, 2) := by decide +kernel
theorem d_fm_isPawnMove_2 : decode b_fm_isPawnMove 2 = .ok (.aload_n 1, 1) := by decide +kernel
theorem d_fm_isPawnMove_3 : decode b_fm_isPawnMove 3 = .ok (.aload_n 0, 1) := by decide +kernel
theorem d_fm_isPawnMove_4 : decode b_fm_isPawnMove 4 = .ok (.getfield 9, 3) := by decide +kernel
theorem d_fm_isPawnMove_7 : decode b_fm_isPawnMove 7 = .ok (.iconst 1, 1) := by decide +kernel
theorem d_fm_isPawnMove_8 : decode b_fm_isPawnMove 8 = .ok (.isub, 1) := by decide +kernel
theorem d_fm_isPawnMove_9 : decode b_fm_isPawnMove 9 = .ok (.invokevirtual 26, 3) := by decide +kernel
theorem d_fm_isPawnMove_12 : decode b_fm_isPawnMove 12 = .ok (.invokevirtual 30, 3) := by decide +kernel
theorem d_fm_isPawnMove_15 : decode b_fm_isPawnMove 15 = .ok (.iconst 1, 1) := by decide +kernel
theorem d_fm_isPawnMove_16 : decode b_fm_isPawnMove 16 = .ok (.iadd, 1) := by decide +kernel
theorem d_fm_isPawnMove_17 : decode b_fm_isPawnMove 17 = .ok (.istore_n 2, 1) := by decide +kernel
theorem d_fm_isPawnMove_18 : decode b_fm_isPawnMove 18 = .ok (.aload_n 0, 1) := by decide +kernel
theorem d_fm_isPawnMove_19 : decode b_fm_isPawnMove 19 = .ok (.iload_n 2, 1) := by decide +kernel
theorem d_fm_isPawnMove_20 : decode b_fm_isPawnMove 20 = .ok (.invokestatic 99, 3) := by decide +kernel
theorem d_fm_isPawnMove_23 : decode b_fm_isPawnMove 23 = .ok (.ifCond .eq 7, 3) := by decide +kernel
theorem d_fm_isPawnMove_26 : decode b_fm_isPawnMove 26 = .ok (.iload_n 2, 1) := by decide +kernel
theorem d_fm_isPawnMove_27 : decode b_fm_isPawnMove 27 = .ok (.goto 4, 3) := by decide +kernel
theorem d_fm_isPawnMove_30 : decode b_fm_isPawnMove 30 = .ok (.iconst 0, 1) := by decide +kernel
theorem d_fm_isPawnMove_31 : decode b_fm_isPawnMove 31 = .ok (.putfield 76, 3) := by decide +kernel
theorem d_fm_isPawnMove_34 : decode b_fm_isPawnMove 34 = .ok (.aload_n 0, 1) := by decide +kernel
theorem d_fm_isPawnMove_35 : decode b_fm_isPawnMove 35 = .ok (.getfield 76, 3) := by decide +kernel
theorem d_fm_isPawnMove_38 : decode b_fm_isPawnMove 38 = .ok (.ifCond .le 12, 3) := by decide +kernel
theorem d_fm_isPawnMove_41 : decode b_fm_isPawnMove 41 = .ok (.aload_n 0, 1) := by decide +kernel
theorem d_fm_isPawnMove_42 : decode b_fm_isPawnMove 42 = .ok (.getfield 9, 3) := by decide +kernel
theorem d_fm_isPawnMove_45 : decode b_fm_isPawnMove 45 = .ok (.iconst 3, 1) := by decide +kernel
theorem d_fm_isPawnMove_46 : decode b_fm_isPawnMove 46 = .ok (.isub, 1) := by decide +kernel
theorem d_fm_isPawnMove_47 : decode b_fm_isPawnMove 47 = .ok (.goto 9, 3) := by decide +kernel
theorem d_fm_isPawnMove_50 : decode b_fm_isPawnMove 50 = .ok (.aload_n 0, 1) := by decide +kernel
theorem d_fm_isPawnMove_51 : decode b_fm_isPawnMove 51 = .ok (.getfield 9, 3) := by decide +kernel
theorem d_fm_isPawnMove_54 : decode b_fm_isPawnMove 54 = .ok (.iconst 2, 1) := by decide +kernel
theorem d_fm_isPawnMove_55 : decode b_fm_isPawnMove 55 = .ok (.isub, 1) := by decide +kernel
theorem d_fm_isPawnMove_56 : decode b_fm_isPawnMove 56 = .ok (.istore_n 3, 1) := by decide +kernel
theorem d_fm_isPawnMove_57 : decode b_fm_isPawnMove 57 = .ok (.aload_n 0, 1) := by decide +kernel
theorem d_fm_isPawnMove_58 : decode b_fm_isPawnMove 58 = .ok (.iconst 1, 1) := by decide +kernel
theorem d_fm_isPawnMove_59 : decode b_fm_isPawnMove 59 = .ok (.putfield 64, 3) := by decide +kernel
theorem d_fm_isPawnMove_62 : decode b_fm_isPawnMove 62 = .ok (.aload_n 0, 1) := by decide +kernel
theorem d_fm_isPawnMove_63 : decode b_fm_isPawnMove 63 = .ok (.aload_n 1, 1) := by decide +kernel
theorem d_fm_isPawnMove_64 : decode b_fm_isPawnMove 64 = .ok (.iload_n 3, 1) := by decide +kernel
theorem d_fm_isPawnMove_65 : decode b_fm_isPawnMove 65 = .ok (.invokestatic 89, 3) := by decide +kernel
theorem d_fm_isPawnMove_68 : decode b_fm_isPawnMove 68 = .ok (.putfield 70, 3) := by decide +kernel
theorem d_fm_isPawnMove_71 : decode b_fm_isPawnMove 71 = .ok (.aload_n 0, 1) := by decide +kernel
theorem d_fm_isPawnMove_72 : decode b_fm_isPawnMove 72 = .ok (.getfield 70, 3) := by decide +kernel
theorem d_fm_isPawnMove_75 : decode b_fm_isPawnMove 75 = .ok (.iconst (-1), 1) := by decide +kernel
theorem d_fm_isPawnMove_76 : decode b_fm_isPawnMove 76 = .ok (.if_icmp .ne 5, 3) := by decide +kernel
theorem d_fm_isPawnMove_79 : decode b_fm_isPawnMove 79 = .ok (.iconst 0, 1) := by decide +kernel
theorem d_fm_isPawnMove_80 : decode b_fm_isPawnMove 80 = .ok (.ireturn, 1) := by decide +kernel
theorem d_fm_isPawnMove_81 : decode b_fm_isPawnMove 81 = .ok (.iload_n 3, 1) := by decide +kernel
theorem d_fm_isPawnMove_82 : decode b_fm_isPawnMove 82 = .ok (.ifCond .eq 26, 3) := by decide +kernel
theorem d_fm_isPawnMove_85 : decode b_fm_isPawnMove 85 = .ok (.iload_n 3, 1) := by decide +kernel
theorem d_fm_isPawnMove_86 : decode b_fm_isPawnMove 86 = .ok (.iconst 2, 1) := by decide +kernel
theorem d_fm_isPawnMove_87 : decode b_fm_isPawnMove 87 = .ok (.if_icmp .ne 25, 3) := by decide +kernel
theorem d_fm_isPawnMove_90 : decode b_fm_isPawnMove 90 = .ok (.aload_n 1, 1) := by decide +kernel
theorem d_fm_isPawnMove_91 : decode b_fm_isPawnMove 91 = .ok (.iconst 1, 1) := by decide +kernel
theorem d_fm_isPawnMove_92 : decode b_fm_isPawnMove 92 = .ok (.invokevirtual 26, 3) := by decide +kernel
theorem d_fm_isPawnMove_95 : decode b_fm_isPawnMove 95 = .ok (.bipush 120, 2) := by decide +kernel
theorem d_fm_isPawnMove_97 : decode b_fm_isPawnMove 97 = .ok (.if_icmp .ne 15, 3) := by decide +kernel
theorem d_fm_isPawnMove_100 : decode b_fm_isPawnMove 100 = .ok (.aload_n 1, 1) := by decide +kernel
theorem d_fm_isPawnMove_101 : decode b_fm_isPawnMove 101 = .ok (.iconst 0, 1) := by decide +kernel
theorem d_fm_isPawnMove_102 : decode b_fm_isPawnMove 102 = .ok (.invokestatic 96, 3) := by decide +kernel
theorem d_fm_isPawnMove_105 : decode b_fm_isPawnMove 105 = .ok (.ifCond .lt 7, 3) := by decide +kernel
theorem d_fm_isPawnMove_108 : decode b_fm_isPawnMove 108 = .ok (.iconst 1, 1) := by decide +kernel
theorem d_fm_isPawnMove_109 : decode b_fm_isPawnMove 109 = .ok (.goto 4, 3) := by decide +kernel
theorem d_fm_isPawnMove_112 : decode b_fm_isPawnMove 112 = .ok (.iconst 0, 1) := by decide +kernel
theorem d_fm_isPawnMove_113 : decode b_fm_isPawnMove 113 = .ok (.ireturn, 1) := by decide +kernel
theorem d_fm_isOf_0 : decode b_fm_isOf 0 = .ok (.aload_n 0, 1) := by decide +kernel
theorem d_fm_isOf_1 : decode b_fm_isOf 1 = .ok (.ldc 18, 2) := by decide +kernel
theorem d_fm_isOf_3 : decode b_fm_isOf 3 = .ok (.aload_n 1, 1) := by decide +kernel
theorem d_fm_isOf_4 : decode b_fm_isOf 4 = .ok (.aload_n 1, 1) := by decide +kernel
theorem d_fm_isOf_5 : decode b_fm_isOf 5 = .ok (.invokevirtual 20, 3) := by decide +kernel
theorem d_fm_isOf_8 : decode b_fm_isOf 8 = .ok (.iconst 1, 1) := by decide +kernel
theorem d_fm_isOf_9 : decode b_fm_isOf 9 = .ok (.isub, 1) := by decide +kernel
theorem d_fm_isOf_10 : decode b_fm_isOf 10 = .ok (.invokevirtual 26, 3) := by decide +kernel
theorem d_fm_isOf_13 : decode b_fm_isOf 13 = .ok (.invokevirtual 30, 3) := by decide +kernel
theorem d_fm_isOf_16 : decode b_fm_isOf 16 = .ok (.iconst 1, 1) := by decide +kernel
theorem d_fm_isOf_17 : decode b_fm_isOf 17 = .ok (.iadd, 1) := by decide +kernel
theorem d_fm_isOf_18 : decode b_fm_isOf 18 = .ok (.putfield 15, 3) := by decide +kernel
theorem d_fm_isOf_21 : decode b_fm_isOf 21 = .ok (.aload_n 0, 1) := by decide +kernel
theorem d_fm_isOf_22 : decode b_fm_isOf 22 = .ok (.aload_n 0, 1) := by decide +kernel
theorem d_fm_isOf_23 : decode b_fm_isOf 23 = .ok (.getfield 15, 3) := by decide +kernel
theorem d_fm_isOf_26 : decode b_fm_isOf 26 = .ok (.ifCond .le 12, 3) := by decide +kernel
theorem d_fm_isOf_29 : decode b_fm_isOf 29 = .ok (.aload_n 1, 1) := by decide +kernel
theorem d_fm_isOf_30 : decode b_fm_isOf 30 = .ok (.invokevirtual 20, 3) := by decide +kernel
theorem d_fm_isOf_33 : decode b_fm_isOf 33 = .ok (.iconst 1, 1) := by decide +kernel
theorem d_fm_isOf_34 : decode b_fm_isOf 34 = .ok (.isub, 1) := by decide +kernel
theorem d_fm_isOf_35 : decode b_fm_isOf 35 = .ok (.goto 7, 3) := by decide +kernel
theorem d_fm_isOf_38 : decode b_fm_isOf 38 = .ok (.aload_n 1, 1) := by decide +kernel
theorem d_fm_isOf_39 : decode b_fm_isOf 39 = .ok (.invokevirtual 20, 3) := by decide +kernel
theorem d_fm_isOf_42 : decode b_fm_isOf 42 = .ok (.putfield 9, 3) := by decide +kernel
theorem d_fm_isOf_45 : decode b_fm_isOf 45 = .ok (.aload_n 0, 1) := by decide +kernel
theorem d_fm_isOf_46 : decode b_fm_isOf 46 = .ok (.aload_n 1, 1) := by decide +kernel
theorem d_fm_isOf_47 : decode b_fm_isOf 47 = .ok (.invokevirtual 36, 3) := by decide +kernel
theorem d_fm_isOf_50 : decode b_fm_isOf 50 = .ok (.ifCond .ne 19, 3) := by decide +kernel
theorem d_fm_isOf_53 : decode b_fm_isOf 53 = .ok (.aload_n 0, 1) := by decide +kernel
theorem d_fm_isOf_54 : decode b_fm_isOf 54 = .ok (.aload_n 1, 1) := by decide +kernel
theorem d_fm_isOf_55 : decode b_fm_isOf 55 = .ok (.invokevirtual 40, 3) := by decide +kernel
theorem d_fm_isOf_58 : decode b_fm_isOf 58 = .ok (.ifCond .ne 11, 3) := by decide +kernel
theorem d_fm_isOf_61 : decode b_fm_isOf 61 = .ok (.aload_n 0, 1) := by decide +kernel
theorem d_fm_isOf_62 : decode b_fm_isOf 62 = .ok (.aload_n 1, 1) := by decide +kernel
theorem d_fm_isOf_63 : decode b_fm_isOf 63 = .ok (.invokevirtual 43, 3) := by decide +kernel
theorem d_fm_isOf_66 : decode b_fm_isOf 66 = .ok (.ifCond .eq 7, 3) := by decide +kernel
theorem d_fm_isOf_69 : decode b_fm_isOf 69 = .ok (.iconst 1, 1) := by decide +kernel
theorem d_fm_isOf_70 : decode b_fm_isOf 70 = .ok (.goto 4, 3) := by decide +kernel
theorem d_fm_isOf_73 : decode b_fm_isOf 73 = .ok (.iconst 0, 1) := by decide +kernel
theorem d_fm_isOf_74 : decode b_fm_isOf 74 = .ok (.ireturn, 1) := by decide +kernel
theorem d_fm_fits_0 : decode b_fm_fits 0 = .ok (.iload_n 1, 1) := by decide +kernel
theorem d_fm_fits_1 : decode b_fm_fits 1 = .ok (.aload_n 2, 1) := by decide +kernel
theorem d_fm_fits_2 : decode b_fm_fits 2 = .ok (.invokestatic 46, 3) := by decide +kernel
theorem d_fm_fits_5 : decode b_fm_fits 5 = .ok (.istore_n 3, 1) := by decide +kernel
theorem d_fm_fits_6 : decode b_fm_fits 6 = .ok (.aload_n 0, 1) := by decide +kernel
theorem d_fm_fits_7 : decode b_fm_fits 7 = .ok (.getfield 50, 3) := by decide +kernel
theorem d_fm_fits_10 : decode b_fm_fits 10 = .ok (.ifCond .ne 7, 3) := by decide +kernel
theorem d_fm_fits_13 : decode b_fm_fits 13 = .ok (.iload_n 3, 1) := by decide +kernel
theorem d_fm_fits_14 : decode b_fm_fits 14 = .ok (.ifCond .eq 17, 3) := by decide +kernel
theorem d_fm_fits_17 : decode b_fm_fits 17 = .ok (.aload_n 0, 1) := by decide +kernel
theorem d_fm_fits_18 : decode b_fm_fits 18 = .ok (.getfield 50, 3) := by decide +kernel
theorem d_fm_fits_21 : decode b_fm_fits 21 = .ok (.iload_n 3, 1) := by decide +kernel
theorem d_fm_fits_22 : decode b_fm_fits 22 = .ok (.if_icmp .ne 7, 3) := by decide +kernel
theorem d_fm_fits_25 : decode b_fm_fits 25 = .ok (.iconst 1, 1) := by decide +kernel
theorem d_fm_fits_26 : decode b_fm_fits 26 = .ok (.goto 4, 3) := by decide +kernel
theorem d_fm_fits_29 : decode b_fm_fits 29 = .ok (.iconst 0, 1) := by decide +kernel
theorem d_fm_fits_30 : decode b_fm_fits 30 = .ok (.ireturn, 1) := by decide +kernel
theorem d_fm_fits_31 : decode b_fm_fits 31 = .ok (.aload_n 2, 1) := by decide +kernel
theorem d_fm_fits_32 : decode b_fm_fits 32 = .ok (.iload_n 1, 1) := by decide +kernel
theorem d_fm_fits_33 : decode b_fm_fits 33 = .ok (.invokestatic 53, 3) := by decide +kernel
theorem d_fm_fits_36 : decode b_fm_fits 36 = .ok (.invokevirtual 56, 3) := by decide +kernel
theorem d_fm_fits_39 : decode b_fm_fits 39 = .ok (.invokestatic 61, 3) := by decide +kernel
theorem d_fm_fits_42 : decode b_fm_fits 42 = .ok (.aload_n 0, 1) := by decide +kernel
theorem d_fm_fits_43 : decode b_fm_fits 43 = .ok (.getfield 64, 3) := by decide +kernel
theorem d_fm_fits_46 : decode b_fm_fits 46 = .ok (.if_icmp .ne 29, 3) := by decide +kernel
theorem d_fm_fits_49 : decode b_fm_fits 49 = .ok (.iload_n 1, 1) := by decide +kernel
theorem d_fm_fits_50 : decode b_fm_fits 50 = .ok (.invokestatic 67, 3) := by decide +kernel
theorem d_fm_fits_53 : decode b_fm_fits 53 = .ok (.aload_n 0, 1) := by decide +kernel
theorem d_fm_fits_54 : decode b_fm_fits 54 = .ok (.getfield 70, 3) := by decide +kernel
theorem d_fm_fits_57 : decode b_fm_fits 57 = .ok (.if_icmp .ne 18, 3) := by decide +kernel
theorem d_fm_fits_60 : decode b_fm_fits 60 = .ok (.iload_n 1, 1) := by decide +kernel
theorem d_fm_fits_61 : decode b_fm_fits 61 = .ok (.invokestatic 73, 3) := by decide +kernel
theorem d_fm_fits_64 : decode b_fm_fits 64 = .ok (.aload_n 0, 1) := by decide +kernel
theorem d_fm_fits_65 : decode b_fm_fits 65 = .ok (.getfield 76, 3) := by decide +kernel
theorem d_fm_fits_68 : decode b_fm_fits 68 = .ok (.if_icmp .ne 7, 3) := by decide +kernel
theorem d_fm_fits_71 : decode b_fm_fits 71 = .ok (.iconst 1, 1) := by decide +kernel
theorem d_fm_fits_72 : decode b_fm_fits 72 = .ok (.goto 4, 3) := by decide +kernel
theorem d_fm_fits_75 : decode b_fm_fits 75 = .ok (.iconst 0, 1) := by decide +kernel
theorem d_fm_fits_76 : decode b_fm_fits 76 = .ok (.ireturn, 1) := by decide +kernel
theorem d_gn_addEmpty_0 : decode b_gn_addEmpty 0 = .ok (.iload_n 1, 1) := by decide +kernel
theorem d_gn_addEmpty_1 : decode b_gn_addEmpty 1 = .ok (.ifCond .le 11, 3) := by decide +kernel
theorem d_gn_addEmpty_4 : decode b_gn_addEmpty 4 = .ok (.aload_n 0, 1) := by decide +kernel
theorem d_gn_addEmpty_5 : decode b_gn_addEmpty 5 = .ok (.getfield 10, 3) := by decide +kernel
theorem d_gn_addEmpty_8 : decode b_gn_addEmpty 8 = .ok (.iload_n 1, 1) := by decide +kernel
theorem d_gn_addEmpty_9 : decode b_gn_addEmpty 9 = .ok (.invokevirtual 99, 3) := by decide +kernel
theorem d_gn_addEmpty_12 : decode b_gn_addEmpty 12 = .ok (.return_, 1) := by decide +kernel
theorem d_gn_addRank_0 : decode b_gn_addRank 0 = .ok (.iconst 0, 1) := by decide +kernel
theorem d_gn_addRank_1 : decode b_gn_addRank 1 = .ok (.istore_n 2, 1) := by decide +kernel
theorem d_gn_addRank_2 : decode b_gn_addRank 2 = .ok (.iconst 0, 1) := by decide +kernel
theorem d_gn_addRank_3 : decode b_gn_addRank 3 = .ok (.istore_n 3, 1) := by decide +kernel
theorem d_gn_addRank_4 : decode b_gn_addRank 4 = .ok (.iload_n 3, 1) := by decide +kernel
theorem d_gn_addRank_5 : decode b_gn_addRank 5 = .ok (.bipush 8, 2) := by decide +kernel
theorem d_gn_addRank_7 : decode b_gn_addRank 7 = .ok (.if_icmp .ge 54, 3) := by decide +kernel
theorem d_gn_addRank_10 : decode b_gn_addRank 10 = .ok (.aload_n 0, 1) := by decide +kernel
theorem d_gn_addRank_11 : decode b_gn_addRank 11 = .ok (.getfield 43, 3) := by decide +kernel
theorem d_gn_addRank_14 : decode b_gn_addRank 14 = .ok (.iload_n 3, 1) := by decide +kernel
theorem d_gn_addRank_15 : decode b_gn_addRank 15 = .ok (.iload_n 1, 1) := by decide +kernel
theorem d_gn_addRank_16 : decode b_gn_addRank 16 = .ok (.invokevirtual 195, 3) := by decide +kernel
theorem d_gn_addRank_19 : decode b_gn_addRank 19 = .ok (.istore 4, 2) := by decide +kernel
theorem d_gn_addRank_21 : decode b_gn_addRank 21 = .ok (.iload 4, 2) := by decide +kernel
theorem d_gn_addRank_23 : decode b_gn_addRank 23 = .ok (.ifCond .le 29, 3) := by decide +kernel
theorem d_gn_addRank_26 : decode b_gn_addRank 26 = .ok (.aload_n 0, 1) := by decide +kernel
theorem d_gn_addRank_27 : decode b_gn_addRank 27 = .ok (.iload_n 2, 1) := by decide +kernel
theorem d_gn_addRank_28 : decode b_gn_addRank 28 = .ok (.invokevirtual 198, 3) := by decide +kernel
theorem d_gn_addRank_31 : decode b_gn_addRank 31 = .ok (.aload_n 0, 1) := by decide +kernel
theorem d_gn_addRank_32 : decode b_gn_addRank 32 = .ok (.getfield 10, 3) := by decide +kernel
theorem d_gn_addRank_35 : decode b_gn_addRank 35 = .ok (.ldc 201, 2) := by decide +kernel
theorem d_gn_addRank_37 : decode b_gn_addRank 37 = .ok (.iload 4, 2) := by decide +kernel
theorem d_gn_addRank_39 : decode b_gn_addRank 39 = .ok (.iconst 1, 1) := by decide +kernel
theorem d_gn_addRank_40 : decode b_gn_addRank 40 = .ok (.isub, 1) := by decide +kernel
theorem d_gn_addRank_41 : decode b_gn_addRank 41 = .ok (.invokestatic 86, 3) := by decide +kernel
theorem d_gn_addRank_44 : decode b_gn_addRank 44 = .ok (.invokevirtual 58, 3) := by decide +kernel
theorem d_gn_addRank_47 : decode b_gn_addRank 47 = .ok (.iconst 0, 1) := by decide +kernel
theorem d_gn_addRank_48 : decode b_gn_addRank 48 = .ok (.istore_n 2, 1) := by decide +kernel
theorem d_gn_addRank_49 : decode b_gn_addRank 49 = .ok (.goto 6, 3) := by decide +kernel
theorem d_gn_addRank_52 : decode b_gn_addRank 52 = .ok (.iinc 2 1, 3) := by decide +kernel
theorem d_gn_addRank_55 : decode b_gn_addRank 55 = .ok (.iinc 3 1, 3) := by decide +kernel
theorem d_gn_addRank_58 : decode b_gn_addRank 58 = .ok (.goto (-54), 3) := by decide +kernel
theorem d_gn_addRank_61 : decode b_gn_addRank 61 = .ok (.aload_n 0, 1) := by decide +kernel
theorem d_gn_addRank_62 : decode b_gn_addRank 62 = .ok (.iload_n 2, 1) := by decide +kernel
theorem d_gn_addRank_63 : decode b_gn_addRank 63 = .ok (.invokevirtual 198, 3) := by decide +kernel
theorem d_gn_addRank_66 : decode b_gn_addRank 66 = .ok (.return_, 1) := by decide +kernel
theorem d_gn_addRanks_0 : decode b_gn_addRanks 0 = .ok (.bipush 7, 2) := by decide +kernel
theorem d_gn_addRanks_2 : decode b_gn_addRanks 2 = .ok (.istore_n 1, 1) := by decide +kernel
theorem d_gn_addRanks_3 : decode b_gn_addRanks 3 = .ok (.iload_n 1, 1) := by decide +kernel
theorem d_gn_addRanks_4 : decode b_gn_addRanks 4 = .ok (.ifCond .lt 27, 3) := by decide +kernel
theorem d_gn_addRanks_7 : decode b_gn_addRanks 7 = .ok (.aload_n 0, 1) := by decide +kernel
theorem d_gn_addRanks_8 : decode b_gn_addRanks 8 = .ok (.iload_n 1, 1) := by decide +kernel
theorem d_gn_addRanks_9 : decode b_gn_addRanks 9 = .ok (.invokevirtual 192, 3) := by decide +kernel
theorem d_gn_addRanks_12 : decode b_gn_addRanks 12 = .ok (.iload_n 1, 1) := by decide +kernel
theorem d_gn_addRanks_13 : decode b_gn_addRanks 13 = .ok (.ifCond .le 12, 3) := by decide +kernel
theorem d_gn_addRanks_16 : decode b_gn_addRanks 16 = .ok (.aload_n 0, 1) := by decide +kernel
theorem d_gn_addRanks_17 : decode b_gn_addRanks 17 = .ok (.getfield 10, 3) := by decide +kernel
theorem d_gn_addRanks_20 : decode b_gn_addRanks 20 = .ok (.bipush 47, 2) := by decide +kernel
theorem d_gn_addRanks_22 : decode b_gn_addRanks 22 = .ok (.invokevirtual 58, 3) := by decide +kernel
theorem d_gn_addRanks_25 : decode b_gn_addRanks 25 = .ok (.iinc 1 (-1), 3) := by decide +kernel
theorem d_gn_addRanks_28 : decode b_gn_addRanks 28 = .ok (.goto (-25), 3) := by decide +kernel
theorem d_gn_addRanks_31 : decode b_gn_addRanks 31 = .ok (.return_, 1) := by decide +kernel
theorem d_gn_addRights_0 : decode b_gn_addRights 0 = .ok (.aload_n 0, 1) := by decide +kernel
theorem d_gn_addRights_1 : decode b_gn_addRights 1 = .ok (.getfield 43, 3) := by decide +kernel
theorem d_gn_addRights_4 : decode b_gn_addRights 4 = .ok (.getfield 117, 3) := by decide +kernel
theorem d_gn_addRights_7 : decode b_gn_addRights 7 = .ok (.ifCond .ne 12, 3) := by decide +kernel
theorem d_gn_addRights_10 : decode b_gn_addRights 10 = .ok (.aload_n 0, 1) := by decide +kernel
theorem d_gn_addRights_11 : decode b_gn_addRights 11 = .ok (.getfield 10, 3) := by decide +kernel
theorem d_gn_addRights_14 : decode b_gn_addRights 14 = .ok (.bipush 45, 2) := by decide +kernel
theorem d_gn_addRights_16 : decode b_gn_addRights 16 = .ok (.invokevirtual 58, 3) := by decide +kernel
theorem d_gn_addRights_19 : decode b_gn_addRights 19 = .ok (.iconst 0, 1) := by decide +kernel
theorem d_gn_addRights_20 : decode b_gn_addRights 20 = .ok (.istore_n 1, 1) := by decide +kernel
theorem d_gn_addRights_21 : decode b_gn_addRights 21 = .ok (.iload_n 1, 1) := by decide +kernel
theorem d_gn_addRights_22 : decode b_gn_addRights 22 = .ok (.ldc 203, 2) := by decide +kernel
theorem d_gn_addRights_24 : decode b_gn_addRights 24 = .ok (.invokevirtual 205, 3) := by decide +kernel
theorem d_gn_addRights_27 : decode b_gn_addRights 27 = .ok (.if_icmp .ge 33, 3) := by decide +kernel
theorem d_gn_addRights_30 : decode b_gn_addRights 30 = .ok (.aload_n 0, 1) := by decide +kernel
theorem d_gn_addRights_31 : decode b_gn_addRights 31 = .ok (.getfield 43, 3) := by decide +kernel
theorem d_gn_addRights_34 : decode b_gn_addRights 34 = .ok (.iload_n 1, 1) := by decide +kernel
theorem d_gn_addRights_35 : decode b_gn_addRights 35 = .ok (.invokevirtual 210, 3) := by decide +kernel
theorem d_gn_addRights_38 : decode b_gn_addRights 38 = .ok (.ifCond .eq 16, 3) := by decide +kernel
theorem d_gn_addRights_41 : decode b_gn_addRights 41 = .ok (.aload_n 0, 1) := by decide +kernel
theorem d_gn_addRights_42 : decode b_gn_addRights 42 = .ok (.getfield 10, 3) := by decide +kernel
theorem d_gn_addRights_45 : decode b_gn_addRights 45 = .ok (.ldc 203, 2) := by decide +kernel
theorem d_gn_addRights_47 : decode b_gn_addRights 47 = .ok (.iload_n 1, 1) := by decide +kernel
theorem d_gn_addRights_48 : decode b_gn_addRights 48 = .ok (.invokestatic 86, 3) := by decide +kernel
theorem d_gn_addRights_51 : decode b_gn_addRights 51 = .ok (.invokevirtual 58, 3) := by decide +kernel
theorem d_gn_addRights_54 : decode b_gn_addRights 54 = .ok (.iinc 1 1, 3) := by decide +kernel
theorem d_gn_addRights_57 : decode b_gn_addRights 57 = .ok (.goto (-36), 3) := by decide +kernel
theorem d_gn_addRights_60 : decode b_gn_addRights 60 = .ok (.return_, 1) := by decide +kernel
theorem d_gn_addPassant_0 : decode b_gn_addPassant 0 = .ok (.aload_n 0, 1) := by decide +kernel
theorem d_gn_addPassant_1 : decode b_gn_addPassant 1 = .ok (.getfield 43, 3) := by decide +kernel
theorem d_gn_addPassant_4 : decode b_gn_addPassant 4 = .ok (.getfield 120, 3) := by decide +kernel
theorem d_gn_addPassant_7 : decode b_gn_addPassant 7 = .ok (.iconst (-1), 1) := by decide +kernel
theorem d_gn_addPassant_8 : decode b_gn_addPassant 8 = .ok (.if_icmp .ne 15, 3) := by decide +kernel
theorem d_gn_addPassant_11 : decode b_gn_addPassant 11 = .ok (.aload_n 0, 1) := by decide +kernel
theorem d_gn_addPassant_12 : decode b_gn_addPassant 12 = .ok (.getfield 10, 3) := by decide +kernel
theorem d_gn_addPassant_15 : decode b_gn_addPassant 15 = .ok (.bipush 45, 2) := by decide +kernel
theorem d_gn_addPassant_17 : decode b_gn_addPassant 17 = .ok (.invokevirtual 58, 3) := by decide +kernel
theorem d_gn_addPassant_20 : decode b_gn_addPassant 20 = .ok (.goto 39, 3) := by decide +kernel
theorem d_gn_addPassant_23 : decode b_gn_addPassant 23 = .ok (.aload_n 0, 1) := by decide +kernel
theorem d_gn_addPassant_24 : decode b_gn_addPassant 24 = .ok (.getfield 10, 3) := by decide +kernel
theorem d_gn_addPassant_27 : decode b_gn_addPassant 27 = .ok (.ldc 213, 2) := by decide +kernel
