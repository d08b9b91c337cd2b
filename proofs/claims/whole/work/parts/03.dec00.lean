theorem d_gn_byteOf_0 : decode b_gn_byteOf 0 = .ok (.lload_n 0, 1) := by decide +kernel
theorem d_gn_byteOf_1 : decode b_gn_byteOf 1 = .ok (.iload_n 2, 1) := by decide +kernel
theorem d_gn_byteOf_2 : decode b_gn_byteOf 2 = .ok (.lushr, 1) := by decide +kernel
theorem d_gn_byteOf_3 : decode b_gn_byteOf 3 = .ok (.l2i, 1) := by decide +kernel
theorem d_gn_byteOf_4 : decode b_gn_byteOf 4 = .ok (.sipush 255, 3) := by decide +kernel
theorem d_gn_byteOf_7 : decode b_gn_byteOf 7 = .ok (.iand, 1) := by decide +kernel
theorem d_gn_byteOf_8 : decode b_gn_byteOf 8 = .ok (.ireturn, 1) := by decide +kernel
theorem d_gn_isSquare_0 : decode b_gn_isSquare 0 = .ok (.iload_n 0, 1) := by decide +kernel
theorem d_gn_isSquare_1 : decode b_gn_isSquare 1 = .ok (.ifCond .lt 13, 3) := by decide +kernel
theorem d_gn_isSquare_4 : decode b_gn_isSquare 4 = .ok (.iload_n 0, 1) := by decide +kernel
theorem d_gn_isSquare_5 : decode b_gn_isSquare 5 = .ok (.bipush 64, 2) := by decide +kernel
theorem d_gn_isSquare_7 : decode b_gn_isSquare 7 = .ok (.if_icmp .ge 7, 3) := by decide +kernel
theorem d_gn_isSquare_10 : decode b_gn_isSquare 10 = .ok (.iconst 1, 1) := by decide +kernel
theorem d_gn_isSquare_11 : decode b_gn_isSquare 11 = .ok (.goto 4, 3) := by decide +kernel
theorem d_gn_isSquare_14 : decode b_gn_isSquare 14 = .ok (.iconst 0, 1) := by decide +kernel
theorem d_gn_isSquare_15 : decode b_gn_isSquare 15 = .ok (.ireturn, 1) := by decide +kernel
theorem d_gn_isSide_0 : decode b_gn_isSide 0 = .ok (.iload_n 0, 1) := by decide +kernel
theorem d_gn_isSide_1 : decode b_gn_isSide 1 = .ok (.ifCond .eq 8, 3) := by decide +kernel
theorem d_gn_isSide_4 : decode b_gn_isSide 4 = .ok (.iload_n 0, 1) := by decide +kernel
theorem d_gn_isSide_5 : decode b_gn_isSide 5 = .ok (.iconst 1, 1) := by decide +kernel
theorem d_gn_isSide_6 : decode b_gn_isSide 6 = .ok (.if_icmp .ne 7, 3) := by decide +kernel
theorem d_gn_isSide_9 : decode b_gn_isSide 9 = .ok (.iconst 1, 1) := by decide +kernel
theorem d_gn_isSide_10 : decode b_gn_isSide 10 = .ok (.goto 4, 3) := by decide +kernel
theorem d_gn_isSide_13 : decode b_gn_isSide 13 = .ok (.iconst 0, 1) := by decide +kernel
theorem d_gn_isSide_14 : decode b_gn_isSide 14 = .ok (.ireturn, 1) := by decide +kernel
theorem d_gn_fileOf_0 : decode b_gn_fileOf 0 = .ok (.iload_n 0, 1) := by decide +kernel
theorem d_gn_fileOf_1 : decode b_gn_fileOf 1 = .ok (.bipush 8, 2) := by decide +kernel
theorem d_gn_fileOf_3 : decode b_gn_fileOf 3 = .ok (.irem, 1) := by decide +kernel
theorem d_gn_fileOf_4 : decode b_gn_fileOf 4 = .ok (.ireturn, 1) := by decide +kernel
theorem d_gn_rankOf_0 : decode b_gn_rankOf 0 = .ok (.iload_n 0, 1) := by decide +kernel
theorem d_gn_rankOf_1 : decode b_gn_rankOf 1 = .ok (.bipush 8, 2) := by decide +kernel
theorem d_gn_rankOf_3 : decode b_gn_rankOf 3 = .ok (.idiv, 1) := by decide +kernel
theorem d_gn_rankOf_4 : decode b_gn_rankOf 4 = .ok (.ireturn, 1) := by decide +kernel
theorem d_gn_squareOf_0 : decode b_gn_squareOf 0 = .ok (.iload_n 0, 1) := by decide +kernel
theorem d_gn_squareOf_1 : decode b_gn_squareOf 1 = .ok (.ifCond .lt 19, 3) := by decide +kernel
theorem d_gn_squareOf_4 : decode b_gn_squareOf 4 = .ok (.iload_n 0, 1) := by decide +kernel
theorem d_gn_squareOf_5 : decode b_gn_squareOf 5 = .ok (.bipush 8, 2) := by decide +kernel
theorem d_gn_squareOf_7 : decode b_gn_squareOf 7 = .ok (.if_icmp .ge 13, 3) := by decide +kernel
theorem d_gn_squareOf_10 : decode b_gn_squareOf 10 = .ok (.iload_n 1, 1) := by decide +kernel
theorem d_gn_squareOf_11 : decode b_gn_squareOf 11 = .ok (.ifCond .lt 9, 3) := by decide +kernel
theorem d_gn_squareOf_14 : decode b_gn_squareOf 14 = .ok (.iload_n 1, 1) := by decide +kernel
theorem d_gn_squareOf_15 : decode b_gn_squareOf 15 = .ok (.bipush 8, 2) := by decide +kernel
theorem d_gn_squareOf_17 : decode b_gn_squareOf 17 = .ok (.if_icmp .lt 5, 3) := by decide +kernel
theorem d_gn_squareOf_20 : decode b_gn_squareOf 20 = .ok (.iconst (-1), 1) := by decide +kernel
theorem d_gn_squareOf_21 : decode b_gn_squareOf 21 = .ok (.ireturn, 1) := by decide +kernel
theorem d_gn_squareOf_22 : decode b_gn_squareOf 22 = .ok (.iload_n 1, 1) := by decide +kernel
theorem d_gn_squareOf_23 : decode b_gn_squareOf 23 = .ok (.bipush 8, 2) := by decide +kernel
theorem d_gn_squareOf_25 : decode b_gn_squareOf 25 = .ok (.imul, 1) := by decide +kernel
theorem d_gn_squareOf_26 : decode b_gn_squareOf 26 = .ok (.iload_n 0, 1) := by decide +kernel
theorem d_gn_squareOf_27 : decode b_gn_squareOf 27 = .ok (.iadd, 1) := by decide +kernel
theorem d_gn_squareOf_28 : decode b_gn_squareOf 28 = .ok (.ireturn, 1) := by decide +kernel
theorem d_gn_manOf_0 : decode b_gn_manOf 0 = .ok (.iload_n 1, 1) := by decide +kernel
theorem d_gn_manOf_1 : decode b_gn_manOf 1 = .ok (.ifCond .ne 7, 3) := by decide +kernel
theorem d_gn_manOf_4 : decode b_gn_manOf 4 = .ok (.iload_n 0, 1) := by decide +kernel
theorem d_gn_manOf_5 : decode b_gn_manOf 5 = .ok (.goto 7, 3) := by decide +kernel
theorem d_gn_manOf_8 : decode b_gn_manOf 8 = .ok (.iload_n 0, 1) := by decide +kernel
theorem d_gn_manOf_9 : decode b_gn_manOf 9 = .ok (.bipush 6, 2) := by decide +kernel
theorem d_gn_manOf_11 : decode b_gn_manOf 11 = .ok (.iadd, 1) := by decide +kernel
theorem d_gn_manOf_12 : decode b_gn_manOf 12 = .ok (.ireturn, 1) := by decide +kernel
theorem d_gn_kindOf_0 : decode b_gn_kindOf 0 = .ok (.iload_n 0, 1) := by decide +kernel
theorem d_gn_kindOf_1 : decode b_gn_kindOf 1 = .ok (.bipush 6, 2) := by decide +kernel
theorem d_gn_kindOf_3 : decode b_gn_kindOf 3 = .ok (.if_icmp .le 10, 3) := by decide +kernel
theorem d_gn_kindOf_6 : decode b_gn_kindOf 6 = .ok (.iload_n 0, 1) := by decide +kernel
theorem d_gn_kindOf_7 : decode b_gn_kindOf 7 = .ok (.bipush 6, 2) := by decide +kernel
theorem d_gn_kindOf_9 : decode b_gn_kindOf 9 = .ok (.isub, 1) := by decide +kernel
theorem d_gn_kindOf_10 : decode b_gn_kindOf 10 = .ok (.goto 4, 3) := by decide +kernel
theorem d_gn_kindOf_13 : decode b_gn_kindOf 13 = .ok (.iload_n 0, 1) := by decide +kernel
theorem d_gn_kindOf_14 : decode b_gn_kindOf 14 = .ok (.ireturn, 1) := by decide +kernel
theorem d_gn_ownRank_0 : decode b_gn_ownRank 0 = .ok (.iload_n 1, 1) := by decide +kernel
theorem d_gn_ownRank_1 : decode b_gn_ownRank 1 = .ok (.ifCond .ne 7, 3) := by decide +kernel
theorem d_gn_ownRank_4 : decode b_gn_ownRank 4 = .ok (.iload_n 0, 1) := by decide +kernel
theorem d_gn_ownRank_5 : decode b_gn_ownRank 5 = .ok (.goto 7, 3) := by decide +kernel
theorem d_gn_ownRank_8 : decode b_gn_ownRank 8 = .ok (.bipush 7, 2) := by decide +kernel
theorem d_gn_ownRank_10 : decode b_gn_ownRank 10 = .ok (.iload_n 0, 1) := by decide +kernel
theorem d_gn_ownRank_11 : decode b_gn_ownRank 11 = .ok (.isub, 1) := by decide +kernel
theorem d_gn_ownRank_12 : decode b_gn_ownRank 12 = .ok (.ireturn, 1) := by decide +kernel
theorem d_gn_passantRank_0 : decode b_gn_passantRank 0 = .ok (.iload_n 0, 1) := by decide +kernel
theorem d_gn_passantRank_1 : decode b_gn_passantRank 1 = .ok (.ifCond .ne 8, 3) := by decide +kernel
theorem d_gn_passantRank_4 : decode b_gn_passantRank 4 = .ok (.bipush 54, 2) := by decide +kernel
theorem d_gn_passantRank_6 : decode b_gn_passantRank 6 = .ok (.goto 5, 3) := by decide +kernel
theorem d_gn_passantRank_9 : decode b_gn_passantRank 9 = .ok (.bipush 51, 2) := by decide +kernel
theorem d_gn_passantRank_11 : decode b_gn_passantRank 11 = .ok (.ireturn, 1) := by decide +kernel
theorem d_gn_becomesOf_0 : decode b_gn_becomesOf 0 = .ok (.iload_n 0, 1) := by decide +kernel
theorem d_gn_becomesOf_1 : decode b_gn_becomesOf 1 = .ok (.bipush 12, 2) := by decide +kernel
theorem d_gn_becomesOf_3 : decode b_gn_becomesOf 3 = .ok (.ishr, 1) := by decide +kernel
theorem d_gn_becomesOf_4 : decode b_gn_becomesOf 4 = .ok (.ireturn, 1) := by decide +kernel
theorem d_gn_isPromotion_0 : decode b_gn_isPromotion 0 = .ok (.iload_n 0, 1) := by decide +kernel
theorem d_gn_isPromotion_1 : decode b_gn_isPromotion 1 = .ok (.iconst 2, 1) := by decide +kernel
theorem d_gn_isPromotion_2 : decode b_gn_isPromotion 2 = .ok (.if_icmp .lt 12, 3) := by decide +kernel
theorem d_gn_isPromotion_5 : decode b_gn_isPromotion 5 = .ok (.iload_n 0, 1) := by decide +kernel
theorem d_gn_isPromotion_6 : decode b_gn_isPromotion 6 = .ok (.iconst 5, 1) := by decide +kernel
theorem d_gn_isPromotion_7 : decode b_gn_isPromotion 7 = .ok (.if_icmp .gt 7, 3) := by decide +kernel
theorem d_gn_isPromotion_10 : decode b_gn_isPromotion 10 = .ok (.iconst 1, 1) := by decide +kernel
theorem d_gn_isPromotion_11 : decode b_gn_isPromotion 11 = .ok (.goto 4, 3) := by decide +kernel
theorem d_gn_isPromotion_14 : decode b_gn_isPromotion 14 = .ok (.iconst 0, 1) := by decide +kernel
theorem d_gn_isPromotion_15 : decode b_gn_isPromotion 15 = .ok (.ireturn, 1) := by decide +kernel
theorem d_gn_isMove_0 : decode b_gn_isMove 0 = .ok (.iload_n 0, 1) := by decide +kernel
theorem d_gn_isMove_1 : decode b_gn_isMove 1 = .ok (.invokestatic 147, 3) := by decide +kernel
theorem d_gn_isMove_4 : decode b_gn_isMove 4 = .ok (.istore_n 1, 1) := by decide +kernel
theorem d_gn_isMove_5 : decode b_gn_isMove 5 = .ok (.iload_n 0, 1) := by decide +kernel
theorem d_gn_isMove_6 : decode b_gn_isMove 6 = .ok (.ifCond .lt 18, 3) := by decide +kernel
theorem d_gn_isMove_9 : decode b_gn_isMove 9 = .ok (.iload_n 1, 1) := by decide +kernel
theorem d_gn_isMove_10 : decode b_gn_isMove 10 = .ok (.ifCond .eq 10, 3) := by decide +kernel
theorem d_gn_isMove_13 : decode b_gn_isMove 13 = .ok (.iload_n 1, 1) := by decide +kernel
theorem d_gn_isMove_14 : decode b_gn_isMove 14 = .ok (.invokestatic 234, 3) := by decide +kernel
theorem d_gn_isMove_17 : decode b_gn_isMove 17 = .ok (.ifCond .eq 7, 3) := by decide +kernel
theorem d_gn_isMove_20 : decode b_gn_isMove 20 = .ok (.iconst 1, 1) := by decide +kernel
theorem d_gn_isMove_21 : decode b_gn_isMove 21 = .ok (.goto 4, 3) := by decide +kernel
theorem d_gn_isMove_24 : decode b_gn_isMove 24 = .ok (.iconst 0, 1) := by decide +kernel
theorem d_gn_isMove_25 : decode b_gn_isMove 25 = .ok (.ireturn, 1) := by decide +kernel
theorem d_gn_fromOf_0 : decode b_gn_fromOf 0 = .ok (.iload_n 0, 1) := by decide +kernel
theorem d_gn_fromOf_1 : decode b_gn_fromOf 1 = .ok (.bipush 63, 2) := by decide +kernel
theorem d_gn_fromOf_3 : decode b_gn_fromOf 3 = .ok (.iand, 1) := by decide +kernel
theorem d_gn_fromOf_4 : decode b_gn_fromOf 4 = .ok (.ireturn, 1) := by decide +kernel
theorem d_gn_toOf_0 : decode b_gn_toOf 0 = .ok (.iload_n 0, 1) := by decide +kernel
theorem d_gn_toOf_1 : decode b_gn_toOf 1 = .ok (.bipush 6, 2) := by decide +kernel
theorem d_gn_toOf_3 : decode b_gn_toOf 3 = .ok (.ishr, 1) := by decide +kernel
theorem d_gn_toOf_4 : decode b_gn_toOf 4 = .ok (.bipush 63, 2) := by decide +kernel
theorem d_gn_toOf_6 : decode b_gn_toOf 6 = .ok (.iand, 1) := by decide +kernel
theorem d_gn_toOf_7 : decode b_gn_toOf 7 = .ok (.ireturn, 1) := by decide +kernel
theorem d_rd_isDigit_0 : decode b_rd_isDigit 0 = .ok (.iload_n 0, 1) := by decide +kernel
theorem d_rd_isDigit_1 : decode b_rd_isDigit 1 = .ok (.bipush 48, 2) := by decide +kernel
theorem d_rd_isDigit_3 : decode b_rd_isDigit 3 = .ok (.if_icmp .lt 13, 3) := by decide +kernel
theorem d_rd_isDigit_6 : decode b_rd_isDigit 6 = .ok (.iload_n 0, 1) := by decide +kernel
theorem d_rd_isDigit_7 : decode b_rd_isDigit 7 = .ok (.bipush 57, 2) := by decide +kernel
theorem d_rd_isDigit_9 : decode b_rd_isDigit 9 = .ok (.if_icmp .gt 7, 3) := by decide +kernel
theorem d_rd_isDigit_12 : decode b_rd_isDigit 12 = .ok (.iconst 1, 1) := by decide +kernel
theorem d_rd_isDigit_13 : decode b_rd_isDigit 13 = .ok (.goto 4, 3) := by decide +kernel
theorem d_rd_isDigit_16 : decode b_rd_isDigit 16 = .ok (.iconst 0, 1) := by decide +kernel
theorem d_rd_isDigit_17 : decode b_rd_isDigit 17 = .ok (.ireturn, 1) := by decide +kernel
theorem d_st_isLatin1_0 : decode b_st_isLatin1 0 = .ok (.getstatic 38, 3) := by decide +kernel
theorem d_st_isLatin1_3 : decode b_st_isLatin1 3 = .ok (.ifCond .eq 14, 3) := by decide +kernel
theorem d_st_isLatin1_6 : decode b_st_isLatin1 6 = .ok (.aload_n 0, 1) := by decide +kernel
theorem d_st_isLatin1_7 : decode b_st_isLatin1 7 = .ok (.getfield 15, 3) := by decide +kernel
theorem d_st_isLatin1_10 : decode b_st_isLatin1 10 = .ok (.ifCond .ne 7, 3) := by decide +kernel
theorem d_st_isLatin1_13 : decode b_st_isLatin1 13 = .ok (.iconst 1, 1) := by decide +kernel
theorem d_st_isLatin1_14 : decode b_st_isLatin1 14 = .ok (.goto 4, 3) := by decide +kernel
theorem d_st_isLatin1_17 : decode b_st_isLatin1 17 = .ok (.iconst 0, 1) := by decide +kernel
theorem d_st_isLatin1_18 : decode b_st_isLatin1 18 = .ok (.ireturn, 1) := by decide +kernel
theorem d_st_coder_0 : decode b_st_coder 0 = .ok (.getstatic 38, 3) := by decide +kernel
theorem d_st_coder_3 : decode b_st_coder 3 = .ok (.ifCond .eq 10, 3) := by decide +kernel
theorem d_st_coder_6 : decode b_st_coder 6 = .ok (.aload_n 0, 1) := by decide +kernel
theorem d_st_coder_7 : decode b_st_coder 7 = .ok (.getfield 15, 3) := by decide +kernel
theorem d_st_coder_10 : decode b_st_coder 10 = .ok (.goto 4, 3) := by decide +kernel
theorem d_st_coder_13 : decode b_st_coder 13 = .ok (.iconst 1, 1) := by decide +kernel
theorem d_st_coder_14 : decode b_st_coder 14 = .ok (.ireturn, 1) := by decide +kernel
theorem d_st_length_0 : decode b_st_length 0 = .ok (.aload_n 0, 1) := by decide +kernel
theorem d_st_length_1 : decode b_st_length 1 = .ok (.getfield 9, 3) := by decide +kernel
theorem d_st_length_4 : decode b_st_length 4 = .ok (.arraylength, 1) := by decide +kernel
theorem d_st_length_5 : decode b_st_length 5 = .ok (.aload_n 0, 1) := by decide +kernel
theorem d_st_length_6 : decode b_st_length 6 = .ok (.invokevirtual 335, 3) := by decide +kernel
theorem d_st_length_9 : decode b_st_length 9 = .ok (.ishr, 1) := by decide +kernel
theorem d_st_length_10 : decode b_st_length 10 = .ok (.ireturn, 1) := by decide +kernel
theorem d_sl_canEncode_0 : decode b_sl_canEncode 0 = .ok (.iload_n 0, 1) := by decide +kernel
theorem d_sl_canEncode_1 : decode b_sl_canEncode 1 = .ok (.ifCond .lt 14, 3) := by decide +kernel
theorem d_sl_canEncode_4 : decode b_sl_canEncode 4 = .ok (.iload_n 0, 1) := by decide +kernel
theorem d_sl_canEncode_5 : decode b_sl_canEncode 5 = .ok (.sipush 255, 3) := by decide +kernel
theorem d_sl_canEncode_8 : decode b_sl_canEncode 8 = .ok (.if_icmp .gt 7, 3) := by decide +kernel
theorem d_sl_canEncode_11 : decode b_sl_canEncode 11 = .ok (.iconst 1, 1) := by decide +kernel
theorem d_sl_canEncode_12 : decode b_sl_canEncode 12 = .ok (.goto 4, 3) := by decide +kernel
theorem d_sl_canEncode_15 : decode b_sl_canEncode 15 = .ok (.iconst 0, 1) := by decide +kernel
theorem d_sl_canEncode_16 : decode b_sl_canEncode 16 = .ok (.ireturn, 1) := by decide +kernel
theorem d_sl_indexOfChar_0 : decode b_sl_indexOfChar 0 = .ok (.iload_n 1, 1) := by decide +kernel
theorem d_sl_indexOfChar_1 : decode b_sl_indexOfChar 1 = .ok (.i2b, 1) := by decide +kernel
theorem d_sl_indexOfChar_2 : decode b_sl_indexOfChar 2 = .ok (.istore 4, 2) := by decide +kernel
theorem d_sl_indexOfChar_4 : decode b_sl_indexOfChar 4 = .ok (.iload_n 2, 1) := by decide +kernel
theorem d_sl_indexOfChar_5 : decode b_sl_indexOfChar 5 = .ok (.istore 5, 2) := by decide +kernel
theorem d_sl_indexOfChar_7 : decode b_sl_indexOfChar 7 = .ok (.iload 5, 2) := by decide +kernel
theorem d_sl_indexOfChar_9 : decode b_sl_indexOfChar 9 = .ok (.iload_n 3, 1) := by decide +kernel
theorem d_sl_indexOfChar_10 : decode b_sl_indexOfChar 10 = .ok (.if_icmp .ge 21, 3) := by decide +kernel
theorem d_sl_indexOfChar_13 : decode b_sl_indexOfChar 13 = .ok (.aload_n 0, 1) := by decide +kernel
theorem d_sl_indexOfChar_14 : decode b_sl_indexOfChar 14 = .ok (.iload 5, 2) := by decide +kernel
theorem d_sl_indexOfChar_16 : decode b_sl_indexOfChar 16 = .ok (.baload, 1) := by decide +kernel
theorem d_sl_indexOfChar_17 : decode b_sl_indexOfChar 17 = .ok (.iload 4, 2) := by decide +kernel
theorem d_sl_indexOfChar_19 : decode b_sl_indexOfChar 19 = .ok (.if_icmp .ne 6, 3) := by decide +kernel
theorem d_sl_indexOfChar_22 : decode b_sl_indexOfChar 22 = .ok (.iload 5, 2) := by decide +kernel
theorem d_sl_indexOfChar_24 : decode b_sl_indexOfChar 24 = .ok (.ireturn, 1) := by decide +kernel
theorem d_sl_indexOfChar_25 : decode b_sl_indexOfChar 25 = .ok (.iinc 5 1, 3) := by decide +kernel
theorem d_sl_indexOfChar_28 : decode b_sl_indexOfChar 28 = .ok (.goto (-21), 3) := by decide +kernel
theorem d_sl_indexOfChar_31 : decode b_sl_indexOfChar 31 = .ok (.iconst (-1), 1) := by decide +kernel
theorem d_sl_indexOfChar_32 : decode b_sl_indexOfChar 32 = .ok (.ireturn, 1) := by decide +kernel
theorem d_sl_indexOf_0 : decode b_sl_indexOf 0 = .ok (.iload_n 1, 1) := by decide +kernel
theorem d_sl_indexOf_1 : decode b_sl_indexOf 1 = .ok (.invokestatic 88, 3) := by decide +kernel
theorem d_sl_indexOf_4 : decode b_sl_indexOf 4 = .ok (.ifCond .ne 5, 3) := by decide +kernel
theorem d_sl_indexOf_7 : decode b_sl_indexOf 7 = .ok (.iconst (-1), 1) := by decide +kernel
theorem d_sl_indexOf_8 : decode b_sl_indexOf 8 = .ok (.ireturn, 1) := by decide +kernel
theorem d_sl_indexOf_9 : decode b_sl_indexOf 9 = .ok (.iload_n 2, 1) := by decide +kernel
theorem d_sl_indexOf_10 : decode b_sl_indexOf 10 = .ok (.iconst 0, 1) := by decide +kernel
theorem d_sl_indexOf_11 : decode b_sl_indexOf 11 = .ok (.invokestatic 92, 3) := by decide +kernel
theorem d_sl_indexOf_14 : decode b_sl_indexOf 14 = .ok (.istore_n 2, 1) := by decide +kernel
theorem d_sl_indexOf_15 : decode b_sl_indexOf 15 = .ok (.iload_n 3, 1) := by decide +kernel
theorem d_sl_indexOf_16 : decode b_sl_indexOf 16 = .ok (.aload_n 0, 1) := by decide +kernel
theorem d_sl_indexOf_17 : decode b_sl_indexOf 17 = .ok (.arraylength, 1) := by decide +kernel
theorem d_sl_indexOf_18 : decode b_sl_indexOf 18 = .ok (.invokestatic 38, 3) := by decide +kernel
theorem d_sl_indexOf_21 : decode b_sl_indexOf 21 = .ok (.istore_n 3, 1) := by decide +kernel
theorem d_sl_indexOf_22 : decode b_sl_indexOf 22 = .ok (.iload_n 2, 1) := by decide +kernel
theorem d_sl_indexOf_23 : decode b_sl_indexOf 23 = .ok (.iload_n 3, 1) := by decide +kernel
theorem d_sl_indexOf_24 : decode b_sl_indexOf 24 = .ok (.if_icmp .lt 5, 3) := by decide +kernel
theorem d_sl_indexOf_27 : decode b_sl_indexOf 27 = .ok (.iconst (-1), 1) := by decide +kernel
theorem d_sl_indexOf_28 : decode b_sl_indexOf 28 = .ok (.ireturn, 1) := by decide +kernel
theorem d_sl_indexOf_29 : decode b_sl_indexOf 29 = .ok (.aload_n 0, 1) := by decide +kernel
theorem d_sl_indexOf_30 : decode b_sl_indexOf 30 = .ok (.iload_n 1, 1) := by decide +kernel
theorem d_sl_indexOf_31 : decode b_sl_indexOf 31 = .ok (.iload_n 2, 1) := by decide +kernel
theorem d_sl_indexOf_32 : decode b_sl_indexOf 32 = .ok (.iload_n 3, 1) := by decide +kernel
theorem d_sl_indexOf_33 : decode b_sl_indexOf 33 = .ok (.invokestatic 95, 3) := by decide +kernel
theorem d_sl_indexOf_36 : decode b_sl_indexOf 36 = .ok (.ireturn, 1) := by decide +kernel
theorem d_st_indexOf2_0 : decode b_st_indexOf2 0 = .ok (.aload_n 0, 1) := by decide +kernel
theorem d_st_indexOf2_1 : decode b_st_indexOf2 1 = .ok (.invokevirtual 492, 3) := by decide +kernel
theorem d_st_indexOf2_4 : decode b_st_indexOf2 4 = .ok (.ifCond .eq 19, 3) := by decide +kernel
theorem d_st_indexOf2_7 : decode b_st_indexOf2 7 = .ok (.aload_n 0, 1) := by decide +kernel
theorem d_st_indexOf2_8 : decode b_st_indexOf2 8 = .ok (.getfield 9, 3) := by decide +kernel
theorem d_st_indexOf2_11 : decode b_st_indexOf2 11 = .ok (.iload_n 1, 1) := by decide +kernel
theorem d_st_indexOf2_12 : decode b_st_indexOf2 12 = .ok (.iload_n 2, 1) := by decide +kernel
theorem d_st_indexOf2_13 : decode b_st_indexOf2 13 = .ok (.aload_n 0, 1) := by decide +kernel
theorem d_st_indexOf2_14 : decode b_st_indexOf2 14 = .ok (.invokevirtual 505, 3) := by decide +kernel
theorem d_st_indexOf2_17 : decode b_st_indexOf2 17 = .ok (.invokestatic 637, 3) := by decide +kernel
theorem d_st_indexOf2_20 : decode b_st_indexOf2 20 = .ok (.goto 16, 3) := by decide +kernel
theorem d_st_indexOf2_23 : decode b_st_indexOf2 23 = .ok (.aload_n 0, 1) := by decide +kernel
theorem d_st_indexOf2_24 : decode b_st_indexOf2 24 = .ok (.getfield 9, 3) := by decide +kernel
theorem d_st_indexOf2_27 : decode b_st_indexOf2 27 = .ok (.iload_n 1, 1) := by decide +kernel
theorem d_st_indexOf2_28 : decode b_st_indexOf2 28 = .ok (.iload_n 2, 1) := by decide +kernel
theorem d_st_indexOf2_29 : decode b_st_indexOf2 29 = .ok (.aload_n 0, 1) := by decide +kernel
theorem d_st_indexOf2_30 : decode b_st_indexOf2 30 = .ok (.invokevirtual 505, 3) := by decide +kernel
theorem d_st_indexOf2_33 : decode b_st_indexOf2 33 = .ok (.invokestatic 640, 3) := by decide +kernel
theorem d_st_indexOf2_36 : decode b_st_indexOf2 36 = .ok (.ireturn, 1) := by decide +kernel
theorem d_st_indexOf_0 : decode b_st_indexOf 0 = .ok (.aload_n 0, 1) := by decide +kernel
theorem d_st_indexOf_1 : decode b_st_indexOf 1 = .ok (.iload_n 1, 1) := by decide +kernel
theorem d_st_indexOf_2 : decode b_st_indexOf 2 = .ok (.iconst 0, 1) := by decide +kernel
theorem d_st_indexOf_3 : decode b_st_indexOf 3 = .ok (.invokevirtual 633, 3) := by decide +kernel
theorem d_st_indexOf_6 : decode b_st_indexOf 6 = .ok (.ireturn, 1) := by decide +kernel
theorem d_pc_checkIndex_0 : decode b_pc_checkIndex 0 = .ok (.iload_n 0, 1) := by decide +kernel
theorem d_pc_checkIndex_1 : decode b_pc_checkIndex 1 = .ok (.ifCond .lt 8, 3) := by decide +kernel
theorem d_pc_checkIndex_4 : decode b_pc_checkIndex 4 = .ok (.iload_n 0, 1) := by decide +kernel
theorem d_pc_checkIndex_5 : decode b_pc_checkIndex 5 = .ok (.iload_n 1, 1) := by decide +kernel
theorem d_pc_checkIndex_6 : decode b_pc_checkIndex 6 = .ok (.if_icmp .lt 10, 3) := by decide +kernel
theorem d_pc_checkIndex_9 : decode b_pc_checkIndex 9 = .ok (.aload_n 2, 1) := by decide +kernel
theorem d_pc_checkIndex_10 : decode b_pc_checkIndex 10 = .ok (.iload_n 0, 1) := by decide +kernel
theorem d_pc_checkIndex_11 : decode b_pc_checkIndex 11 = .ok (.iload_n 1, 1) := by decide +kernel
theorem d_pc_checkIndex_12 : decode b_pc_checkIndex 12 = .ok (.invokestatic 95, 3) := by decide +kernel
theorem d_pc_checkIndex_15 : decode b_pc_checkIndex 15 = .ok (.athrow, 1) := by decide +kernel
theorem d_pc_checkIndex_16 : decode b_pc_checkIndex 16 = .ok (.iload_n 0, 1) := by decide +kernel
theorem d_pc_checkIndex_17 : decode b_pc_checkIndex 17 = .ok (.ireturn, 1) := by decide +kernel
theorem d_st_checkIndex_0 : decode b_st_checkIndex 0 = .ok (.iload_n 0, 1) := by decide +kernel
theorem d_st_checkIndex_1 : decode b_st_checkIndex 1 = .ok (.iload_n 1, 1) := by decide +kernel
theorem d_st_checkIndex_2 : decode b_st_checkIndex 2 = .ok (.getstatic 1053, 3) := by decide +kernel
theorem d_st_checkIndex_5 : decode b_st_checkIndex 5 = .ok (.invokestatic 1059, 3) := by decide +kernel
theorem d_st_checkIndex_8 : decode b_st_checkIndex 8 = .ok (.pop, 1) := by decide +kernel
theorem d_st_checkIndex_9 : decode b_st_checkIndex 9 = .ok (.return_, 1) := by decide +kernel
theorem d_sl_charAt_0 : decode b_sl_charAt 0 = .ok (.iload_n 1, 1) := by decide +kernel
theorem d_sl_charAt_1 : decode b_sl_charAt 1 = .ok (.aload_n 0, 1) := by decide +kernel
theorem d_sl_charAt_2 : decode b_sl_charAt 2 = .ok (.arraylength, 1) := by decide +kernel
theorem d_sl_charAt_3 : decode b_sl_charAt 3 = .ok (.invokestatic 9, 3) := by decide +kernel
theorem d_sl_charAt_6 : decode b_sl_charAt 6 = .ok (.aload_n 0, 1) := by decide +kernel
theorem d_sl_charAt_7 : decode b_sl_charAt 7 = .ok (.iload_n 1, 1) := by decide +kernel
theorem d_sl_charAt_8 : decode b_sl_charAt 8 = .ok (.baload, 1) := by decide +kernel
theorem d_sl_charAt_9 : decode b_sl_charAt 9 = .ok (.sipush 255, 3) := by decide +kernel
theorem d_sl_charAt_12 : decode b_sl_charAt 12 = .ok (.iand, 1) := by decide +kernel
theorem d_sl_charAt_13 : decode b_sl_charAt 13 = .ok (.i2c, 1) := by decide +kernel
theorem d_sl_charAt_14 : decode b_sl_charAt 14 = .ok (.ireturn, 1) := by decide +kernel
theorem d_st_charAt_0 : decode b_st_charAt 0 = .ok (.aload_n 0, 1) := by decide +kernel
theorem d_st_charAt_1 : decode b_st_charAt 1 = .ok (.invokevirtual 492, 3) := by decide +kernel
theorem d_st_charAt_4 : decode b_st_charAt 4 = .ok (.ifCond .eq 12, 3) := by decide +kernel
theorem d_st_charAt_7 : decode b_st_charAt 7 = .ok (.aload_n 0, 1) := by decide +kernel
theorem d_st_charAt_8 : decode b_st_charAt 8 = .ok (.getfield 9, 3) := by decide +kernel
theorem d_st_charAt_11 : decode b_st_charAt 11 = .ok (.iload_n 1, 1) := by decide +kernel
theorem d_st_charAt_12 : decode b_st_charAt 12 = .ok (.invokestatic 495, 3) := by decide +kernel
theorem d_st_charAt_15 : decode b_st_charAt 15 = .ok (.ireturn, 1) := by decide +kernel
theorem d_st_charAt_16 : decode b_st_charAt 16 = .ok (.aload_n 0, 1) := by decide +kernel
theorem d_st_charAt_17 : decode b_st_charAt 17 = .ok (.getfield 9, 3) := by decide +kernel
theorem d_st_charAt_20 : decode b_st_charAt 20 = .ok (.iload_n 1, 1) := by decide +kernel
theorem d_st_charAt_21 : decode b_st_charAt 21 = .ok (.invokestatic 498, 3) := by decide +kernel
theorem d_st_charAt_24 : decode b_st_charAt 24 = .ok (.ireturn, 1) := by decide +kernel
theorem d_gn_pick_0 : decode b_gn_pick 0 = .ok (.iload_n 1, 1) := by decide +kernel
theorem d_gn_pick_1 : decode b_gn_pick 1 = .ok (.ifCond .lt 19, 3) := by decide +kernel
theorem d_gn_pick_4 : decode b_gn_pick 4 = .ok (.iload_n 1, 1) := by decide +kernel
theorem d_gn_pick_5 : decode b_gn_pick 5 = .ok (.aload_n 0, 1) := by decide +kernel
theorem d_gn_pick_6 : decode b_gn_pick 6 = .ok (.invokevirtual 205, 3) := by decide +kernel
theorem d_gn_pick_9 : decode b_gn_pick 9 = .ok (.if_icmp .ge 11, 3) := by decide +kernel
theorem d_gn_pick_12 : decode b_gn_pick 12 = .ok (.aload_n 0, 1) := by decide +kernel
theorem d_gn_pick_13 : decode b_gn_pick 13 = .ok (.iload_n 1, 1) := by decide +kernel
theorem d_gn_pick_14 : decode b_gn_pick 14 = .ok (.invokevirtual 231, 3) := by decide +kernel
theorem d_gn_pick_17 : decode b_gn_pick 17 = .ok (.goto 4, 3) := by decide +kernel
theorem d_gn_pick_20 : decode b_gn_pick 20 = .ok (.iconst 0, 1) := by decide +kernel
theorem d_gn_pick_21 : decode b_gn_pick 21 = .ok (.ireturn, 1) := by decide +kernel
theorem d_ln_size_0 : decode b_ln_size 0 = .ok (.aload_n 0, 1) := by decide +kernel
theorem d_ln_size_1 : decode b_ln_size 1 = .ok (.getfield 15, 3) := by decide +kernel
theorem d_ln_size_4 : decode b_ln_size 4 = .ok (.ireturn, 1) := by decide +kernel
theorem d_ln_clear_0 : decode b_ln_clear 0 = .ok (.aload_n 0, 1) := by decide +kernel
theorem d_ln_clear_1 : decode b_ln_clear 1 = .ok (.iconst 0, 1) := by decide +kernel
theorem d_ln_clear_2 : decode b_ln_clear 2 = .ok (.putfield 15, 3) := by decide +kernel
theorem d_ln_clear_5 : decode b_ln_clear 5 = .ok (.return_, 1) := by decide +kernel
theorem d_ln_letter_0 : decode b_ln_letter 0 = .ok (.iload_n 1, 1) := by decide +kernel
theorem d_ln_letter_1 : decode b_ln_letter 1 = .ok (.ifCond .lt 20, 3) := by decide +kernel
theorem d_ln_letter_4 : decode b_ln_letter 4 = .ok (.iload_n 1, 1) := by decide +kernel
theorem d_ln_letter_5 : decode b_ln_letter 5 = .ok (.aload_n 0, 1) := by decide +kernel
theorem d_ln_letter_6 : decode b_ln_letter 6 = .ok (.getfield 15, 3) := by decide +kernel
theorem d_ln_letter_9 : decode b_ln_letter 9 = .ok (.if_icmp .ge 12, 3) := by decide +kernel
theorem d_ln_letter_12 : decode b_ln_letter 12 = .ok (.aload_n 0, 1) := by decide +kernel
theorem d_ln_letter_13 : decode b_ln_letter 13 = .ok (.getfield 9, 3) := by decide +kernel
theorem d_ln_letter_16 : decode b_ln_letter 16 = .ok (.iload_n 1, 1) := by decide +kernel
theorem d_ln_letter_17 : decode b_ln_letter 17 = .ok (.caload, 1) := by decide +kernel
theorem d_ln_letter_18 : decode b_ln_letter 18 = .ok (.goto 4, 3) := by decide +kernel
theorem d_ln_letter_21 : decode b_ln_letter 21 = .ok (.iconst 0, 1) := by decide +kernel
theorem d_ln_letter_22 : decode b_ln_letter 22 = .ok (.ireturn, 1) := by decide +kernel
theorem d_ln_add_0 : decode b_ln_add 0 = .ok (.aload_n 0, 1) := by decide +kernel
theorem d_ln_add_1 : decode b_ln_add 1 = .ok (.getfield 15, 3) := by decide +kernel
theorem d_ln_add_4 : decode b_ln_add 4 = .ok (.bipush 100, 2) := by decide +kernel
theorem d_ln_add_6 : decode b_ln_add 6 = .ok (.if_icmp .ge 23, 3) := by decide +kernel
theorem d_ln_add_9 : decode b_ln_add 9 = .ok (.aload_n 0, 1) := by decide +kernel
theorem d_ln_add_10 : decode b_ln_add 10 = .ok (.getfield 9, 3) := by decide +kernel
theorem d_ln_add_13 : decode b_ln_add 13 = .ok (.aload_n 0, 1) := by decide +kernel
theorem d_ln_add_14 : decode b_ln_add 14 = .ok (.getfield 15, 3) := by decide +kernel
theorem d_ln_add_17 : decode b_ln_add 17 = .ok (.iload_n 1, 1) := by decide +kernel
theorem d_ln_add_18 : decode b_ln_add 18 = .ok (.castore, 1) := by decide +kernel
theorem d_ln_add_19 : decode b_ln_add 19 = .ok (.aload_n 0, 1) := by decide +kernel
theorem d_ln_add_20 : decode b_ln_add 20 = .ok (.dup, 1) := by decide +kernel
theorem d_ln_add_21 : decode b_ln_add 21 = .ok (.getfield 15, 3) := by decide +kernel
theorem d_ln_add_24 : decode b_ln_add 24 = .ok (.iconst 1, 1) := by decide +kernel
theorem d_ln_add_25 : decode b_ln_add 25 = .ok (.iadd, 1) := by decide +kernel
theorem d_ln_add_26 : decode b_ln_add 26 = .ok (.putfield 15, 3) := by decide +kernel
theorem d_ln_add_29 : decode b_ln_add 29 = .ok (.return_, 1) := by decide +kernel
theorem d_ln_addAll_0 : decode b_ln_addAll 0 = .ok (.iconst 0, 1) := by decide +kernel
theorem d_ln_addAll_1 : decode b_ln_addAll 1 = .ok (.istore_n 2, 1) := by decide +kernel
theorem d_ln_addAll_2 : decode b_ln_addAll 2 = .ok (.iload_n 2, 1) := by decide +kernel
theorem d_ln_addAll_3 : decode b_ln_addAll 3 = .ok (.aload_n 1, 1) := by decide +kernel
theorem d_ln_addAll_4 : decode b_ln_addAll 4 = .ok (.invokevirtual 19, 3) := by decide +kernel
theorem d_ln_addAll_7 : decode b_ln_addAll 7 = .ok (.if_icmp .ge 18, 3) := by decide +kernel
theorem d_ln_addAll_10 : decode b_ln_addAll 10 = .ok (.aload_n 0, 1) := by decide +kernel
theorem d_ln_addAll_11 : decode b_ln_addAll 11 = .ok (.aload_n 1, 1) := by decide +kernel
theorem d_ln_addAll_12 : decode b_ln_addAll 12 = .ok (.iload_n 2, 1) := by decide +kernel
theorem d_ln_addAll_13 : decode b_ln_addAll 13 = .ok (.invokevirtual 25, 3) := by decide +kernel
theorem d_ln_addAll_16 : decode b_ln_addAll 16 = .ok (.invokevirtual 29, 3) := by decide +kernel
theorem d_ln_addAll_19 : decode b_ln_addAll 19 = .ok (.iinc 2 1, 3) := by decide +kernel
theorem d_ln_addAll_22 : decode b_ln_addAll 22 = .ok (.goto (-20), 3) := by decide +kernel
theorem d_ln_addAll_25 : decode b_ln_addAll 25 = .ok (.return_, 1) := by decide +kernel
theorem d_ln_addNumber_0 : decode b_ln_addNumber 0 = .ok (.sipush 1000, 3) := by decide +kernel
theorem d_ln_addNumber_3 : decode b_ln_addNumber 3 = .ok (.istore_n 2, 1) := by decide +kernel
theorem d_ln_addNumber_4 : decode b_ln_addNumber 4 = .ok (.iload_n 2, 1) := by decide +kernel
theorem d_ln_addNumber_5 : decode b_ln_addNumber 5 = .ok (.ifCond .le 35, 3) := by decide +kernel
theorem d_ln_addNumber_8 : decode b_ln_addNumber 8 = .ok (.iload_n 1, 1) := by decide +kernel
theorem d_ln_addNumber_9 : decode b_ln_addNumber 9 = .ok (.iload_n 2, 1) := by decide +kernel
theorem d_ln_addNumber_10 : decode b_ln_addNumber 10 = .ok (.if_icmp .ge 8, 3) := by decide +kernel
theorem d_ln_addNumber_13 : decode b_ln_addNumber 13 = .ok (.iload_n 2, 1) := by decide +kernel
theorem d_ln_addNumber_14 : decode b_ln_addNumber 14 = .ok (.iconst 1, 1) := by decide +kernel
theorem d_ln_addNumber_15 : decode b_ln_addNumber 15 = .ok (.if_icmp .ne 17, 3) := by decide +kernel
theorem d_ln_addNumber_18 : decode b_ln_addNumber 18 = .ok (.aload_n 0, 1) := by decide +kernel
theorem d_ln_addNumber_19 : decode b_ln_addNumber 19 = .ok (.bipush 48, 2) := by decide +kernel
theorem d_ln_addNumber_21 : decode b_ln_addNumber 21 = .ok (.iload_n 1, 1) := by decide +kernel
theorem d_ln_addNumber_22 : decode b_ln_addNumber 22 = .ok (.iload_n 2, 1) := by decide +kernel
theorem d_ln_addNumber_23 : decode b_ln_addNumber 23 = .ok (.idiv, 1) := by decide +kernel
theorem d_ln_addNumber_24 : decode b_ln_addNumber 24 = .ok (.bipush 10, 2) := by decide +kernel
theorem d_ln_addNumber_26 : decode b_ln_addNumber 26 = .ok (.irem, 1) := by decide +kernel
theorem d_ln_addNumber_27 : decode b_ln_addNumber 27 = .ok (.iadd, 1) := by decide +kernel
theorem d_ln_addNumber_28 : decode b_ln_addNumber 28 = .ok (.i2c, 1) := by decide +kernel
theorem d_ln_addNumber_29 : decode b_ln_addNumber 29 = .ok (.invokevirtual 29, 3) := by decide +kernel
theorem d_ln_addNumber_32 : decode b_ln_addNumber 32 = .ok (.iload_n 2, 1) := by decide +kernel
theorem d_ln_addNumber_33 : decode b_ln_addNumber 33 = .ok (.bipush 10, 2) := by decide +kernel
theorem d_ln_addNumber_35 : decode b_ln_addNumber 35 = .ok (.idiv, 1) := by decide +kernel
theorem d_ln_addNumber_36 : decode b_ln_addNumber 36 = .ok (.istore_n 2, 1) := by decide +kernel
theorem d_ln_addNumber_37 : decode b_ln_addNumber 37 = .ok (.goto (-33), 3) := by decide +kernel
theorem d_ln_addNumber_40 : decode b_ln_addNumber 40 = .ok (.return_, 1) := by decide +kernel
theorem d_ln_addSquare_0 : decode b_ln_addSquare 0 = .ok (.aload_n 0, 1) := by decide +kernel
theorem d_ln_addSquare_1 : decode b_ln_addSquare 1 = .ok (.ldc 33, 2) := by decide +kernel
theorem d_ln_addSquare_3 : decode b_ln_addSquare 3 = .ok (.iload_n 1, 1) := by decide +kernel
theorem d_ln_addSquare_4 : decode b_ln_addSquare 4 = .ok (.invokestatic 35, 3) := by decide +kernel
theorem d_ln_addSquare_7 : decode b_ln_addSquare 7 = .ok (.invokestatic 39, 3) := by decide +kernel
theorem d_ln_addSquare_10 : decode b_ln_addSquare 10 = .ok (.invokevirtual 29, 3) := by decide +kernel
theorem d_ln_addSquare_13 : decode b_ln_addSquare 13 = .ok (.aload_n 0, 1) := by decide +kernel
theorem d_ln_addSquare_14 : decode b_ln_addSquare 14 = .ok (.ldc 43, 2) := by decide +kernel
theorem d_ln_addSquare_16 : decode b_ln_addSquare 16 = .ok (.iload_n 1, 1) := by decide +kernel
theorem d_ln_addSquare_17 : decode b_ln_addSquare 17 = .ok (.invokestatic 45, 3) := by decide +kernel
theorem d_ln_addSquare_20 : decode b_ln_addSquare 20 = .ok (.invokestatic 39, 3) := by decide +kernel
theorem d_ln_addSquare_23 : decode b_ln_addSquare 23 = .ok (.invokevirtual 29, 3) := by decide +kernel
theorem d_ln_addSquare_26 : decode b_ln_addSquare 26 = .ok (.return_, 1) := by decide +kernel
theorem d_ln_beginsWith_0 : decode b_ln_beginsWith 0 = .ok (.aload_n 1, 1) := by decide +kernel
theorem d_ln_beginsWith_1 : decode b_ln_beginsWith 1 = .ok (.getfield 15, 3) := by decide +kernel
theorem d_ln_beginsWith_4 : decode b_ln_beginsWith 4 = .ok (.iload_n 2, 1) := by decide +kernel
theorem d_ln_beginsWith_5 : decode b_ln_beginsWith 5 = .ok (.if_icmp .eq 5, 3) := by decide +kernel
theorem d_ln_beginsWith_8 : decode b_ln_beginsWith 8 = .ok (.iconst 0, 1) := by decide +kernel
theorem d_ln_beginsWith_9 : decode b_ln_beginsWith 9 = .ok (.ireturn, 1) := by decide +kernel
theorem d_ln_beginsWith_10 : decode b_ln_beginsWith 10 = .ok (.iconst 0, 1) := by decide +kernel
theorem d_ln_beginsWith_11 : decode b_ln_beginsWith 11 = .ok (.istore_n 3, 1) := by decide +kernel
theorem d_ln_beginsWith_12 : decode b_ln_beginsWith 12 = .ok (.iload_n 3, 1) := by decide +kernel
theorem d_ln_beginsWith_13 : decode b_ln_beginsWith 13 = .ok (.aload_n 1, 1) := by decide +kernel
theorem d_ln_beginsWith_14 : decode b_ln_beginsWith 14 = .ok (.getfield 15, 3) := by decide +kernel
theorem d_ln_beginsWith_17 : decode b_ln_beginsWith 17 = .ok (.if_icmp .ge 24, 3) := by decide +kernel
theorem d_ln_beginsWith_20 : decode b_ln_beginsWith 20 = .ok (.aload_n 0, 1) := by decide +kernel
theorem d_ln_beginsWith_21 : decode b_ln_beginsWith 21 = .ok (.iload_n 3, 1) := by decide +kernel
theorem d_ln_beginsWith_22 : decode b_ln_beginsWith 22 = .ok (.invokevirtual 48, 3) := by decide +kernel
theorem d_ln_beginsWith_25 : decode b_ln_beginsWith 25 = .ok (.aload_n 1, 1) := by decide +kernel
theorem d_ln_beginsWith_26 : decode b_ln_beginsWith 26 = .ok (.iload_n 3, 1) := by decide +kernel
theorem d_ln_beginsWith_27 : decode b_ln_beginsWith 27 = .ok (.invokevirtual 48, 3) := by decide +kernel
theorem d_ln_beginsWith_30 : decode b_ln_beginsWith 30 = .ok (.if_icmp .eq 5, 3) := by decide +kernel
theorem d_ln_beginsWith_33 : decode b_ln_beginsWith 33 = .ok (.iconst 0, 1) := by decide +kernel
theorem d_ln_beginsWith_34 : decode b_ln_beginsWith 34 = .ok (.ireturn, 1) := by decide +kernel
theorem d_ln_beginsWith_35 : decode b_ln_beginsWith 35 = .ok (.iinc 3 1, 3) := by decide +kernel
theorem d_ln_beginsWith_38 : decode b_ln_beginsWith 38 = .ok (.goto (-26), 3) := by decide +kernel
theorem d_ln_beginsWith_41 : decode b_ln_beginsWith 41 = .ok (.iconst 1, 1) := by decide +kernel
theorem d_ln_beginsWith_42 : decode b_ln_beginsWith 42 = .ok (.ireturn, 1) := by decide +kernel
theorem d_ln_beginsWithWord_0 : decode b_ln_beginsWithWord 0 = .ok (.aload_n 1, 1) := by decide +kernel
