theorem d_gn_byteOf_0 : decode b_gn_byteOf 0 = .ok (.lload_n 0, 1) := by decide +kernel
theorem d_gn_byteOf_1 : decode b_gn_byteOf 1 = .ok (.iload_n 2, 1) := by decide +kernel
theorem d_gn_byteOf_2 : decode b_gn_byteOf 2 = .ok (.lushr, 1) := by decide +kernel
theorem d_gn_byteOf_3 : decode b_gn_byteOf 3 = .ok (.l2i, 1) := by decide +kernel
theorem d_gn_byteOf_4 : decode b_gn_byteOf 4 = .ok (.sipush 255, 3) := by decide +kernel
theorem d_gn_byteOf_7 : decode b_gn_byteOf 7 = .ok (.iand, 1) := by decide +kernel
theorem d_gn_byteOf_8 : decode b_gn_byteOf 8 = .ok (.ireturn, 1) := by decide +kernel
theorem d_gn_isSquare_0 : decode b_gn_isSquare 0 = .ok (.iload_n 0, 1) := by decide +kernel
theorem d_gn_isSquare_1 : decode b_gn_isSquare 1 = .ok (.ifCond .lt 13, 3) := by decide +kernel
theorem d_gn_isSquare_4 : decode b_gn_isSquare 4 = .ok (.iload_n 0, 1) := by decide +kernel
theorem d_gn_isSquare_5 : decode b_gn_isSquare 5 = .ok (.bipush 64, 2) := by decide +kernel
theorem d_gn_isSquare_7 : decode b_gn_isSquare 7 = .ok (.if_icmp .ge 7, 3) := by decide +kernel
theorem d_gn_isSquare_10 : decode b_gn_isSquare 10 = .ok (.iconst 1, 1) := by decide +kernel
theorem d_gn_isSquare_11 : decode b_gn_isSquare 11 = .ok (.goto 4, 3) := by decide +kernel
theorem d_gn_isSquare_14 : decode b_gn_isSquare 14 = .ok (.iconst 0, 1) := by decide +kernel
theorem d_gn_isSquare_15 : decode b_gn_isSquare 15 = .ok (.ireturn, 1) := by decide +kernel
theorem d_gn_isSide_0 : decode b_gn_isSide 0 = .ok (.iload_n 0, 1) := by decide +kernel
theorem d_gn_isSide_1 : decode b_gn_isSide 1 = .ok (.ifCond .eq 8, 3) := by decide +kernel
theorem d_gn_isSide_4 : decode b_gn_isSide 4 = .ok (.iload_n 0, 1) := by decide +kernel
theorem d_gn_isSide_5 : decode b_gn_isSide 5 = .ok (.iconst 1, 1) := by decide +kernel
theorem d_gn_isSide_6 : decode b_gn_isSide 6 = .ok (.if_icmp .ne 7, 3) := by decide +kernel
theorem d_gn_isSide_9 : decode b_gn_isSide 9 = .ok (.iconst 1, 1) := by decide +kernel
theorem d_gn_isSide_10 : decode b_gn_isSide 10 = .ok (.goto 4, 3) := by decide +kernel
theorem d_gn_isSide_13 : decode b_gn_isSide 13 = .ok (.iconst 0, 1) := by decide +kernel
theorem d_gn_isSide_14 : decode b_gn_isSide 14 = .ok (.ireturn, 1) := by decide +kernel
theorem d_gn_fileOf_0 : decode b_gn_fileOf 0 = .ok (.iload_n 0, 1) := by decide +kernel
theorem d_gn_fileOf_1 : decode b_gn_fileOf 1 = .ok (.bipush 8, 2) := by decide +kernel
theorem d_gn_fileOf_3 : decode b_gn_fileOf 3 = .ok (.irem, 1) := by decide +kernel
theorem d_gn_fileOf_4 : decode b_gn_fileOf 4 = .ok (.ireturn, 1) := by decide +kernel
theorem d_gn_rankOf_0 : decode b_gn_rankOf 0 = .ok (.iload_n 0, 1) := by decide +kernel
theorem d_gn_rankOf_1 : decode b_gn_rankOf 1 = .ok (.bipush 8, 2) := by decide +kernel
theorem d_gn_rankOf_3 : decode b_gn_rankOf 3 = .ok (.idiv, 1) := by decide +kernel
theorem d_gn_rankOf_4 : decode b_gn_rankOf 4 = .ok (.ireturn, 1) := by decide +kernel
theorem d_gn_squareOf_0 : decode b_gn_squareOf 0 = .ok (.iload_n 0, 1) := by decide +kernel
theorem d_gn_squareOf_1 : decode b_gn_squareOf 1 = .ok (.ifCond .lt 19, 3) := by decide +kernel
theorem d_gn_squareOf_4 : decode b_gn_squareOf 4 = .ok (.iload_n 0, 1) := by decide +kernel
theorem d_gn_squareOf_5 : decode b_gn_squareOf 5 = .ok (.bipush 8, 2) := by decide +kernel
theorem d_gn_squareOf_7 : decode b_gn_squareOf 7 = .ok (.if_icmp .ge 13, 3) := by decide +kernel
theorem d_gn_squareOf_10 : decode b_gn_squareOf 10 = .ok (.iload_n 1, 1) := by decide +kernel
theorem d_gn_squareOf_11 : decode b_gn_squareOf 11 = .ok (.ifCond .lt 9, 3) := by decide +kernel
theorem d_gn_squareOf_14 : decode b_gn_squareOf 14 = .ok (.iload_n 1, 1) := by decide +kernel
theorem d_gn_squareOf_15 : decode b_gn_squareOf 15 = .ok (.bipush 8, 2) := by decide +kernel
theorem d_gn_squareOf_17 : decode b_gn_squareOf 17 = .ok (.if_icmp .lt 5, 3) := by decide +kernel
theorem d_gn_squareOf_20 : decode b_gn_squareOf 20 = .ok (.iconst (-1), 1) := by decide +kernel
theorem d_gn_squareOf_21 : decode b_gn_squareOf 21 = .ok (.ireturn, 1) := by decide +kernel
theorem d_gn_squareOf_22 : decode b_gn_squareOf 22 = .ok (.iload_n 1, 1) := by decide +kernel
theorem d_gn_squareOf_23 : decode b_gn_squareOf 23 = .ok (.bipush 8, 2) := by decide +kernel
theorem d_gn_squareOf_25 : decode b_gn_squareOf 25 = .ok (.imul, 1) := by decide +kernel
theorem d_gn_squareOf_26 : decode b_gn_squareOf 26 = .ok (.iload_n 0, 1) := by decide +kernel
theorem d_gn_squareOf_27 : decode b_gn_squareOf 27 = .ok (.iadd, 1) := by decide +kernel
theorem d_gn_squareOf_28 : decode b_gn_squareOf 28 = .ok (.ireturn, 1) := by decide +kernel
theorem d_gn_manOf_0 : decode b_gn_manOf 0 = .ok (.iload_n 1, 1) := by decide +kernel
theorem d_gn_manOf_1 : decode b_gn_manOf 1 = .ok (.ifCond .ne 7, 3) := by decide +kernel
theorem d_gn_manOf_4 : decode b_gn_manOf 4 = .ok (.iload_n 0, 1) := by decide +kernel
theorem d_gn_manOf_5 : decode b_gn_manOf 5 = .ok (.goto 7, 3) := by decide +kernel
theorem d_gn_manOf_8 : decode b_gn_manOf 8 = .ok (.iload_n 0, 1) := by decide +kernel
theorem d_gn_manOf_9 : decode b_gn_manOf 9 = .ok (.bipush 6, 2) := by decide +kernel
theorem d_gn_manOf_11 : decode b_gn_manOf 11 = .ok (.iadd, 1) := by decide +kernel
theorem d_gn_manOf_12 : decode b_gn_manOf 12 = .ok (.ireturn, 1) := by decide +kernel
theorem d_gn_kindOf_0 : decode b_gn_kindOf 0 = .ok (.iload_n 0, 1) := by decide +kernel
theorem d_gn_kindOf_1 : decode b_gn_kindOf 1 = .ok (.bipush 6, 2) := by decide +kernel
theorem d_gn_kindOf_3 : decode b_gn_kindOf 3 = .ok (.if_icmp .le 10, 3) := by decide +kernel
theorem d_gn_kindOf_6 : decode b_gn_kindOf 6 = .ok (.iload_n 0, 1) := by decide +kernel
theorem d_gn_kindOf_7 : decode b_gn_kindOf 7 = .ok (.bipush 6, 2) := by decide +kernel
theorem d_gn_kindOf_9 : decode b_gn_kindOf 9 = .ok (.isub, 1) := by decide +kernel
theorem d_gn_kindOf_10 : decode b_gn_kindOf 10 = .ok (.goto 4, 3) := by decide +kernel
theorem d_gn_kindOf_13 : decode b_gn_kindOf 13 = .ok (.iload_n 0, 1) := by decide +kernel
theorem d_gn_kindOf_14 : decode b_gn_kindOf 14 = .ok (.ireturn, 1) := by decide +kernel
theorem d_gn_ownRank_0 : decode b_gn_ownRank 0 = .ok (.iload_n 1, 1) := by decide +kernel
theorem d_gn_ownRank_1 : decode b_gn_ownRank 1 = .ok (.ifCond .ne 7, 3) := by decide +kernel
theorem d_gn_ownRank_4 : decode b_gn_ownRank 4 = .ok (.iload_n 0, 1) := by decide +kernel
theorem d_gn_ownRank_5 : decode b_gn_ownRank 5 = .ok (.goto 7, 3) := by decide +kernel
theorem d_gn_ownRank_8 : decode b_gn_ownRank 8 = .ok (.bipush 7, 2) := by decide +kernel
theorem d_gn_ownRank_10 : decode b_gn_ownRank 10 = .ok (.iload_n 0, 1) := by decide +kernel
theorem d_gn_ownRank_11 : decode b_gn_ownRank 11 = .ok (.isub, 1) := by decide +kernel
theorem d_gn_ownRank_12 : decode b_gn_ownRank 12 = .ok (.ireturn, 1) := by decide +kernel
theorem d_gn_passantRank_0 : decode b_gn_passantRank 0 = .ok (.iload_n 0, 1) := by decide +kernel
theorem d_gn_passantRank_1 : decode b_gn_passantRank 1 = .ok (.ifCond .ne 8, 3) := by decide +kernel
theorem d_gn_passantRank_4 : decode b_gn_passantRank 4 = .ok (.bipush 54, 2) := by decide +kernel
theorem d_gn_passantRank_6 : decode b_gn_passantRank 6 = .ok (.goto 5, 3) := by decide +kernel
theorem d_gn_passantRank_9 : decode b_gn_passantRank 9 = .ok (.bipush 51, 2) := by decide +kernel
theorem d_gn_passantRank_11 : decode b_gn_passantRank 11 = .ok (.ireturn, 1) := by decide +kernel
theorem d_gn_becomesOf_0 : decode b_gn_becomesOf 0 = .ok (.iload_n 0, 1) := by decide +kernel
theorem d_gn_becomesOf_1 : decode b_gn_becomesOf 1 = .ok (.bipush 12, 2) := by decide +kernel
theorem d_gn_becomesOf_3 : decode b_gn_becomesOf 3 = .ok (.ishr, 1) := by decide +kernel
theorem d_gn_becomesOf_4 : decode b_gn_becomesOf 4 = .ok (.ireturn, 1) := by decide +kernel
theorem d_gn_isPromotion_0 : decode b_gn_isPromotion 0 = .ok (.iload_n 0, 1) := by decide +kernel
theorem d_gn_isPromotion_1 : decode b_gn_isPromotion 1 = .ok (.iconst 2, 1) := by decide +kernel
theorem d_gn_isPromotion_2 : decode b_gn_isPromotion 2 = .ok (.if_icmp .lt 12, 3) := by decide +kernel
theorem d_gn_isPromotion_5 : decode b_gn_isPromotion 5 = .ok (.iload_n 0, 1) := by decide +kernel
theorem d_gn_isPromotion_6 : decode b_gn_isPromotion 6 = .ok (.iconst 5, 1) := by decide +kernel
theorem d_gn_isPromotion_7 : decode b_gn_isPromotion 7 = .ok (.if_icmp .gt 7, 3) := by decide +kernel
theorem d_gn_isPromotion_10 : decode b_gn_isPromotion 10 = .ok (.iconst 1, 1) := by decide +kernel
theorem d_gn_isPromotion_11 : decode b_gn_isPromotion 11 = .ok (.goto 4, 3) := by decide +kernel
theorem d_gn_isPromotion_14 : decode b_gn_isPromotion 14 = .ok (.iconst 0, 1) := by decide +kernel
theorem d_gn_isPromotion_15 : decode b_gn_isPromotion 15 = .ok (.ireturn, 1) := by decide +kernel
theorem d_gn_isMove_0 : decode b_gn_isMove 0 = .ok (.iload_n 0, 1) := by decide +kernel
theorem d_gn_isMove_1 : decode b_gn_isMove 1 = .ok (.invokestatic 147, 3) := by decide +kernel
theorem d_gn_isMove_4 : decode b_gn_isMove 4 = .ok (.istore_n 1, 1) := by decide +kernel
theorem d_gn_isMove_5 : decode b_gn_isMove 5 = .ok (.iload_n 0, 1) := by decide +kernel
theorem d_gn_isMove_6 : decode b_gn_isMove 6 = .ok (.ifCond .lt 18, 3) := by decide +kernel
theorem d_gn_isMove_9 : decode b_gn_isMove 9 = .ok (.iload_n 1, 1) := by decide +kernel
theorem d_gn_isMove_10 : decode b_gn_isMove 10 = .ok (.ifCond .eq 10, 3) := by decide +kernel
theorem d_gn_isMove_13 : decode b_gn_isMove 13 = .ok (.iload_n 1, 1) := by decide +kernel
theorem d_gn_isMove_14 : decode b_gn_isMove 14 = .ok (.invokestatic 234, 3) := by decide +kernel
theorem d_gn_isMove_17 : decode b_gn_isMove 17 = .ok (.ifCond .eq 7, 3) := by decide +kernel
theorem d_gn_isMove_20 : decode b_gn_isMove 20 = .ok (.iconst 1, 1) := by decide +kernel
theorem d_gn_isMove_21 : decode b_gn_isMove 21 = .ok (.goto 4, 3) := by decide +kernel
theorem d_gn_isMove_24 : decode b_gn_isMove 24 = .ok (.iconst 0, 1) := by decide +kernel
theorem d_gn_isMove_25 : decode b_gn_isMove 25 = .ok (.ireturn, 1) := by decide +kernel
theorem d_gn_fromOf_0 : decode b_gn_fromOf 0 = .ok (.iload_n 0, 1) := by decide +kernel
theorem d_gn_fromOf_1 : decode b_gn_fromOf 1 = .ok (.bipush 63, 2) := by decide +kernel
theorem d_gn_fromOf_3 : decode b_gn_fromOf 3 = .ok (.iand, 1) := by decide +kernel
theorem d_gn_fromOf_4 : decode b_gn_fromOf 4 = .ok (.ireturn, 1) := by decide +kernel
theorem d_gn_toOf_0 : decode b_gn_toOf 0 = .ok (.iload_n 0, 1) := by decide +kernel
theorem d_gn_toOf_1 : decode b_gn_toOf 1 = .ok (.bipush 6, 2) := by decide +kernel
theorem d_gn_toOf_3 : decode b_gn_toOf 3 = .ok (.ishr, 1) := by decide +kernel
theorem d_gn_toOf_4 : decode b_gn_toOf 4 = .ok (.bipush 63, 2) := by decide +kernel
theorem d_gn_toOf_6 : decode b_gn_toOf 6 = .ok (.iand, 1) := by decide +kernel
theorem d_gn_toOf_7 : decode b_gn_toOf 7 = .ok (.ireturn, 1) := by decide +kernel
theorem d_rd_isDigit_0 : decode b_rd_isDigit 0 = .ok (.iload_n 0, 1) := by decide +kernel
theorem d_rd_isDigit_1 : decode b_rd_isDigit 1 = .ok (.bipush 48, 2) := by decide +kernel
theorem d_rd_isDigit_3 : decode b_rd_isDigit 3 = .ok (.if_icmp .lt 13, 3) := by decide +kernel
theorem d_rd_isDigit_6 : decode b_rd_isDigit 6 = .ok (.iload_n 0, 1) := by decide +kernel
theorem d_rd_isDigit_7 : decode b_rd_isDigit 7 = .ok (.bipush 57, 2) := by decide +kernel
theorem d_rd_isDigit_9 : decode b_rd_isDigit 9 = .ok (.if_icmp .gt 7, 3) := by decide +kernel
theorem d_rd_isDigit_12 : decode b_rd_isDigit 12 = .ok (.iconst 1, 1) := by decide +kernel
theorem d_rd_isDigit_13 : decode b_rd_isDigit 13 = .ok (.goto 4, 3) := by decide +kernel
theorem d_rd_isDigit_16 : decode b_rd_isDigit 16 = .ok (.iconst 0, 1) := by decide +kernel
theorem d_rd_isDigit_17 : decode b_rd_isDigit 17 = .ok (.ireturn, 1) := by decide +kernel
theorem d_ln_size_0 : decode b_ln_size 0 = .ok (.aload_n 0, 1) := by decide +kernel
theorem d_ln_size_1 : decode b_ln_size 1 = .ok (.getfield 15, 3) := by decide +kernel
theorem d_ln_size_4 : decode b_ln_size 4 = .ok (.ireturn, 1) := by decide +kernel
theorem d_ln_clear_0 : decode b_ln_clear 0 = .ok (.aload_n 0, 1) := by decide +kernel
theorem d_ln_clear_1 : decode b_ln_clear 1 = .ok (.iconst 0, 1) := by decide +kernel
theorem d_ln_clear_2 : decode b_ln_clear 2 = .ok (.putfield 15, 3) := by decide +kernel
theorem d_ln_clear_5 : decode b_ln_clear 5 = .ok (.return_, 1) := by decide +kernel
theorem d_ln_letter_0 : decode b_ln_letter 0 = .ok (.iload_n 1, 1) := by decide +kernel
theorem d_ln_letter_1 : decode b_ln_letter 1 = .ok (.ifCond .lt 20, 3) := by decide +kernel
theorem d_ln_letter_4 : decode b_ln_letter 4 = .ok (.iload_n 1, 1) := by decide +kernel
theorem d_ln_letter_5 : decode b_ln_letter 5 = .ok (.aload_n 0, 1) := by decide +kernel
theorem d_ln_letter_6 : decode b_ln_letter 6 = .ok (.getfield 15, 3) := by decide +kernel
theorem d_ln_letter_9 : decode b_ln_letter 9 = .ok (.if_icmp .ge 12, 3) := by decide +kernel
theorem d_ln_letter_12 : decode b_ln_letter 12 = .ok (.aload_n 0, 1) := by decide +kernel
theorem d_ln_letter_13 : decode b_ln_letter 13 = .ok (.getfield 9, 3) := by decide +kernel
theorem d_ln_letter_16 : decode b_ln_letter 16 = .ok (.iload_n 1, 1) := by decide +kernel
theorem d_ln_letter_17 : decode b_ln_letter 17 = .ok (.caload, 1) := by decide +kernel
theorem d_ln_letter_18 : decode b_ln_letter 18 = .ok (.goto 4, 3) := by decide +kernel
theorem d_ln_letter_21 : decode b_ln_letter 21 = .ok (.iconst 0, 1) := by decide +kernel
theorem d_ln_letter_22 : decode b_ln_letter 22 = .ok (.ireturn, 1) := by decide +kernel
theorem d_ln_add_0 : decode b_ln_add 0 = .ok (.aload_n 0, 1) := by decide +kernel
theorem d_ln_add_1 : decode b_ln_add 1 = .ok (.getfield 15, 3) := by decide +kernel
theorem d_ln_add_4 : decode b_ln_add 4 = .ok (.bipush 100, 2) := by decide +kernel
theorem d_ln_add_6 : decode b_ln_add 6 = .ok (.if_icmp .ge 23, 3) := by decide +kernel
theorem d_ln_add_9 : decode b_ln_add 9 = .ok (.aload_n 0, 1) := by decide +kernel
theorem d_ln_add_10 : decode b_ln_add 10 = .ok (.getfield 9, 3) := by decide +kernel
theorem d_ln_add_13 : decode b_ln_add 13 = .ok (.aload_n 0, 1) := by decide +kernel
theorem d_ln_add_14 : decode b_ln_add 14 = .ok (.getfield 15, 3) := by decide +kernel
theorem d_ln_add_17 : decode b_ln_add 17 = .ok (.iload_n 1, 1) := by decide +kernel
theorem d_ln_add_18 : decode b_ln_add 18 = .ok (.castore, 1) := by decide +kernel
theorem d_ln_add_19 : decode b_ln_add 19 = .ok (.aload_n 0, 1) := by decide +kernel
theorem d_ln_add_20 : decode b_ln_add 20 = .ok (.dup, 1) := by decide +kernel
theorem d_ln_add_21 : decode b_ln_add 21 = .ok (.getfield 15, 3) := by decide +kernel
theorem d_ln_add_24 : decode b_ln_add 24 = .ok (.iconst 1, 1) := by decide +kernel
theorem d_ln_add_25 : decode b_ln_add 25 = .ok (.iadd, 1) := by decide +kernel
theorem d_ln_add_26 : decode b_ln_add 26 = .ok (.putfield 15, 3) := by decide +kernel
theorem d_ln_add_29 : decode b_ln_add 29 = .ok (.return_, 1) := by decide +kernel
