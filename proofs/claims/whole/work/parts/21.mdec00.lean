theorem d_md_init_0 : decode b_md_init 0 = .ok (.aload_n 0, 1) := by decide +kernel
theorem d_md_init_1 : decode b_md_init 1 = .ok (.invokespecial 1, 3) := by decide +kernel
theorem d_md_init_4 : decode b_md_init 4 = .ok (.aload_n 0, 1) := by decide +kernel
theorem d_md_init_5 : decode b_md_init 5 = .ok (.bipush 64, 2) := by decide +kernel
theorem d_md_init_7 : decode b_md_init 7 = .ok (.newarray .int, 2) := by decide +kernel
theorem d_md_init_9 : decode b_md_init 9 = .ok (.putfield 7, 3) := by decide +kernel
theorem d_md_init_12 : decode b_md_init 12 = .ok (.aload_n 0, 1) := by decide +kernel
theorem d_md_init_13 : decode b_md_init 13 = .ok (.iconst (-1), 1) := by decide +kernel
theorem d_md_init_14 : decode b_md_init 14 = .ok (.putfield 13, 3) := by decide +kernel
theorem d_md_init_17 : decode b_md_init 17 = .ok (.aload_n 0, 1) := by decide +kernel
theorem d_md_init_18 : decode b_md_init 18 = .ok (.iconst 1, 1) := by decide +kernel
theorem d_md_init_19 : decode b_md_init 19 = .ok (.putfield 17, 3) := by decide +kernel
theorem d_md_init_22 : decode b_md_init 22 = .ok (.aload_n 0, 1) := by decide +kernel
theorem d_md_init_23 : decode b_md_init 23 = .ok (.bipush 100, 2) := by decide +kernel
theorem d_md_init_25 : decode b_md_init 25 = .ok (.newarray .int, 2) := by decide +kernel
theorem d_md_init_27 : decode b_md_init 27 = .ok (.putfield 20, 3) := by decide +kernel
theorem d_md_init_30 : decode b_md_init 30 = .ok (.aload_n 0, 1) := by decide +kernel
theorem d_md_init_31 : decode b_md_init 31 = .ok (.sipush 330, 3) := by decide +kernel
theorem d_md_init_34 : decode b_md_init 34 = .ok (.newarray .int, 2) := by decide +kernel
theorem d_md_init_36 : decode b_md_init 36 = .ok (.putfield 23, 3) := by decide +kernel
theorem d_md_init_39 : decode b_md_init 39 = .ok (.aload_n 0, 1) := by decide +kernel
theorem d_md_init_40 : decode b_md_init 40 = .ok (.sipush 330, 3) := by decide +kernel
theorem d_md_init_43 : decode b_md_init 43 = .ok (.newarray .int, 2) := by decide +kernel
theorem d_md_init_45 : decode b_md_init 45 = .ok (.putfield 26, 3) := by decide +kernel
theorem d_md_init_48 : decode b_md_init 48 = .ok (.aload_n 0, 1) := by decide +kernel
theorem d_md_init_49 : decode b_md_init 49 = .ok (.bipush 64, 2) := by decide +kernel
theorem d_md_init_51 : decode b_md_init 51 = .ok (.newarray .int, 2) := by decide +kernel
theorem d_md_init_53 : decode b_md_init 53 = .ok (.putfield 29, 3) := by decide +kernel
theorem d_md_init_56 : decode b_md_init 56 = .ok (.aload_n 0, 1) := by decide +kernel
theorem d_md_init_57 : decode b_md_init 57 = .ok (.bipush 16, 2) := by decide +kernel
theorem d_md_init_59 : decode b_md_init 59 = .ok (.newarray .int, 2) := by decide +kernel
theorem d_md_init_61 : decode b_md_init 61 = .ok (.putfield 32, 3) := by decide +kernel
theorem d_md_init_64 : decode b_md_init 64 = .ok (.return_, 1) := by decide +kernel
theorem d_md_thrown_0 : decode b_md_thrown 0 = .ok (.aload_n 0, 1) := by decide +kernel
theorem d_md_thrown_1 : decode b_md_thrown 1 = .ok (.getfield 35, 3) := by decide +kernel
theorem d_md_thrown_4 : decode b_md_thrown 4 = .ok (.ireturn, 1) := by decide +kernel
theorem d_md_type_0 : decode b_md_type 0 = .ok (.aload_n 0, 1) := by decide +kernel
theorem d_md_type_1 : decode b_md_type 1 = .ok (.iconst 0, 1) := by decide +kernel
theorem d_md_type_2 : decode b_md_type 2 = .ok (.putfield 35, 3) := by decide +kernel
theorem d_md_type_5 : decode b_md_type 5 = .ok (.aload_n 0, 1) := by decide +kernel
theorem d_md_type_6 : decode b_md_type 6 = .ok (.getfield 38, 3) := by decide +kernel
theorem d_md_type_9 : decode b_md_type 9 = .ok (.istore_n 3, 1) := by decide +kernel
theorem d_md_type_10 : decode b_md_type 10 = .ok (.bipush 7, 2) := by decide +kernel
theorem d_md_type_12 : decode b_md_type 12 = .ok (.istore 4, 2) := by decide +kernel
theorem d_md_type_14 : decode b_md_type 14 = .ok (.iload 4, 2) := by decide +kernel
theorem d_md_type_16 : decode b_md_type 16 = .ok (.ifCond .lt 61, 3) := by decide +kernel
theorem d_md_type_19 : decode b_md_type 19 = .ok (.lload_n 1, 1) := by decide +kernel
theorem d_md_type_20 : decode b_md_type 20 = .ok (.bipush 8, 2) := by decide +kernel
theorem d_md_type_22 : decode b_md_type 22 = .ok (.iload 4, 2) := by decide +kernel
theorem d_md_type_24 : decode b_md_type 24 = .ok (.imul, 1) := by decide +kernel
theorem d_md_type_25 : decode b_md_type 25 = .ok (.lshr, 1) := by decide +kernel
theorem d_md_type_26 : decode b_md_type 26 = .ok (.ldc2_w 41, 3) := by decide +kernel
theorem d_md_type_29 : decode b_md_type 29 = .ok (.land, 1) := by decide +kernel
theorem d_md_type_30 : decode b_md_type 30 = .ok (.l2i, 1) := by decide +kernel
theorem d_md_type_31 : decode b_md_type 31 = .ok (.istore 5, 2) := by decide +kernel
theorem d_md_type_33 : decode b_md_type 33 = .ok (.iload 5, 2) := by decide +kernel
theorem d_md_type_35 : decode b_md_type 35 = .ok (.ifCond .eq 36, 3) := by decide +kernel
theorem d_md_type_38 : decode b_md_type 38 = .ok (.iload 5, 2) := by decide +kernel
theorem d_md_type_40 : decode b_md_type 40 = .ok (.bipush 32, 2) := by decide +kernel
theorem d_md_type_42 : decode b_md_type 42 = .ok (.if_icmp .lt 16, 3) := by decide +kernel
theorem d_md_type_45 : decode b_md_type 45 = .ok (.iload 5, 2) := by decide +kernel
theorem d_md_type_47 : decode b_md_type 47 = .ok (.bipush 126, 2) := by decide +kernel
theorem d_md_type_49 : decode b_md_type 49 = .ok (.if_icmp .gt 9, 3) := by decide +kernel
theorem d_md_type_52 : decode b_md_type 52 = .ok (.iload_n 3, 1) := by decide +kernel
theorem d_md_type_53 : decode b_md_type 53 = .ok (.bipush 100, 2) := by decide +kernel
theorem d_md_type_55 : decode b_md_type 55 = .ok (.if_icmp .ne 5, 3) := by decide +kernel
theorem d_md_type_58 : decode b_md_type 58 = .ok (.iconst 0, 1) := by decide +kernel
theorem d_md_type_59 : decode b_md_type 59 = .ok (.ireturn, 1) := by decide +kernel
theorem d_md_type_60 : decode b_md_type 60 = .ok (.aload_n 0, 1) := by decide +kernel
theorem d_md_type_61 : decode b_md_type 61 = .ok (.getfield 20, 3) := by decide +kernel
theorem d_md_type_64 : decode b_md_type 64 = .ok (.iload_n 3, 1) := by decide +kernel
theorem d_md_type_65 : decode b_md_type 65 = .ok (.iload 5, 2) := by decide +kernel
theorem d_md_type_67 : decode b_md_type 67 = .ok (.iastore, 1) := by decide +kernel
theorem d_md_type_68 : decode b_md_type 68 = .ok (.iinc 3 1, 3) := by decide +kernel
theorem d_md_type_71 : decode b_md_type 71 = .ok (.iinc 4 (-1), 3) := by decide +kernel
theorem d_md_type_74 : decode b_md_type 74 = .ok (.goto (-60), 3) := by decide +kernel
theorem d_md_type_77 : decode b_md_type 77 = .ok (.aload_n 0, 1) := by decide +kernel
theorem d_md_type_78 : decode b_md_type 78 = .ok (.iload_n 3, 1) := by decide +kernel
theorem d_md_type_79 : decode b_md_type 79 = .ok (.putfield 38, 3) := by decide +kernel
theorem d_md_type_82 : decode b_md_type 82 = .ok (.iconst 1, 1) := by decide +kernel
theorem d_md_type_83 : decode b_md_type 83 = .ok (.ireturn, 1) := by decide +kernel
theorem d_md_wipe_0 : decode b_md_wipe 0 = .ok (.aload_n 0, 1) := by decide +kernel
theorem d_md_wipe_1 : decode b_md_wipe 1 = .ok (.iconst 0, 1) := by decide +kernel
theorem d_md_wipe_2 : decode b_md_wipe 2 = .ok (.putfield 35, 3) := by decide +kernel
theorem d_md_wipe_5 : decode b_md_wipe 5 = .ok (.aload_n 0, 1) := by decide +kernel
theorem d_md_wipe_6 : decode b_md_wipe 6 = .ok (.iconst 0, 1) := by decide +kernel
theorem d_md_wipe_7 : decode b_md_wipe 7 = .ok (.putfield 38, 3) := by decide +kernel
theorem d_md_wipe_10 : decode b_md_wipe 10 = .ok (.return_, 1) := by decide +kernel
theorem d_md_text_0 : decode b_md_text 0 = .ok (.aload_n 0, 1) := by decide +kernel
theorem d_md_text_1 : decode b_md_text 1 = .ok (.iconst 0, 1) := by decide +kernel
theorem d_md_text_2 : decode b_md_text 2 = .ok (.putfield 35, 3) := by decide +kernel
theorem d_md_text_5 : decode b_md_text 5 = .ok (.iload_n 1, 1) := by decide +kernel
theorem d_md_text_6 : decode b_md_text 6 = .ok (.ifCond .lt 11, 3) := by decide +kernel
theorem d_md_text_9 : decode b_md_text 9 = .ok (.iload_n 1, 1) := by decide +kernel
theorem d_md_text_10 : decode b_md_text 10 = .ok (.aload_n 0, 1) := by decide +kernel
theorem d_md_text_11 : decode b_md_text 11 = .ok (.getfield 38, 3) := by decide +kernel
theorem d_md_text_14 : decode b_md_text 14 = .ok (.if_icmp .lt 7, 3) := by decide +kernel
theorem d_md_text_17 : decode b_md_text 17 = .ok (.iconst (-1), 1) := by decide +kernel
theorem d_md_text_18 : decode b_md_text 18 = .ok (.goto 9, 3) := by decide +kernel
theorem d_md_text_21 : decode b_md_text 21 = .ok (.aload_n 0, 1) := by decide +kernel
theorem d_md_text_22 : decode b_md_text 22 = .ok (.getfield 20, 3) := by decide +kernel
theorem d_md_text_25 : decode b_md_text 25 = .ok (.iload_n 1, 1) := by decide +kernel
theorem d_md_text_26 : decode b_md_text 26 = .ok (.iaload, 1) := by decide +kernel
theorem d_md_text_27 : decode b_md_text 27 = .ok (.ireturn, 1) := by decide +kernel
theorem d_md_peek_0 : decode b_md_peek 0 = .ok (.aload_n 0, 1) := by decide +kernel
theorem d_md_peek_1 : decode b_md_peek 1 = .ok (.getfield 43, 3) := by decide +kernel
theorem d_md_peek_4 : decode b_md_peek 4 = .ok (.aload_n 0, 1) := by decide +kernel
theorem d_md_peek_5 : decode b_md_peek 5 = .ok (.getfield 38, 3) := by decide +kernel
theorem d_md_peek_8 : decode b_md_peek 8 = .ok (.if_icmp .ge 15, 3) := by decide +kernel
theorem d_md_peek_11 : decode b_md_peek 11 = .ok (.aload_n 0, 1) := by decide +kernel
theorem d_md_peek_12 : decode b_md_peek 12 = .ok (.getfield 20, 3) := by decide +kernel
theorem d_md_peek_15 : decode b_md_peek 15 = .ok (.aload_n 0, 1) := by decide +kernel
theorem d_md_peek_16 : decode b_md_peek 16 = .ok (.getfield 43, 3) := by decide +kernel
theorem d_md_peek_19 : decode b_md_peek 19 = .ok (.iaload, 1) := by decide +kernel
theorem d_md_peek_20 : decode b_md_peek 20 = .ok (.goto 4, 3) := by decide +kernel
theorem d_md_peek_23 : decode b_md_peek 23 = .ok (.iconst 0, 1) := by decide +kernel
theorem d_md_peek_24 : decode b_md_peek 24 = .ok (.ireturn, 1) := by decide +kernel
theorem d_md_eat_0 : decode b_md_eat 0 = .ok (.aload_n 0, 1) := by decide +kernel
theorem d_md_eat_1 : decode b_md_eat 1 = .ok (.invokevirtual 46, 3) := by decide +kernel
theorem d_md_eat_4 : decode b_md_eat 4 = .ok (.iload_n 1, 1) := by decide +kernel
theorem d_md_eat_5 : decode b_md_eat 5 = .ok (.if_icmp .eq 5, 3) := by decide +kernel
theorem d_md_eat_8 : decode b_md_eat 8 = .ok (.iconst 0, 1) := by decide +kernel
theorem d_md_eat_9 : decode b_md_eat 9 = .ok (.ireturn, 1) := by decide +kernel
theorem d_md_eat_10 : decode b_md_eat 10 = .ok (.aload_n 0, 1) := by decide +kernel
theorem d_md_eat_11 : decode b_md_eat 11 = .ok (.dup, 1) := by decide +kernel
theorem d_md_eat_12 : decode b_md_eat 12 = .ok (.getfield 43, 3) := by decide +kernel
theorem d_md_eat_15 : decode b_md_eat 15 = .ok (.iconst 1, 1) := by decide +kernel
theorem d_md_eat_16 : decode b_md_eat 16 = .ok (.iadd, 1) := by decide +kernel
theorem d_md_eat_17 : decode b_md_eat 17 = .ok (.putfield 43, 3) := by decide +kernel
theorem d_md_eat_20 : decode b_md_eat 20 = .ok (.iconst 1, 1) := by decide +kernel
theorem d_md_eat_21 : decode b_md_eat 21 = .ok (.ireturn, 1) := by decide +kernel
theorem d_md_letter_0 : decode b_md_letter 0 = .ok (.iload_n 0, 1) := by decide +kernel
theorem d_md_letter_1 : decode b_md_letter 1 = .ok (.bipush 6, 2) := by decide +kernel
theorem d_md_letter_3 : decode b_md_letter 3 = .ok (.if_icmp .le 10, 3) := by decide +kernel
theorem d_md_letter_6 : decode b_md_letter 6 = .ok (.iload_n 0, 1) := by decide +kernel
theorem d_md_letter_7 : decode b_md_letter 7 = .ok (.bipush 6, 2) := by decide +kernel
theorem d_md_letter_9 : decode b_md_letter 9 = .ok (.isub, 1) := by decide +kernel
theorem d_md_letter_10 : decode b_md_letter 10 = .ok (.goto 4, 3) := by decide +kernel
theorem d_md_letter_13 : decode b_md_letter 13 = .ok (.iload_n 0, 1) := by decide +kernel
theorem d_md_letter_14 : decode b_md_letter 14 = .ok (.istore_n 1, 1) := by decide +kernel
theorem d_md_letter_15 : decode b_md_letter 15 = .ok (.iload_n 1, 1) := by decide +kernel
theorem d_md_letter_16 : decode b_md_letter 16 = .ok (.iconst 1, 1) := by decide +kernel
theorem d_md_letter_17 : decode b_md_letter 17 = .ok (.if_icmp .ne 8, 3) := by decide +kernel
theorem d_md_letter_20 : decode b_md_letter 20 = .ok (.bipush 80, 2) := by decide +kernel
theorem d_md_letter_22 : decode b_md_letter 22 = .ok (.goto 45, 3) := by decide +kernel
theorem d_md_letter_25 : decode b_md_letter 25 = .ok (.iload_n 1, 1) := by decide +kernel
theorem d_md_letter_26 : decode b_md_letter 26 = .ok (.iconst 2, 1) := by decide +kernel
theorem d_md_letter_27 : decode b_md_letter 27 = .ok (.if_icmp .ne 8, 3) := by decide +kernel
theorem d_md_letter_30 : decode b_md_letter 30 = .ok (.bipush 78, 2) := by decide +kernel
theorem d_md_letter_32 : decode b_md_letter 32 = .ok (.goto 35, 3) := by decide +kernel
theorem d_md_letter_35 : decode b_md_letter 35 = .ok (.iload_n 1, 1) := by decide +kernel
theorem d_md_letter_36 : decode b_md_letter 36 = .ok (.iconst 3, 1) := by decide +kernel
theorem d_md_letter_37 : decode b_md_letter 37 = .ok (.if_icmp .ne 8, 3) := by decide +kernel
theorem d_md_letter_40 : decode b_md_letter 40 = .ok (.bipush 66, 2) := by decide +kernel
theorem d_md_letter_42 : decode b_md_letter 42 = .ok (.goto 25, 3) := by decide +kernel
theorem d_md_letter_45 : decode b_md_letter 45 = .ok (.iload_n 1, 1) := by decide +kernel
theorem d_md_letter_46 : decode b_md_letter 46 = .ok (.iconst 4, 1) := by decide +kernel
theorem d_md_letter_47 : decode b_md_letter 47 = .ok (.if_icmp .ne 8, 3) := by decide +kernel
theorem d_md_letter_50 : decode b_md_letter 50 = .ok (.bipush 82, 2) := by decide +kernel
theorem d_md_letter_52 : decode b_md_letter 52 = .ok (.goto 15, 3) := by decide +kernel
theorem d_md_letter_55 : decode b_md_letter 55 = .ok (.iload_n 1, 1) := by decide +kernel
theorem d_md_letter_56 : decode b_md_letter 56 = .ok (.iconst 5, 1) := by decide +kernel
theorem d_md_letter_57 : decode b_md_letter 57 = .ok (.if_icmp .ne 8, 3) := by decide +kernel
theorem d_md_letter_60 : decode b_md_letter 60 = .ok (.bipush 81, 2) := by decide +kernel
theorem d_md_letter_62 : decode b_md_letter 62 = .ok (.goto 5, 3) := by decide +kernel
theorem d_md_letter_65 : decode b_md_letter 65 = .ok (.bipush 75, 2) := by decide +kernel
theorem d_md_letter_67 : decode b_md_letter 67 = .ok (.istore_n 2, 1) := by decide +kernel
theorem d_md_letter_68 : decode b_md_letter 68 = .ok (.iload_n 0, 1) := by decide +kernel
theorem d_md_letter_69 : decode b_md_letter 69 = .ok (.bipush 6, 2) := by decide +kernel
theorem d_md_letter_71 : decode b_md_letter 71 = .ok (.if_icmp .le 10, 3) := by decide +kernel
theorem d_md_letter_74 : decode b_md_letter 74 = .ok (.iload_n 2, 1) := by decide +kernel
theorem d_md_letter_75 : decode b_md_letter 75 = .ok (.bipush 32, 2) := by decide +kernel
theorem d_md_letter_77 : decode b_md_letter 77 = .ok (.iadd, 1) := by decide +kernel
theorem d_md_letter_78 : decode b_md_letter 78 = .ok (.goto 4, 3) := by decide +kernel
theorem d_md_letter_81 : decode b_md_letter 81 = .ok (.iload_n 2, 1) := by decide +kernel
theorem d_md_letter_82 : decode b_md_letter 82 = .ok (.ireturn, 1) := by decide +kernel
theorem d_md_manOf_0 : decode b_md_manOf 0 = .ok (.iconst 0, 1) := by decide +kernel
theorem d_md_manOf_1 : decode b_md_manOf 1 = .ok (.istore_n 1, 1) := by decide +kernel
theorem d_md_manOf_2 : decode b_md_manOf 2 = .ok (.iconst 1, 1) := by decide +kernel
theorem d_md_manOf_3 : decode b_md_manOf 3 = .ok (.istore_n 2, 1) := by decide +kernel
theorem d_md_manOf_4 : decode b_md_manOf 4 = .ok (.iload_n 2, 1) := by decide +kernel
theorem d_md_manOf_5 : decode b_md_manOf 5 = .ok (.bipush 13, 2) := by decide +kernel
theorem d_md_manOf_7 : decode b_md_manOf 7 = .ok (.if_icmp .ge 23, 3) := by decide +kernel
theorem d_md_manOf_10 : decode b_md_manOf 10 = .ok (.iload_n 2, 1) := by decide +kernel
theorem d_md_manOf_11 : decode b_md_manOf 11 = .ok (.invokestatic 50, 3) := by decide +kernel
theorem d_md_manOf_14 : decode b_md_manOf 14 = .ok (.iload_n 0, 1) := by decide +kernel
theorem d_md_manOf_15 : decode b_md_manOf 15 = .ok (.if_icmp .ne 7, 3) := by decide +kernel
theorem d_md_manOf_18 : decode b_md_manOf 18 = .ok (.iload_n 2, 1) := by decide +kernel
theorem d_md_manOf_19 : decode b_md_manOf 19 = .ok (.goto 4, 3) := by decide +kernel
theorem d_md_manOf_22 : decode b_md_manOf 22 = .ok (.iload_n 1, 1) := by decide +kernel
theorem d_md_manOf_23 : decode b_md_manOf 23 = .ok (.istore_n 1, 1) := by decide +kernel
theorem d_md_manOf_24 : decode b_md_manOf 24 = .ok (.iinc 2 1, 3) := by decide +kernel
theorem d_md_manOf_27 : decode b_md_manOf 27 = .ok (.goto (-23), 3) := by decide +kernel
theorem d_md_manOf_30 : decode b_md_manOf 30 = .ok (.iload_n 1, 1) := by decide +kernel
theorem d_md_manOf_31 : decode b_md_manOf 31 = .ok (.ireturn, 1) := by decide +kernel
theorem d_md_isDigit_0 : decode b_md_isDigit 0 = .ok (.iload_n 0, 1) := by decide +kernel
theorem d_md_isDigit_1 : decode b_md_isDigit 1 = .ok (.bipush 48, 2) := by decide +kernel
theorem d_md_isDigit_3 : decode b_md_isDigit 3 = .ok (.if_icmp .lt 13, 3) := by decide +kernel
theorem d_md_isDigit_6 : decode b_md_isDigit 6 = .ok (.iload_n 0, 1) := by decide +kernel
theorem d_md_isDigit_7 : decode b_md_isDigit 7 = .ok (.bipush 57, 2) := by decide +kernel
theorem d_md_isDigit_9 : decode b_md_isDigit 9 = .ok (.if_icmp .gt 7, 3) := by decide +kernel
theorem d_md_isDigit_12 : decode b_md_isDigit 12 = .ok (.iconst 1, 1) := by decide +kernel
theorem d_md_isDigit_13 : decode b_md_isDigit 13 = .ok (.goto 4, 3) := by decide +kernel
theorem d_md_isDigit_16 : decode b_md_isDigit 16 = .ok (.iconst 0, 1) := by decide +kernel
theorem d_md_isDigit_17 : decode b_md_isDigit 17 = .ok (.ireturn, 1) := by decide +kernel
theorem d_md_readBoard_0 : decode b_md_readBoard 0 = .ok (.bipush 7, 2) := by decide +kernel
theorem d_md_readBoard_2 : decode b_md_readBoard 2 = .ok (.istore_n 1, 1) := by decide +kernel
theorem d_md_readBoard_3 : decode b_md_readBoard 3 = .ok (.iload_n 1, 1) := by decide +kernel
theorem d_md_readBoard_4 : decode b_md_readBoard 4 = .ok (.ifCond .lt 174, 3) := by decide +kernel
theorem d_md_readBoard_7 : decode b_md_readBoard 7 = .ok (.iconst 0, 1) := by decide +kernel
theorem d_md_readBoard_8 : decode b_md_readBoard 8 = .ok (.istore_n 2, 1) := by decide +kernel
theorem d_md_readBoard_9 : decode b_md_readBoard 9 = .ok (.iconst 0, 1) := by decide +kernel
theorem d_md_readBoard_10 : decode b_md_readBoard 10 = .ok (.istore_n 3, 1) := by decide +kernel
theorem d_md_readBoard_11 : decode b_md_readBoard 11 = .ok (.iload_n 2, 1) := by decide +kernel
theorem d_md_readBoard_12 : decode b_md_readBoard 12 = .ok (.bipush 8, 2) := by decide +kernel
theorem d_md_readBoard_14 : decode b_md_readBoard 14 = .ok (.if_icmp .ge 143, 3) := by decide +kernel
theorem d_md_readBoard_17 : decode b_md_readBoard 17 = .ok (.aload_n 0, 1) := by decide +kernel
theorem d_md_readBoard_18 : decode b_md_readBoard 18 = .ok (.invokevirtual 46, 3) := by decide +kernel
theorem d_md_readBoard_21 : decode b_md_readBoard 21 = .ok (.istore 4, 2) := by decide +kernel
theorem d_md_readBoard_23 : decode b_md_readBoard 23 = .ok (.iload 4, 2) := by decide +kernel
theorem d_md_readBoard_25 : decode b_md_readBoard 25 = .ok (.invokestatic 54, 3) := by decide +kernel
theorem d_md_readBoard_28 : decode b_md_readBoard 28 = .ok (.istore 5, 2) := by decide +kernel
theorem d_md_readBoard_30 : decode b_md_readBoard 30 = .ok (.aload_n 0, 1) := by decide +kernel
theorem d_md_readBoard_31 : decode b_md_readBoard 31 = .ok (.dup, 1) := by decide +kernel
theorem d_md_readBoard_32 : decode b_md_readBoard 32 = .ok (.getfield 43, 3) := by decide +kernel
theorem d_md_readBoard_35 : decode b_md_readBoard 35 = .ok (.iconst 1, 1) := by decide +kernel
theorem d_md_readBoard_36 : decode b_md_readBoard 36 = .ok (.iadd, 1) := by decide +kernel
theorem d_md_readBoard_37 : decode b_md_readBoard 37 = .ok (.putfield 43, 3) := by decide +kernel
theorem d_md_readBoard_40 : decode b_md_readBoard 40 = .ok (.iload 5, 2) := by decide +kernel
theorem d_md_readBoard_42 : decode b_md_readBoard 42 = .ok (.ifCond .le 24, 3) := by decide +kernel
theorem d_md_readBoard_45 : decode b_md_readBoard 45 = .ok (.aload_n 0, 1) := by decide +kernel
theorem d_md_readBoard_46 : decode b_md_readBoard 46 = .ok (.getfield 29, 3) := by decide +kernel
theorem d_md_readBoard_49 : decode b_md_readBoard 49 = .ok (.bipush 8, 2) := by decide +kernel
theorem d_md_readBoard_51 : decode b_md_readBoard 51 = .ok (.iload_n 1, 1) := by decide +kernel
theorem d_md_readBoard_52 : decode b_md_readBoard 52 = .ok (.imul, 1) := by decide +kernel
theorem d_md_readBoard_53 : decode b_md_readBoard 53 = .ok (.iload_n 2, 1) := by decide +kernel
theorem d_md_readBoard_54 : decode b_md_readBoard 54 = .ok (.iadd, 1) := by decide +kernel
theorem d_md_readBoard_55 : decode b_md_readBoard 55 = .ok (.iload 5, 2) := by decide +kernel
theorem d_md_readBoard_57 : decode b_md_readBoard 57 = .ok (.iastore, 1) := by decide +kernel
theorem d_md_readBoard_58 : decode b_md_readBoard 58 = .ok (.iinc 2 1, 3) := by decide +kernel
theorem d_md_readBoard_61 : decode b_md_readBoard 61 = .ok (.iconst 0, 1) := by decide +kernel
theorem d_md_readBoard_62 : decode b_md_readBoard 62 = .ok (.istore_n 3, 1) := by decide +kernel
theorem d_md_readBoard_63 : decode b_md_readBoard 63 = .ok (.goto 91, 3) := by decide +kernel
theorem d_md_readBoard_66 : decode b_md_readBoard 66 = .ok (.iload 4, 2) := by decide +kernel
theorem d_md_readBoard_68 : decode b_md_readBoard 68 = .ok (.bipush 49, 2) := by decide +kernel
theorem d_md_readBoard_70 : decode b_md_readBoard 70 = .ok (.if_icmp .lt 30, 3) := by decide +kernel
theorem d_md_readBoard_73 : decode b_md_readBoard 73 = .ok (.iload 4, 2) := by decide +kernel
theorem d_md_readBoard_75 : decode b_md_readBoard 75 = .ok (.bipush 56, 2) := by decide +kernel
theorem d_md_readBoard_77 : decode b_md_readBoard 77 = .ok (.if_icmp .gt 23, 3) := by decide +kernel
theorem d_md_readBoard_80 : decode b_md_readBoard 80 = .ok (.iload_n 3, 1) := by decide +kernel
theorem d_md_readBoard_81 : decode b_md_readBoard 81 = .ok (.ifCond .ne 19, 3) := by decide +kernel
theorem d_md_readBoard_84 : decode b_md_readBoard 84 = .ok (.iload_n 2, 1) := by decide +kernel
theorem d_md_readBoard_85 : decode b_md_readBoard 85 = .ok (.iload 4, 2) := by decide +kernel
theorem d_md_readBoard_87 : decode b_md_readBoard 87 = .ok (.iadd, 1) := by decide +kernel
theorem d_md_readBoard_88 : decode b_md_readBoard 88 = .ok (.bipush 48, 2) := by decide +kernel
theorem d_md_readBoard_90 : decode b_md_readBoard 90 = .ok (.isub, 1) := by decide +kernel
theorem d_md_readBoard_91 : decode b_md_readBoard 91 = .ok (.bipush 8, 2) := by decide +kernel
theorem d_md_readBoard_93 : decode b_md_readBoard 93 = .ok (.if_icmp .gt 7, 3) := by decide +kernel
theorem d_md_readBoard_96 : decode b_md_readBoard 96 = .ok (.iconst 1, 1) := by decide +kernel
theorem d_md_readBoard_97 : decode b_md_readBoard 97 = .ok (.goto 4, 3) := by decide +kernel
theorem d_md_readBoard_100 : decode b_md_readBoard 100 = .ok (.iconst 0, 1) := by decide +kernel
theorem d_md_readBoard_101 : decode b_md_readBoard 101 = .ok (.istore 6, 2) := by decide +kernel
theorem d_md_readBoard_103 : decode b_md_readBoard 103 = .ok (.iload 6, 2) := by decide +kernel
theorem d_md_readBoard_105 : decode b_md_readBoard 105 = .ok (.ifCond .ne 5, 3) := by decide +kernel
theorem d_md_readBoard_108 : decode b_md_readBoard 108 = .ok (.iconst 0, 1) := by decide +kernel
theorem d_md_readBoard_109 : decode b_md_readBoard 109 = .ok (.ireturn, 1) := by decide +kernel
theorem d_md_readBoard_110 : decode b_md_readBoard 110 = .ok (.iconst 0, 1) := by decide +kernel
theorem d_md_readBoard_111 : decode b_md_readBoard 111 = .ok (.istore 7, 2) := by decide +kernel
theorem d_md_readBoard_113 : decode b_md_readBoard 113 = .ok (.iload 7, 2) := by decide +kernel
theorem d_md_readBoard_115 : decode b_md_readBoard 115 = .ok (.iload 4, 2) := by decide +kernel
theorem d_md_readBoard_117 : decode b_md_readBoard 117 = .ok (.bipush 48, 2) := by decide +kernel
theorem d_md_readBoard_119 : decode b_md_readBoard 119 = .ok (.isub, 1) := by decide +kernel
theorem d_md_readBoard_120 : decode b_md_readBoard 120 = .ok (.if_icmp .ge 24, 3) := by decide +kernel
theorem d_md_readBoard_123 : decode b_md_readBoard 123 = .ok (.aload_n 0, 1) := by decide +kernel
theorem d_md_readBoard_124 : decode b_md_readBoard 124 = .ok (.getfield 29, 3) := by decide +kernel
theorem d_md_readBoard_127 : decode b_md_readBoard 127 = .ok (.bipush 8, 2) := by decide +kernel
theorem d_md_readBoard_129 : decode b_md_readBoard 129 = .ok (.iload_n 1, 1) := by decide +kernel
theorem d_md_readBoard_130 : decode b_md_readBoard 130 = .ok (.imul, 1) := by decide +kernel
theorem d_md_readBoard_131 : decode b_md_readBoard 131 = .ok (.iload_n 2, 1) := by decide +kernel
theorem d_md_readBoard_132 : decode b_md_readBoard 132 = .ok (.iadd, 1) := by decide +kernel
theorem d_md_readBoard_133 : decode b_md_readBoard 133 = .ok (.iload 7, 2) := by decide +kernel
theorem d_md_readBoard_135 : decode b_md_readBoard 135 = .ok (.iadd, 1) := by decide +kernel
theorem d_md_readBoard_136 : decode b_md_readBoard 136 = .ok (.iconst 0, 1) := by decide +kernel
theorem d_md_readBoard_137 : decode b_md_readBoard 137 = .ok (.iastore, 1) := by decide +kernel
theorem d_md_readBoard_138 : decode b_md_readBoard 138 = .ok (.iinc 7 1, 3) := by decide +kernel
theorem d_md_readBoard_141 : decode b_md_readBoard 141 = .ok (.goto (-28), 3) := by decide +kernel
theorem d_md_readBoard_144 : decode b_md_readBoard 144 = .ok (.iload_n 2, 1) := by decide +kernel
theorem d_md_readBoard_145 : decode b_md_readBoard 145 = .ok (.iload 4, 2) := by decide +kernel
theorem d_md_readBoard_147 : decode b_md_readBoard 147 = .ok (.bipush 48, 2) := by decide +kernel
theorem d_md_readBoard_149 : decode b_md_readBoard 149 = .ok (.isub, 1) := by decide +kernel
theorem d_md_readBoard_150 : decode b_md_readBoard 150 = .ok (.iadd, 1) := by decide +kernel
theorem d_md_readBoard_151 : decode b_md_readBoard 151 = .ok (.istore_n 2, 1) := by decide +kernel
theorem d_md_readBoard_152 : decode b_md_readBoard 152 = .ok (.iconst 1, 1) := by decide +kernel
theorem d_md_readBoard_153 : decode b_md_readBoard 153 = .ok (.istore_n 3, 1) := by decide +kernel
theorem d_md_readBoard_154 : decode b_md_readBoard 154 = .ok (.goto (-143), 3) := by decide +kernel
theorem d_md_readBoard_157 : decode b_md_readBoard 157 = .ok (.iload_n 1, 1) := by decide +kernel
theorem d_md_readBoard_158 : decode b_md_readBoard 158 = .ok (.ifCond .le 14, 3) := by decide +kernel
theorem d_md_readBoard_161 : decode b_md_readBoard 161 = .ok (.aload_n 0, 1) := by decide +kernel
theorem d_md_readBoard_162 : decode b_md_readBoard 162 = .ok (.bipush 47, 2) := by decide +kernel
theorem d_md_readBoard_164 : decode b_md_readBoard 164 = .ok (.invokevirtual 57, 3) := by decide +kernel
theorem d_md_readBoard_167 : decode b_md_readBoard 167 = .ok (.ifCond .ne 5, 3) := by decide +kernel
theorem d_md_readBoard_170 : decode b_md_readBoard 170 = .ok (.iconst 0, 1) := by decide +kernel
theorem d_md_readBoard_171 : decode b_md_readBoard 171 = .ok (.ireturn, 1) := by decide +kernel
theorem d_md_readBoard_172 : decode b_md_readBoard 172 = .ok (.iinc 1 (-1), 3) := by decide +kernel
theorem d_md_readBoard_175 : decode b_md_readBoard 175 = .ok (.goto (-172), 3) := by decide +kernel
theorem d_md_readBoard_178 : decode b_md_readBoard 178 = .ok (.iconst 1, 1) := by decide +kernel
theorem d_md_readBoard_179 : decode b_md_readBoard 179 = .ok (.ireturn, 1) := by decide +kernel
theorem d_md_readRights_0 : decode b_md_readRights 0 = .ok (.aload_n 0, 1) := by decide +kernel
theorem d_md_readRights_1 : decode b_md_readRights 1 = .ok (.iconst 0, 1) := by decide +kernel
theorem d_md_readRights_2 : decode b_md_readRights 2 = .ok (.putfield 61, 3) := by decide +kernel
theorem d_md_readRights_5 : decode b_md_readRights 5 = .ok (.aload_n 0, 1) := by decide +kernel
theorem d_md_readRights_6 : decode b_md_readRights 6 = .ok (.bipush 45, 2) := by decide +kernel
theorem d_md_readRights_8 : decode b_md_readRights 8 = .ok (.invokevirtual 57, 3) := by decide +kernel
theorem d_md_readRights_11 : decode b_md_readRights 11 = .ok (.ifCond .eq 5, 3) := by decide +kernel
theorem d_md_readRights_14 : decode b_md_readRights 14 = .ok (.iconst 1, 1) := by decide +kernel
theorem d_md_readRights_15 : decode b_md_readRights 15 = .ok (.ireturn, 1) := by decide +kernel
theorem d_md_readRights_16 : decode b_md_readRights 16 = .ok (.aload_n 0, 1) := by decide +kernel
theorem d_md_readRights_17 : decode b_md_readRights 17 = .ok (.dup, 1) := by decide +kernel
theorem d_md_readRights_18 : decode b_md_readRights 18 = .ok (.getfield 61, 3) := by decide +kernel
theorem d_md_readRights_21 : decode b_md_readRights 21 = .ok (.aload_n 0, 1) := by decide +kernel
theorem d_md_readRights_22 : decode b_md_readRights 22 = .ok (.bipush 75, 2) := by decide +kernel
theorem d_md_readRights_24 : decode b_md_readRights 24 = .ok (.invokevirtual 57, 3) := by decide +kernel
theorem d_md_readRights_27 : decode b_md_readRights 27 = .ok (.ifCond .eq 7, 3) := by decide +kernel
theorem d_md_readRights_30 : decode b_md_readRights 30 = .ok (.iconst 1, 1) := by decide +kernel
theorem d_md_readRights_31 : decode b_md_readRights 31 = .ok (.goto 4, 3) := by decide +kernel
theorem d_md_readRights_34 : decode b_md_readRights 34 = .ok (.iconst 0, 1) := by decide +kernel
theorem d_md_readRights_35 : decode b_md_readRights 35 = .ok (.iadd, 1) := by decide +kernel
theorem d_md_readRights_36 : decode b_md_readRights 36 = .ok (.putfield 61, 3) := by decide +kernel
theorem d_md_readRights_39 : decode b_md_readRights 39 = .ok (.aload_n 0, 1) := by decide +kernel
theorem d_md_readRights_40 : decode b_md_readRights 40 = .ok (.dup, 1) := by decide +kernel
theorem d_md_readRights_41 : decode b_md_readRights 41 = .ok (.getfield 61, 3) := by decide +kernel
theorem d_md_readRights_44 : decode b_md_readRights 44 = .ok (.aload_n 0, 1) := by decide +kernel
theorem d_md_readRights_45 : decode b_md_readRights 45 = .ok (.bipush 81, 2) := by decide +kernel
theorem d_md_readRights_47 : decode b_md_readRights 47 = .ok (.invokevirtual 57, 3) := by decide +kernel
theorem d_md_readRights_50 : decode b_md_readRights 50 = .ok (.ifCond .eq 7, 3) := by decide +kernel
theorem d_md_readRights_53 : decode b_md_readRights 53 = .ok (.iconst 2, 1) := by decide +kernel
theorem d_md_readRights_54 : decode b_md_readRights 54 = .ok (.goto 4, 3) := by decide +kernel
theorem d_md_readRights_57 : decode b_md_readRights 57 = .ok (.iconst 0, 1) := by decide +kernel
theorem d_md_readRights_58 : decode b_md_readRights 58 = .ok (.iadd, 1) := by decide +kernel
theorem d_md_readRights_59 : decode b_md_readRights 59 = .ok (.putfield 61, 3) := by decide +kernel
theorem d_md_readRights_62 : decode b_md_readRights 62 = .ok (.aload_n 0, 1) := by decide +kernel
theorem d_md_readRights_63 : decode b_md_readRights 63 = .ok (.dup, 1) := by decide +kernel
theorem d_md_readRights_64 : decode b_md_readRights 64 = .ok (.getfield 61, 3) := by decide +kernel
theorem d_md_readRights_67 : decode b_md_readRights 67 = .ok (.aload_n 0, 1) := by decide +kernel
theorem d_md_readRights_68 : decode b_md_readRights 68 = .ok (.bipush 107, 2) := by decide +kernel
theorem d_md_readRights_70 : decode b_md_readRights 70 = .ok (.invokevirtual 57, 3) := by decide +kernel
theorem d_md_readRights_73 : decode b_md_readRights 73 = .ok (.ifCond .eq 7, 3) := by decide +kernel
theorem d_md_readRights_76 : decode b_md_readRights 76 = .ok (.iconst 4, 1) := by decide +kernel
theorem d_md_readRights_77 : decode b_md_readRights 77 = .ok (.goto 4, 3) := by decide +kernel
theorem d_md_readRights_80 : decode b_md_readRights 80 = .ok (.iconst 0, 1) := by decide +kernel
theorem d_md_readRights_81 : decode b_md_readRights 81 = .ok (.iadd, 1) := by decide +kernel
theorem d_md_readRights_82 : decode b_md_readRights 82 = .ok (.putfield 61, 3) := by decide +kernel
theorem d_md_readRights_85 : decode b_md_readRights 85 = .ok (.aload_n 0, 1) := by decide +kernel
theorem d_md_readRights_86 : decode b_md_readRights 86 = .ok (.dup, 1) := by decide +kernel
theorem d_md_readRights_87 : decode b_md_readRights 87 = .ok (.getfield 61, 3) := by decide +kernel
theorem d_md_readRights_90 : decode b_md_readRights 90 = .ok (.aload_n 0, 1) := by decide +kernel
theorem d_md_readRights_91 : decode b_md_readRights 91 = .ok (.bipush 113, 2) := by decide +kernel
theorem d_md_readRights_93 : decode b_md_readRights 93 = .ok (.invokevirtual 57, 3) := by decide +kernel
theorem d_md_readRights_96 : decode b_md_readRights 96 = .ok (.ifCond .eq 8, 3) := by decide +kernel
theorem d_md_readRights_99 : decode b_md_readRights 99 = .ok (.bipush 8, 2) := by decide +kernel
theorem d_md_readRights_101 : decode b_md_readRights 101 = .ok (.goto 4, 3) := by decide +kernel
theorem d_md_readRights_104 : decode b_md_readRights 104 = .ok (.iconst 0, 1) := by decide +kernel
theorem d_md_readRights_105 : decode b_md_readRights 105 = .ok (.iadd, 1) := by decide +kernel
theorem d_md_readRights_106 : decode b_md_readRights 106 = .ok (.putfield 61, 3) := by decide +kernel
theorem d_md_readRights_109 : decode b_md_readRights 109 = .ok (.aload_n 0, 1) := by decide +kernel
theorem d_md_readRights_110 : decode b_md_readRights 110 = .ok (.getfield 61, 3) := by decide +kernel
theorem d_md_readRights_113 : decode b_md_readRights 113 = .ok (.ifCond .le 7, 3) := by decide +kernel
theorem d_md_readRights_116 : decode b_md_readRights 116 = .ok (.iconst 1, 1) := by decide +kernel
theorem d_md_readRights_117 : decode b_md_readRights 117 = .ok (.goto 4, 3) := by decide +kernel
theorem d_md_readRights_120 : decode b_md_readRights 120 = .ok (.iconst 0, 1) := by decide +kernel
theorem d_md_readRights_121 : decode b_md_readRights 121 = .ok (.ireturn, 1) := by decide +kernel
theorem d_md_readPassant_0 : decode b_md_readPassant 0 = .ok (.aload_n 0, 1) := by decide +kernel
theorem d_md_readPassant_1 : decode b_md_readPassant 1 = .ok (.iconst (-1), 1) := by decide +kernel
theorem d_md_readPassant_2 : decode b_md_readPassant 2 = .ok (.putfield 64, 3) := by decide +kernel
theorem d_md_readPassant_5 : decode b_md_readPassant 5 = .ok (.aload_n 0, 1) := by decide +kernel
theorem d_md_readPassant_6 : decode b_md_readPassant 6 = .ok (.bipush 45, 2) := by decide +kernel
theorem d_md_readPassant_8 : decode b_md_readPassant 8 = .ok (.invokevirtual 57, 3) := by decide +kernel
theorem d_md_readPassant_11 : decode b_md_readPassant 11 = .ok (.ifCond .eq 5, 3) := by decide +kernel
theorem d_md_readPassant_14 : decode b_md_readPassant 14 = .ok (.iconst 1, 1) := by decide +kernel
theorem d_md_readPassant_15 : decode b_md_readPassant 15 = .ok (.ireturn, 1) := by decide +kernel
theorem d_md_readPassant_16 : decode b_md_readPassant 16 = .ok (.aload_n 0, 1) := by decide +kernel
theorem d_md_readPassant_17 : decode b_md_readPassant 17 = .ok (.aload_n 0, 1) := by decide +kernel
theorem d_md_readPassant_18 : decode b_md_readPassant 18 = .ok (.invokevirtual 46, 3) := by decide +kernel
theorem d_md_readPassant_21 : decode b_md_readPassant 21 = .ok (.bipush 97, 2) := by decide +kernel
theorem d_md_readPassant_23 : decode b_md_readPassant 23 = .ok (.isub, 1) := by decide +kernel
theorem d_md_readPassant_24 : decode b_md_readPassant 24 = .ok (.putfield 64, 3) := by decide +kernel
theorem d_md_readPassant_27 : decode b_md_readPassant 27 = .ok (.aload_n 0, 1) := by decide +kernel
theorem d_md_readPassant_28 : decode b_md_readPassant 28 = .ok (.dup, 1) := by decide +kernel
theorem d_md_readPassant_29 : decode b_md_readPassant 29 = .ok (.getfield 43, 3) := by decide +kernel
theorem d_md_readPassant_32 : decode b_md_readPassant 32 = .ok (.iconst 1, 1) := by decide +kernel
theorem d_md_readPassant_33 : decode b_md_readPassant 33 = .ok (.iadd, 1) := by decide +kernel
theorem d_md_readPassant_34 : decode b_md_readPassant 34 = .ok (.putfield 43, 3) := by decide +kernel
theorem d_md_readPassant_37 : decode b_md_readPassant 37 = .ok (.aload_n 0, 1) := by decide +kernel
theorem d_md_readPassant_38 : decode b_md_readPassant 38 = .ok (.getfield 64, 3) := by decide +kernel
theorem d_md_readPassant_41 : decode b_md_readPassant 41 = .ok (.ifCond .lt 37, 3) := by decide +kernel
theorem d_md_readPassant_44 : decode b_md_readPassant 44 = .ok (.aload_n 0, 1) := by decide +kernel
theorem d_md_readPassant_45 : decode b_md_readPassant 45 = .ok (.getfield 64, 3) := by decide +kernel
theorem d_md_readPassant_48 : decode b_md_readPassant 48 = .ok (.bipush 8, 2) := by decide +kernel
theorem d_md_readPassant_50 : decode b_md_readPassant 50 = .ok (.if_icmp .ge 28, 3) := by decide +kernel
theorem d_md_readPassant_53 : decode b_md_readPassant 53 = .ok (.aload_n 0, 1) := by decide +kernel
