theorem d_gn_addPassant_29 : decode b_gn_addPassant 29 = .ok (.aload_n 0, 1) := by decide +kernel
theorem d_gn_addPassant_30 : decode b_gn_addPassant 30 = .ok (.getfield 43, 3) := by decide +kernel
theorem d_gn_addPassant_33 : decode b_gn_addPassant 33 = .ok (.getfield 120, 3) := by decide +kernel
theorem d_gn_addPassant_36 : decode b_gn_addPassant 36 = .ok (.invokestatic 86, 3) := by decide +kernel
theorem d_gn_addPassant_39 : decode b_gn_addPassant 39 = .ok (.invokevirtual 58, 3) := by decide +kernel
theorem d_gn_addPassant_42 : decode b_gn_addPassant 42 = .ok (.aload_n 0, 1) := by decide +kernel
theorem d_gn_addPassant_43 : decode b_gn_addPassant 43 = .ok (.getfield 10, 3) := by decide +kernel
theorem d_gn_addPassant_46 : decode b_gn_addPassant 46 = .ok (.aload_n 0, 1) := by decide +kernel
theorem d_gn_addPassant_47 : decode b_gn_addPassant 47 = .ok (.getfield 43, 3) := by decide +kernel
theorem d_gn_addPassant_50 : decode b_gn_addPassant 50 = .ok (.getfield 82, 3) := by decide +kernel
theorem d_gn_addPassant_53 : decode b_gn_addPassant 53 = .ok (.invokestatic 215, 3) := by decide +kernel
theorem d_gn_addPassant_56 : decode b_gn_addPassant 56 = .ok (.invokevirtual 58, 3) := by decide +kernel
theorem d_gn_addPassant_59 : decode b_gn_addPassant 59 = .ok (.return_, 1) := by decide +kernel
theorem d_gn_closeness_0 : decode b_gn_closeness 0 = .ok (.aload_n 0, 1) := by decide +kernel
theorem d_gn_closeness_1 : decode b_gn_closeness 1 = .ok (.getfield 36, 3) := by decide +kernel
theorem d_gn_closeness_4 : decode b_gn_closeness 4 = .ok (.aload_n 0, 1) := by decide +kernel
theorem d_gn_closeness_5 : decode b_gn_closeness 5 = .ok (.getfield 29, 3) := by decide +kernel
theorem d_gn_closeness_8 : decode b_gn_closeness 8 = .ok (.iload_n 1, 1) := by decide +kernel
theorem d_gn_closeness_9 : decode b_gn_closeness 9 = .ok (.invokevirtual 183, 3) := by decide +kernel
theorem d_gn_closeness_12 : decode b_gn_closeness 12 = .ok (.aload_n 0, 1) := by decide +kernel
theorem d_gn_closeness_13 : decode b_gn_closeness 13 = .ok (.getfield 43, 3) := by decide +kernel
theorem d_gn_closeness_16 : decode b_gn_closeness 16 = .ok (.invokevirtual 218, 3) := by decide +kernel
theorem d_gn_closeness_19 : decode b_gn_closeness 19 = .ok (.ifCond .ne 6, 3) := by decide +kernel
theorem d_gn_closeness_22 : decode b_gn_closeness 22 = .ok (.bipush (-2), 2) := by decide +kernel
theorem d_gn_closeness_24 : decode b_gn_closeness 24 = .ok (.ireturn, 1) := by decide +kernel
theorem d_gn_closeness_25 : decode b_gn_closeness 25 = .ok (.aload_n 0, 1) := by decide +kernel
theorem d_gn_closeness_26 : decode b_gn_closeness 26 = .ok (.getfield 16, 3) := by decide +kernel
theorem d_gn_closeness_29 : decode b_gn_closeness 29 = .ok (.invokevirtual 62, 3) := by decide +kernel
theorem d_gn_closeness_32 : decode b_gn_closeness 32 = .ok (.aload_n 0, 1) := by decide +kernel
theorem d_gn_closeness_33 : decode b_gn_closeness 33 = .ok (.getfield 29, 3) := by decide +kernel
theorem d_gn_closeness_36 : decode b_gn_closeness 36 = .ok (.aload_n 0, 1) := by decide +kernel
theorem d_gn_closeness_37 : decode b_gn_closeness 37 = .ok (.getfield 16, 3) := by decide +kernel
theorem d_gn_closeness_40 : decode b_gn_closeness 40 = .ok (.iload_n 1, 1) := by decide +kernel
theorem d_gn_closeness_41 : decode b_gn_closeness 41 = .ok (.aload_n 0, 1) := by decide +kernel
theorem d_gn_closeness_42 : decode b_gn_closeness 42 = .ok (.getfield 43, 3) := by decide +kernel
theorem d_gn_closeness_45 : decode b_gn_closeness 45 = .ok (.invokevirtual 164, 3) := by decide +kernel
theorem d_gn_closeness_48 : decode b_gn_closeness 48 = .ok (.aload_n 0, 1) := by decide +kernel
theorem d_gn_closeness_49 : decode b_gn_closeness 49 = .ok (.getfield 10, 3) := by decide +kernel
theorem d_gn_closeness_52 : decode b_gn_closeness 52 = .ok (.aload_n 0, 1) := by decide +kernel
theorem d_gn_closeness_53 : decode b_gn_closeness 53 = .ok (.getfield 16, 3) := by decide +kernel
theorem d_gn_closeness_56 : decode b_gn_closeness 56 = .ok (.aload_n 0, 1) := by decide +kernel
theorem d_gn_closeness_57 : decode b_gn_closeness 57 = .ok (.getfield 36, 3) := by decide +kernel
theorem d_gn_closeness_60 : decode b_gn_closeness 60 = .ok (.invokevirtual 222, 3) := by decide +kernel
theorem d_gn_closeness_63 : decode b_gn_closeness 63 = .ok (.invokevirtual 225, 3) := by decide +kernel
theorem d_gn_closeness_66 : decode b_gn_closeness 66 = .ok (.ifCond .ne 6, 3) := by decide +kernel
theorem d_gn_closeness_69 : decode b_gn_closeness 69 = .ok (.bipush (-3), 2) := by decide +kernel
theorem d_gn_closeness_71 : decode b_gn_closeness 71 = .ok (.ireturn, 1) := by decide +kernel
theorem d_gn_closeness_72 : decode b_gn_closeness 72 = .ok (.aload_n 0, 1) := by decide +kernel
theorem d_gn_closeness_73 : decode b_gn_closeness 73 = .ok (.getfield 29, 3) := by decide +kernel
theorem d_gn_closeness_76 : decode b_gn_closeness 76 = .ok (.iload_n 1, 1) := by decide +kernel
theorem d_gn_closeness_77 : decode b_gn_closeness 77 = .ok (.invokevirtual 168, 3) := by decide +kernel
theorem d_gn_closeness_80 : decode b_gn_closeness 80 = .ok (.aload_n 0, 1) := by decide +kernel
theorem d_gn_closeness_81 : decode b_gn_closeness 81 = .ok (.getfield 36, 3) := by decide +kernel
theorem d_gn_closeness_84 : decode b_gn_closeness 84 = .ok (.invokevirtual 229, 3) := by decide +kernel
theorem d_gn_closeness_87 : decode b_gn_closeness 87 = .ok (.if_icmp .ne 7, 3) := by decide +kernel
theorem d_gn_closeness_90 : decode b_gn_closeness 90 = .ok (.iconst 0, 1) := by decide +kernel
theorem d_gn_closeness_91 : decode b_gn_closeness 91 = .ok (.goto 5, 3) := by decide +kernel
theorem d_gn_closeness_94 : decode b_gn_closeness 94 = .ok (.bipush (-4), 2) := by decide +kernel
theorem d_gn_closeness_96 : decode b_gn_closeness 96 = .ok (.ireturn, 1) := by decide +kernel
theorem d_gn_type_0 : decode b_gn_type 0 = .ok (.iconst 0, 1) := by decide +kernel
theorem d_gn_type_1 : decode b_gn_type 1 = .ok (.istore_n 3, 1) := by decide +kernel
theorem d_gn_type_2 : decode b_gn_type 2 = .ok (.bipush 56, 2) := by decide +kernel
theorem d_gn_type_4 : decode b_gn_type 4 = .ok (.istore 4, 2) := by decide +kernel
theorem d_gn_type_6 : decode b_gn_type 6 = .ok (.iload 4, 2) := by decide +kernel
theorem d_gn_type_8 : decode b_gn_type 8 = .ok (.ifCond .lt 46, 3) := by decide +kernel
theorem d_gn_type_11 : decode b_gn_type 11 = .ok (.lload_n 1, 1) := by decide +kernel
theorem d_gn_type_12 : decode b_gn_type 12 = .ok (.iload 4, 2) := by decide +kernel
theorem d_gn_type_14 : decode b_gn_type 14 = .ok (.invokestatic 50, 3) := by decide +kernel
theorem d_gn_type_17 : decode b_gn_type 17 = .ok (.istore 5, 2) := by decide +kernel
theorem d_gn_type_19 : decode b_gn_type 19 = .ok (.iload 5, 2) := by decide +kernel
theorem d_gn_type_21 : decode b_gn_type 21 = .ok (.ifCond .eq 19, 3) := by decide +kernel
theorem d_gn_type_24 : decode b_gn_type 24 = .ok (.iload 5, 2) := by decide +kernel
theorem d_gn_type_26 : decode b_gn_type 26 = .ok (.bipush 32, 2) := by decide +kernel
theorem d_gn_type_28 : decode b_gn_type 28 = .ok (.if_icmp .lt 10, 3) := by decide +kernel
theorem d_gn_type_31 : decode b_gn_type 31 = .ok (.iload 5, 2) := by decide +kernel
theorem d_gn_type_33 : decode b_gn_type 33 = .ok (.bipush 126, 2) := by decide +kernel
theorem d_gn_type_35 : decode b_gn_type 35 = .ok (.if_icmp .le 5, 3) := by decide +kernel
theorem d_gn_type_38 : decode b_gn_type 38 = .ok (.iconst 0, 1) := by decide +kernel
theorem d_gn_type_39 : decode b_gn_type 39 = .ok (.ireturn, 1) := by decide +kernel
theorem d_gn_type_40 : decode b_gn_type 40 = .ok (.iload 5, 2) := by decide +kernel
theorem d_gn_type_42 : decode b_gn_type 42 = .ok (.ifCond .eq 6, 3) := by decide +kernel
theorem d_gn_type_45 : decode b_gn_type 45 = .ok (.iinc 3 1, 3) := by decide +kernel
theorem d_gn_type_48 : decode b_gn_type 48 = .ok (.iinc 4 (-8), 3) := by decide +kernel
theorem d_gn_type_51 : decode b_gn_type 51 = .ok (.goto (-45), 3) := by decide +kernel
theorem d_gn_type_54 : decode b_gn_type 54 = .ok (.aload_n 0, 1) := by decide +kernel
theorem d_gn_type_55 : decode b_gn_type 55 = .ok (.getfield 10, 3) := by decide +kernel
theorem d_gn_type_58 : decode b_gn_type 58 = .ok (.invokevirtual 54, 3) := by decide +kernel
theorem d_gn_type_61 : decode b_gn_type 61 = .ok (.iload_n 3, 1) := by decide +kernel
theorem d_gn_type_62 : decode b_gn_type 62 = .ok (.iadd, 1) := by decide +kernel
theorem d_gn_type_63 : decode b_gn_type 63 = .ok (.bipush 100, 2) := by decide +kernel
theorem d_gn_type_65 : decode b_gn_type 65 = .ok (.if_icmp .le 5, 3) := by decide +kernel
theorem d_gn_type_68 : decode b_gn_type 68 = .ok (.iconst 0, 1) := by decide +kernel
theorem d_gn_type_69 : decode b_gn_type 69 = .ok (.ireturn, 1) := by decide +kernel
theorem d_gn_type_70 : decode b_gn_type 70 = .ok (.bipush 56, 2) := by decide +kernel
theorem d_gn_type_72 : decode b_gn_type 72 = .ok (.istore 4, 2) := by decide +kernel
theorem d_gn_type_74 : decode b_gn_type 74 = .ok (.iload 4, 2) := by decide +kernel
theorem d_gn_type_76 : decode b_gn_type 76 = .ok (.ifCond .lt 32, 3) := by decide +kernel
theorem d_gn_type_79 : decode b_gn_type 79 = .ok (.lload_n 1, 1) := by decide +kernel
theorem d_gn_type_80 : decode b_gn_type 80 = .ok (.iload 4, 2) := by decide +kernel
theorem d_gn_type_82 : decode b_gn_type 82 = .ok (.invokestatic 50, 3) := by decide +kernel
theorem d_gn_type_85 : decode b_gn_type 85 = .ok (.istore 5, 2) := by decide +kernel
theorem d_gn_type_87 : decode b_gn_type 87 = .ok (.iload 5, 2) := by decide +kernel
theorem d_gn_type_89 : decode b_gn_type 89 = .ok (.ifCond .eq 13, 3) := by decide +kernel
theorem d_gn_type_92 : decode b_gn_type 92 = .ok (.aload_n 0, 1) := by decide +kernel
theorem d_gn_type_93 : decode b_gn_type 93 = .ok (.getfield 10, 3) := by decide +kernel
theorem d_gn_type_96 : decode b_gn_type 96 = .ok (.iload 5, 2) := by decide +kernel
theorem d_gn_type_98 : decode b_gn_type 98 = .ok (.i2c, 1) := by decide +kernel
theorem d_gn_type_99 : decode b_gn_type 99 = .ok (.invokevirtual 58, 3) := by decide +kernel
theorem d_gn_type_102 : decode b_gn_type 102 = .ok (.iinc 4 (-8), 3) := by decide +kernel
theorem d_gn_type_105 : decode b_gn_type 105 = .ok (.goto (-31), 3) := by decide +kernel
theorem d_gn_type_108 : decode b_gn_type 108 = .ok (.iconst 1, 1) := by decide +kernel
theorem d_gn_type_109 : decode b_gn_type 109 = .ok (.ireturn, 1) := by decide +kernel
theorem d_gn_wipe_0 : decode b_gn_wipe 0 = .ok (.aload_n 0, 1) := by decide +kernel
theorem d_gn_wipe_1 : decode b_gn_wipe 1 = .ok (.getfield 10, 3) := by decide +kernel
theorem d_gn_wipe_4 : decode b_gn_wipe 4 = .ok (.invokevirtual 62, 3) := by decide +kernel
theorem d_gn_wipe_7 : decode b_gn_wipe 7 = .ok (.return_, 1) := by decide +kernel
theorem d_gn_text_0 : decode b_gn_text 0 = .ok (.iload_n 1, 1) := by decide +kernel
theorem d_gn_text_1 : decode b_gn_text 1 = .ok (.ifCond .lt 25, 3) := by decide +kernel
theorem d_gn_text_4 : decode b_gn_text 4 = .ok (.iload_n 1, 1) := by decide +kernel
theorem d_gn_text_5 : decode b_gn_text 5 = .ok (.aload_n 0, 1) := by decide +kernel
theorem d_gn_text_6 : decode b_gn_text 6 = .ok (.getfield 10, 3) := by decide +kernel
theorem d_gn_text_9 : decode b_gn_text 9 = .ok (.invokevirtual 54, 3) := by decide +kernel
theorem d_gn_text_12 : decode b_gn_text 12 = .ok (.if_icmp .ge 14, 3) := by decide +kernel
theorem d_gn_text_15 : decode b_gn_text 15 = .ok (.aload_n 0, 1) := by decide +kernel
theorem d_gn_text_16 : decode b_gn_text 16 = .ok (.getfield 10, 3) := by decide +kernel
theorem d_gn_text_19 : decode b_gn_text 19 = .ok (.iload_n 1, 1) := by decide +kernel
theorem d_gn_text_20 : decode b_gn_text 20 = .ok (.invokevirtual 65, 3) := by decide +kernel
theorem d_gn_text_23 : decode b_gn_text 23 = .ok (.goto 4, 3) := by decide +kernel
theorem d_gn_text_26 : decode b_gn_text 26 = .ok (.iconst (-1), 1) := by decide +kernel
theorem d_gn_text_27 : decode b_gn_text 27 = .ok (.ireturn, 1) := by decide +kernel
theorem d_gn_write_0 : decode b_gn_write 0 = .ok (.aload_n 0, 1) := by decide +kernel
theorem d_gn_write_1 : decode b_gn_write 1 = .ok (.getfield 10, 3) := by decide +kernel
theorem d_gn_write_4 : decode b_gn_write 4 = .ok (.invokevirtual 62, 3) := by decide +kernel
theorem d_gn_write_7 : decode b_gn_write 7 = .ok (.aload_n 0, 1) := by decide +kernel
theorem d_gn_write_8 : decode b_gn_write 8 = .ok (.invokevirtual 77, 3) := by decide +kernel
theorem d_gn_write_11 : decode b_gn_write 11 = .ok (.aload_n 0, 1) := by decide +kernel
theorem d_gn_write_12 : decode b_gn_write 12 = .ok (.getfield 10, 3) := by decide +kernel
theorem d_gn_write_15 : decode b_gn_write 15 = .ok (.bipush 32, 2) := by decide +kernel
theorem d_gn_write_17 : decode b_gn_write 17 = .ok (.invokevirtual 58, 3) := by decide +kernel
theorem d_gn_write_20 : decode b_gn_write 20 = .ok (.aload_n 0, 1) := by decide +kernel
theorem d_gn_write_21 : decode b_gn_write 21 = .ok (.getfield 10, 3) := by decide +kernel
theorem d_gn_write_24 : decode b_gn_write 24 = .ok (.ldc 80, 2) := by decide +kernel
theorem d_gn_write_26 : decode b_gn_write 26 = .ok (.aload_n 0, 1) := by decide +kernel
theorem d_gn_write_27 : decode b_gn_write 27 = .ok (.getfield 43, 3) := by decide +kernel
theorem d_gn_write_30 : decode b_gn_write 30 = .ok (.getfield 82, 3) := by decide +kernel
theorem d_gn_write_33 : decode b_gn_write 33 = .ok (.invokestatic 86, 3) := by decide +kernel
theorem d_gn_write_36 : decode b_gn_write 36 = .ok (.invokevirtual 58, 3) := by decide +kernel
theorem d_gn_write_39 : decode b_gn_write 39 = .ok (.aload_n 0, 1) := by decide +kernel
theorem d_gn_write_40 : decode b_gn_write 40 = .ok (.getfield 10, 3) := by decide +kernel
theorem d_gn_write_43 : decode b_gn_write 43 = .ok (.bipush 32, 2) := by decide +kernel
theorem d_gn_write_45 : decode b_gn_write 45 = .ok (.invokevirtual 58, 3) := by decide +kernel
theorem d_gn_write_48 : decode b_gn_write 48 = .ok (.aload_n 0, 1) := by decide +kernel
theorem d_gn_write_49 : decode b_gn_write 49 = .ok (.invokevirtual 90, 3) := by decide +kernel
theorem d_gn_write_52 : decode b_gn_write 52 = .ok (.aload_n 0, 1) := by decide +kernel
theorem d_gn_write_53 : decode b_gn_write 53 = .ok (.getfield 10, 3) := by decide +kernel
theorem d_gn_write_56 : decode b_gn_write 56 = .ok (.bipush 32, 2) := by decide +kernel
theorem d_gn_write_58 : decode b_gn_write 58 = .ok (.invokevirtual 58, 3) := by decide +kernel
theorem d_gn_write_61 : decode b_gn_write 61 = .ok (.aload_n 0, 1) := by decide +kernel
theorem d_gn_write_62 : decode b_gn_write 62 = .ok (.invokevirtual 93, 3) := by decide +kernel
theorem d_gn_write_65 : decode b_gn_write 65 = .ok (.aload_n 0, 1) := by decide +kernel
theorem d_gn_write_66 : decode b_gn_write 66 = .ok (.getfield 10, 3) := by decide +kernel
theorem d_gn_write_69 : decode b_gn_write 69 = .ok (.bipush 32, 2) := by decide +kernel
theorem d_gn_write_71 : decode b_gn_write 71 = .ok (.invokevirtual 58, 3) := by decide +kernel
theorem d_gn_write_74 : decode b_gn_write 74 = .ok (.aload_n 0, 1) := by decide +kernel
theorem d_gn_write_75 : decode b_gn_write 75 = .ok (.getfield 10, 3) := by decide +kernel
theorem d_gn_write_78 : decode b_gn_write 78 = .ok (.aload_n 0, 1) := by decide +kernel
theorem d_gn_write_79 : decode b_gn_write 79 = .ok (.getfield 43, 3) := by decide +kernel
theorem d_gn_write_82 : decode b_gn_write 82 = .ok (.getfield 96, 3) := by decide +kernel
theorem d_gn_write_85 : decode b_gn_write 85 = .ok (.invokevirtual 99, 3) := by decide +kernel
theorem d_gn_write_88 : decode b_gn_write 88 = .ok (.aload_n 0, 1) := by decide +kernel
theorem d_gn_write_89 : decode b_gn_write 89 = .ok (.getfield 10, 3) := by decide +kernel
theorem d_gn_write_92 : decode b_gn_write 92 = .ok (.bipush 32, 2) := by decide +kernel
theorem d_gn_write_94 : decode b_gn_write 94 = .ok (.invokevirtual 58, 3) := by decide +kernel
theorem d_gn_write_97 : decode b_gn_write 97 = .ok (.aload_n 0, 1) := by decide +kernel
theorem d_gn_write_98 : decode b_gn_write 98 = .ok (.getfield 10, 3) := by decide +kernel
theorem d_gn_write_101 : decode b_gn_write 101 = .ok (.aload_n 0, 1) := by decide +kernel
theorem d_gn_write_102 : decode b_gn_write 102 = .ok (.getfield 43, 3) := by decide +kernel
theorem d_gn_write_105 : decode b_gn_write 105 = .ok (.getfield 103, 3) := by decide +kernel
theorem d_gn_write_108 : decode b_gn_write 108 = .ok (.invokevirtual 99, 3) := by decide +kernel
theorem d_gn_write_111 : decode b_gn_write 111 = .ok (.aload_n 0, 1) := by decide +kernel
theorem d_gn_write_112 : decode b_gn_write 112 = .ok (.getfield 10, 3) := by decide +kernel
theorem d_gn_write_115 : decode b_gn_write 115 = .ok (.invokevirtual 54, 3) := by decide +kernel
theorem d_gn_write_118 : decode b_gn_write 118 = .ok (.ireturn, 1) := by decide +kernel
theorem d_gn_put_0 : decode b_gn_put 0 = .ok (.iload_n 1, 1) := by decide +kernel
theorem d_gn_put_1 : decode b_gn_put 1 = .ok (.invokestatic 106, 3) := by decide +kernel
theorem d_gn_put_4 : decode b_gn_put 4 = .ok (.ifCond .eq 13, 3) := by decide +kernel
theorem d_gn_put_7 : decode b_gn_put 7 = .ok (.iload_n 2, 1) := by decide +kernel
theorem d_gn_put_8 : decode b_gn_put 8 = .ok (.ifCond .lt 9, 3) := by decide +kernel
theorem d_gn_put_11 : decode b_gn_put 11 = .ok (.iload_n 2, 1) := by decide +kernel
theorem d_gn_put_12 : decode b_gn_put 12 = .ok (.bipush 12, 2) := by decide +kernel
theorem d_gn_put_14 : decode b_gn_put 14 = .ok (.if_icmp .le 5, 3) := by decide +kernel
theorem d_gn_put_17 : decode b_gn_put 17 = .ok (.iconst 0, 1) := by decide +kernel
theorem d_gn_put_18 : decode b_gn_put 18 = .ok (.ireturn, 1) := by decide +kernel
theorem d_gn_put_19 : decode b_gn_put 19 = .ok (.aload_n 0, 1) := by decide +kernel
theorem d_gn_put_20 : decode b_gn_put 20 = .ok (.getfield 43, 3) := by decide +kernel
theorem d_gn_put_23 : decode b_gn_put 23 = .ok (.iload_n 1, 1) := by decide +kernel
theorem d_gn_put_24 : decode b_gn_put 24 = .ok (.iload_n 2, 1) := by decide +kernel
theorem d_gn_put_25 : decode b_gn_put 25 = .ok (.invokevirtual 110, 3) := by decide +kernel
theorem d_gn_put_28 : decode b_gn_put 28 = .ok (.aload_n 0, 1) := by decide +kernel
theorem d_gn_put_29 : decode b_gn_put 29 = .ok (.getfield 29, 3) := by decide +kernel
theorem d_gn_put_32 : decode b_gn_put 32 = .ok (.invokevirtual 76, 3) := by decide +kernel
theorem d_gn_put_35 : decode b_gn_put 35 = .ok (.iconst 1, 1) := by decide +kernel
theorem d_gn_put_36 : decode b_gn_put 36 = .ok (.ireturn, 1) := by decide +kernel
theorem d_gn_state_0 : decode b_gn_state 0 = .ok (.iload_n 1, 1) := by decide +kernel
theorem d_gn_state_1 : decode b_gn_state 1 = .ok (.invokestatic 114, 3) := by decide +kernel
theorem d_gn_state_4 : decode b_gn_state 4 = .ok (.ifCond .eq 13, 3) := by decide +kernel
theorem d_gn_state_7 : decode b_gn_state 7 = .ok (.iload_n 2, 1) := by decide +kernel
theorem d_gn_state_8 : decode b_gn_state 8 = .ok (.ifCond .lt 9, 3) := by decide +kernel
theorem d_gn_state_11 : decode b_gn_state 11 = .ok (.iload_n 2, 1) := by decide +kernel
theorem d_gn_state_12 : decode b_gn_state 12 = .ok (.bipush 15, 2) := by decide +kernel
theorem d_gn_state_14 : decode b_gn_state 14 = .ok (.if_icmp .le 5, 3) := by decide +kernel
theorem d_gn_state_17 : decode b_gn_state 17 = .ok (.iconst 0, 1) := by decide +kernel
theorem d_gn_state_18 : decode b_gn_state 18 = .ok (.ireturn, 1) := by decide +kernel
theorem d_gn_state_19 : decode b_gn_state 19 = .ok (.iload_n 3, 1) := by decide +kernel
theorem d_gn_state_20 : decode b_gn_state 20 = .ok (.iconst (-1), 1) := by decide +kernel
theorem d_gn_state_21 : decode b_gn_state 21 = .ok (.if_icmp .eq 15, 3) := by decide +kernel
theorem d_gn_state_24 : decode b_gn_state 24 = .ok (.iload_n 3, 1) := by decide +kernel
theorem d_gn_state_25 : decode b_gn_state 25 = .ok (.ifCond .lt 9, 3) := by decide +kernel
theorem d_gn_state_28 : decode b_gn_state 28 = .ok (.iload_n 3, 1) := by decide +kernel
theorem d_gn_state_29 : decode b_gn_state 29 = .ok (.bipush 8, 2) := by decide +kernel
theorem d_gn_state_31 : decode b_gn_state 31 = .ok (.if_icmp .lt 5, 3) := by decide +kernel
theorem d_gn_state_34 : decode b_gn_state 34 = .ok (.iconst 0, 1) := by decide +kernel
theorem d_gn_state_35 : decode b_gn_state 35 = .ok (.ireturn, 1) := by decide +kernel
theorem d_gn_state_36 : decode b_gn_state 36 = .ok (.iload 4, 2) := by decide +kernel
theorem d_gn_state_38 : decode b_gn_state 38 = .ok (.ifCond .lt 25, 3) := by decide +kernel
theorem d_gn_state_41 : decode b_gn_state 41 = .ok (.iload 4, 2) := by decide +kernel
theorem d_gn_state_43 : decode b_gn_state 43 = .ok (.sipush 999, 3) := by decide +kernel
theorem d_gn_state_46 : decode b_gn_state 46 = .ok (.if_icmp .gt 17, 3) := by decide +kernel
theorem d_gn_state_49 : decode b_gn_state 49 = .ok (.iload 5, 2) := by decide +kernel
theorem d_gn_state_51 : decode b_gn_state 51 = .ok (.iconst 1, 1) := by decide +kernel
theorem d_gn_state_52 : decode b_gn_state 52 = .ok (.if_icmp .lt 11, 3) := by decide +kernel
theorem d_gn_state_55 : decode b_gn_state 55 = .ok (.iload 5, 2) := by decide +kernel
theorem d_gn_state_57 : decode b_gn_state 57 = .ok (.sipush 9999, 3) := by decide +kernel
theorem d_gn_state_60 : decode b_gn_state 60 = .ok (.if_icmp .le 5, 3) := by decide +kernel
theorem d_gn_state_63 : decode b_gn_state 63 = .ok (.iconst 0, 1) := by decide +kernel
theorem d_gn_state_64 : decode b_gn_state 64 = .ok (.ireturn, 1) := by decide +kernel
theorem d_gn_state_65 : decode b_gn_state 65 = .ok (.aload_n 0, 1) := by decide +kernel
theorem d_gn_state_66 : decode b_gn_state 66 = .ok (.getfield 43, 3) := by decide +kernel
theorem d_gn_state_69 : decode b_gn_state 69 = .ok (.iload_n 1, 1) := by decide +kernel
theorem d_gn_state_70 : decode b_gn_state 70 = .ok (.putfield 82, 3) := by decide +kernel
theorem d_gn_state_73 : decode b_gn_state 73 = .ok (.aload_n 0, 1) := by decide +kernel
theorem d_gn_state_74 : decode b_gn_state 74 = .ok (.getfield 43, 3) := by decide +kernel
theorem d_gn_state_77 : decode b_gn_state 77 = .ok (.iload_n 2, 1) := by decide +kernel
theorem d_gn_state_78 : decode b_gn_state 78 = .ok (.putfield 117, 3) := by decide +kernel
theorem d_gn_state_81 : decode b_gn_state 81 = .ok (.aload_n 0, 1) := by decide +kernel
theorem d_gn_state_82 : decode b_gn_state 82 = .ok (.getfield 43, 3) := by decide +kernel
theorem d_gn_state_85 : decode b_gn_state 85 = .ok (.iload_n 3, 1) := by decide +kernel
theorem d_gn_state_86 : decode b_gn_state 86 = .ok (.putfield 120, 3) := by decide +kernel
theorem d_gn_state_89 : decode b_gn_state 89 = .ok (.aload_n 0, 1) := by decide +kernel
theorem d_gn_state_90 : decode b_gn_state 90 = .ok (.getfield 43, 3) := by decide +kernel
theorem d_gn_state_93 : decode b_gn_state 93 = .ok (.iload 4, 2) := by decide +kernel
theorem d_gn_state_95 : decode b_gn_state 95 = .ok (.putfield 96, 3) := by decide +kernel
theorem d_gn_state_98 : decode b_gn_state 98 = .ok (.aload_n 0, 1) := by decide +kernel
theorem d_gn_state_99 : decode b_gn_state 99 = .ok (.getfield 43, 3) := by decide +kernel
theorem d_gn_state_102 : decode b_gn_state 102 = .ok (.iload 5, 2) := by decide +kernel
theorem d_gn_state_104 : decode b_gn_state 104 = .ok (.putfield 103, 3) := by decide +kernel
theorem d_gn_state_107 : decode b_gn_state 107 = .ok (.iconst 1, 1) := by decide +kernel
theorem d_gn_state_108 : decode b_gn_state 108 = .ok (.ireturn, 1) := by decide +kernel
theorem d_gn_at_0 : decode b_gn_at 0 = .ok (.aload_n 0, 1) := by decide +kernel
theorem d_gn_at_1 : decode b_gn_at 1 = .ok (.getfield 43, 3) := by decide +kernel
theorem d_gn_at_4 : decode b_gn_at 4 = .ok (.iload_n 1, 1) := by decide +kernel
theorem d_gn_at_5 : decode b_gn_at 5 = .ok (.invokevirtual 123, 3) := by decide +kernel
theorem d_gn_at_8 : decode b_gn_at 8 = .ok (.ireturn, 1) := by decide +kernel
theorem d_gn_tell_0 : decode b_gn_tell 0 = .ok (.iload_n 1, 1) := by decide +kernel
theorem d_gn_tell_1 : decode b_gn_tell 1 = .ok (.invokestatic 138, 3) := by decide +kernel
theorem d_gn_tell_4 : decode b_gn_tell 4 = .ok (.ifCond .eq 23, 3) := by decide +kernel
theorem d_gn_tell_7 : decode b_gn_tell 7 = .ok (.iload_n 2, 1) := by decide +kernel
theorem d_gn_tell_8 : decode b_gn_tell 8 = .ok (.ifCond .lt 19, 3) := by decide +kernel
theorem d_gn_tell_11 : decode b_gn_tell 11 = .ok (.iload_n 2, 1) := by decide +kernel
theorem d_gn_tell_12 : decode b_gn_tell 12 = .ok (.iconst 2, 1) := by decide +kernel
theorem d_gn_tell_13 : decode b_gn_tell 13 = .ok (.if_icmp .gt 14, 3) := by decide +kernel
theorem d_gn_tell_16 : decode b_gn_tell 16 = .ok (.iload_n 1, 1) := by decide +kernel
theorem d_gn_tell_17 : decode b_gn_tell 17 = .ok (.invokestatic 141, 3) := by decide +kernel
theorem d_gn_tell_20 : decode b_gn_tell 20 = .ok (.iload_n 1, 1) := by decide +kernel
theorem d_gn_tell_21 : decode b_gn_tell 21 = .ok (.invokestatic 144, 3) := by decide +kernel
theorem d_gn_tell_24 : decode b_gn_tell 24 = .ok (.if_icmp .ne 5, 3) := by decide +kernel
theorem d_gn_tell_27 : decode b_gn_tell 27 = .ok (.iconst 0, 1) := by decide +kernel
theorem d_gn_tell_28 : decode b_gn_tell 28 = .ok (.ireturn, 1) := by decide +kernel
theorem d_gn_tell_29 : decode b_gn_tell 29 = .ok (.aload_n 0, 1) := by decide +kernel
theorem d_gn_tell_30 : decode b_gn_tell 30 = .ok (.getfield 43, 3) := by decide +kernel
theorem d_gn_tell_33 : decode b_gn_tell 33 = .ok (.iload_n 1, 1) := by decide +kernel
theorem d_gn_tell_34 : decode b_gn_tell 34 = .ok (.invokestatic 141, 3) := by decide +kernel
theorem d_gn_tell_37 : decode b_gn_tell 37 = .ok (.invokevirtual 123, 3) := by decide +kernel
theorem d_gn_tell_40 : decode b_gn_tell 40 = .ok (.istore_n 3, 1) := by decide +kernel
theorem d_gn_tell_41 : decode b_gn_tell 41 = .ok (.iload_n 3, 1) := by decide +kernel
theorem d_gn_tell_42 : decode b_gn_tell 42 = .ok (.ifCond .le 18, 3) := by decide +kernel
theorem d_gn_tell_45 : decode b_gn_tell 45 = .ok (.iload_n 1, 1) := by decide +kernel
theorem d_gn_tell_46 : decode b_gn_tell 46 = .ok (.invokestatic 147, 3) := by decide +kernel
theorem d_gn_tell_49 : decode b_gn_tell 49 = .ok (.ifCond .eq 13, 3) := by decide +kernel
theorem d_gn_tell_52 : decode b_gn_tell 52 = .ok (.iload_n 3, 1) := by decide +kernel
theorem d_gn_tell_53 : decode b_gn_tell 53 = .ok (.invokestatic 150, 3) := by decide +kernel
theorem d_gn_tell_56 : decode b_gn_tell 56 = .ok (.iconst 1, 1) := by decide +kernel
theorem d_gn_tell_57 : decode b_gn_tell 57 = .ok (.if_icmp .eq 5, 3) := by decide +kernel
theorem d_gn_tell_60 : decode b_gn_tell 60 = .ok (.iconst 0, 1) := by decide +kernel
theorem d_gn_tell_61 : decode b_gn_tell 61 = .ok (.ireturn, 1) := by decide +kernel
theorem d_gn_tell_62 : decode b_gn_tell 62 = .ok (.aload_n 0, 1) := by decide +kernel
theorem d_gn_tell_63 : decode b_gn_tell 63 = .ok (.getfield 29, 3) := by decide +kernel
theorem d_gn_tell_66 : decode b_gn_tell 66 = .ok (.iload_n 1, 1) := by decide +kernel
theorem d_gn_tell_67 : decode b_gn_tell 67 = .ok (.iload_n 2, 1) := by decide +kernel
theorem d_gn_tell_68 : decode b_gn_tell 68 = .ok (.invokevirtual 153, 3) := by decide +kernel
theorem d_gn_tell_71 : decode b_gn_tell 71 = .ok (.ireturn, 1) := by decide +kernel
theorem d_gn_forget_0 : decode b_gn_forget 0 = .ok (.aload_n 0, 1) := by decide +kernel
theorem d_gn_forget_1 : decode b_gn_forget 1 = .ok (.getfield 29, 3) := by decide +kernel
theorem d_gn_forget_4 : decode b_gn_forget 4 = .ok (.invokevirtual 76, 3) := by decide +kernel
theorem d_gn_forget_7 : decode b_gn_forget 7 = .ok (.return_, 1) := by decide +kernel
theorem d_gn_find_0 : decode b_gn_find 0 = .ok (.aload_n 0, 1) := by decide +kernel
theorem d_gn_find_1 : decode b_gn_find 1 = .ok (.getfield 36, 3) := by decide +kernel
theorem d_gn_find_4 : decode b_gn_find 4 = .ok (.aload_n 0, 1) := by decide +kernel
theorem d_gn_find_5 : decode b_gn_find 5 = .ok (.getfield 10, 3) := by decide +kernel
theorem d_gn_find_8 : decode b_gn_find 8 = .ok (.invokevirtual 173, 3) := by decide +kernel
theorem d_gn_find_11 : decode b_gn_find 11 = .ok (.ifCond .ne 5, 3) := by decide +kernel
theorem d_gn_find_14 : decode b_gn_find 14 = .ok (.iconst (-1), 1) := by decide +kernel
theorem d_gn_find_15 : decode b_gn_find 15 = .ok (.ireturn, 1) := by decide +kernel
theorem d_gn_find_16 : decode b_gn_find 16 = .ok (.bipush (-2), 2) := by decide +kernel
theorem d_gn_find_18 : decode b_gn_find 18 = .ok (.istore_n 1, 1) := by decide +kernel
theorem d_gn_find_19 : decode b_gn_find 19 = .ok (.iconst 0, 1) := by decide +kernel
theorem d_gn_find_20 : decode b_gn_find 20 = .ok (.istore_n 2, 1) := by decide +kernel
theorem d_gn_find_21 : decode b_gn_find 21 = .ok (.iload_n 2, 1) := by decide +kernel
theorem d_gn_find_22 : decode b_gn_find 22 = .ok (.aload_n 0, 1) := by decide +kernel
theorem d_gn_find_23 : decode b_gn_find 23 = .ok (.getfield 29, 3) := by decide +kernel
theorem d_gn_find_26 : decode b_gn_find 26 = .ok (.invokevirtual 177, 3) := by decide +kernel
theorem d_gn_find_29 : decode b_gn_find 29 = .ok (.if_icmp .ge 34, 3) := by decide +kernel
theorem d_gn_find_32 : decode b_gn_find 32 = .ok (.aload_n 0, 1) := by decide +kernel
theorem d_gn_find_33 : decode b_gn_find 33 = .ok (.iload_n 2, 1) := by decide +kernel
theorem d_gn_find_34 : decode b_gn_find 34 = .ok (.invokevirtual 180, 3) := by decide +kernel
theorem d_gn_find_37 : decode b_gn_find 37 = .ok (.istore_n 3, 1) := by decide +kernel
theorem d_gn_find_38 : decode b_gn_find 38 = .ok (.iload_n 3, 1) := by decide +kernel
theorem d_gn_find_39 : decode b_gn_find 39 = .ok (.ifCond .ne 12, 3) := by decide +kernel
theorem d_gn_find_42 : decode b_gn_find 42 = .ok (.aload_n 0, 1) := by decide +kernel
theorem d_gn_find_43 : decode b_gn_find 43 = .ok (.getfield 29, 3) := by decide +kernel
theorem d_gn_find_46 : decode b_gn_find 46 = .ok (.iload_n 2, 1) := by decide +kernel
theorem d_gn_find_47 : decode b_gn_find 47 = .ok (.invokevirtual 183, 3) := by decide +kernel
theorem d_gn_find_50 : decode b_gn_find 50 = .ok (.ireturn, 1) := by decide +kernel
theorem d_gn_find_51 : decode b_gn_find 51 = .ok (.iload_n 1, 1) := by decide +kernel
theorem d_gn_find_52 : decode b_gn_find 52 = .ok (.iload_n 3, 1) := by decide +kernel
theorem d_gn_find_53 : decode b_gn_find 53 = .ok (.invokestatic 186, 3) := by decide +kernel
theorem d_gn_find_56 : decode b_gn_find 56 = .ok (.istore_n 1, 1) := by decide +kernel
theorem d_gn_find_57 : decode b_gn_find 57 = .ok (.iinc 2 1, 3) := by decide +kernel
theorem d_gn_find_60 : decode b_gn_find 60 = .ok (.goto (-39), 3) := by decide +kernel
theorem d_gn_find_63 : decode b_gn_find 63 = .ok (.iload_n 1, 1) := by decide +kernel
theorem d_gn_find_64 : decode b_gn_find 64 = .ok (.ireturn, 1) := by decide +kernel
theorem d_gn_look_0 : decode b_gn_look 0 = .ok (.iload_n 1, 1) := by decide +kernel
theorem d_gn_look_1 : decode b_gn_look 1 = .ok (.tableswitch 99 0 6 #[43, 51, 59, 67, 75, 83, 91], 43) := by decide +kernel
theorem d_gn_look_44 : decode b_gn_look 44 = .ok (.aload_n 0, 1) := by decide +kernel
theorem d_gn_look_45 : decode b_gn_look 45 = .ok (.getfield 10, 3) := by decide +kernel
theorem d_gn_look_48 : decode b_gn_look 48 = .ok (.invokevirtual 54, 3) := by decide +kernel
theorem d_gn_look_51 : decode b_gn_look 51 = .ok (.ireturn, 1) := by decide +kernel
theorem d_gn_look_52 : decode b_gn_look 52 = .ok (.aload_n 0, 1) := by decide +kernel
theorem d_gn_look_53 : decode b_gn_look 53 = .ok (.getfield 43, 3) := by decide +kernel
theorem d_gn_look_56 : decode b_gn_look 56 = .ok (.getfield 82, 3) := by decide +kernel
theorem d_gn_look_59 : decode b_gn_look 59 = .ok (.ireturn, 1) := by decide +kernel
theorem d_gn_look_60 : decode b_gn_look 60 = .ok (.aload_n 0, 1) := by decide +kernel
theorem d_gn_look_61 : decode b_gn_look 61 = .ok (.getfield 43, 3) := by decide +kernel
theorem d_gn_look_64 : decode b_gn_look 64 = .ok (.getfield 117, 3) := by decide +kernel
theorem d_gn_look_67 : decode b_gn_look 67 = .ok (.ireturn, 1) := by decide +kernel
theorem d_gn_look_68 : decode b_gn_look 68 = .ok (.aload_n 0, 1) := by decide +kernel
theorem d_gn_look_69 : decode b_gn_look 69 = .ok (.getfield 43, 3) := by decide +kernel
theorem d_gn_look_72 : decode b_gn_look 72 = .ok (.getfield 120, 3) := by decide +kernel
theorem d_gn_look_75 : decode b_gn_look 75 = .ok (.ireturn, 1) := by decide +kernel
theorem d_gn_look_76 : decode b_gn_look 76 = .ok (.aload_n 0, 1) := by decide +kernel
theorem d_gn_look_77 : decode b_gn_look 77 = .ok (.getfield 43, 3) := by decide +kernel
theorem d_gn_look_80 : decode b_gn_look 80 = .ok (.getfield 96, 3) := by decide +kernel
theorem d_gn_look_83 : decode b_gn_look 83 = .ok (.ireturn, 1) := by decide +kernel
theorem d_gn_look_84 : decode b_gn_look 84 = .ok (.aload_n 0, 1) := by decide +kernel
theorem d_gn_look_85 : decode b_gn_look 85 = .ok (.getfield 43, 3) := by decide +kernel
theorem d_gn_look_88 : decode b_gn_look 88 = .ok (.getfield 103, 3) := by decide +kernel
theorem d_gn_look_91 : decode b_gn_look 91 = .ok (.ireturn, 1) := by decide +kernel
theorem d_gn_look_92 : decode b_gn_look 92 = .ok (.aload_n 0, 1) := by decide +kernel
theorem d_gn_look_93 : decode b_gn_look 93 = .ok (.getfield 29, 3) := by decide +kernel
theorem d_gn_look_96 : decode b_gn_look 96 = .ok (.invokevirtual 177, 3) := by decide +kernel
theorem d_gn_look_99 : decode b_gn_look 99 = .ok (.ireturn, 1) := by decide +kernel
theorem d_gn_look_100 : decode b_gn_look 100 = .ok (.iconst (-1), 1) := by decide +kernel
theorem d_gn_look_101 : decode b_gn_look 101 = .ok (.ireturn, 1) := by decide +kernel
