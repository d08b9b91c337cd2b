theorem d_ps_rightHolds_11 : decode b_ps_rightHolds 11 = .ok (.iload_n 1, 1) := by decide +kernel
theorem d_ps_rightHolds_12 : decode b_ps_rightHolds 12 = .ok (.iconst 2, 1) := by decide +kernel
theorem d_ps_rightHolds_13 : decode b_ps_rightHolds 13 = .ok (.irem, 1) := by decide +kernel
theorem d_ps_rightHolds_14 : decode b_ps_rightHolds 14 = .ok (.ifCond .ne 8, 3) := by decide +kernel
theorem d_ps_rightHolds_17 : decode b_ps_rightHolds 17 = .ok (.bipush 7, 2) := by decide +kernel
theorem d_ps_rightHolds_19 : decode b_ps_rightHolds 19 = .ok (.goto 4, 3) := by decide +kernel
theorem d_ps_rightHolds_22 : decode b_ps_rightHolds 22 = .ok (.iconst 0, 1) := by decide +kernel
theorem d_ps_rightHolds_23 : decode b_ps_rightHolds 23 = .ok (.istore_n 3, 1) := by decide +kernel
theorem d_ps_rightHolds_24 : decode b_ps_rightHolds 24 = .ok (.iconst 0, 1) := by decide +kernel
theorem d_ps_rightHolds_25 : decode b_ps_rightHolds 25 = .ok (.iload_n 2, 1) := by decide +kernel
theorem d_ps_rightHolds_26 : decode b_ps_rightHolds 26 = .ok (.invokestatic 127, 3) := by decide +kernel
theorem d_ps_rightHolds_29 : decode b_ps_rightHolds 29 = .ok (.istore 4, 2) := by decide +kernel
theorem d_ps_rightHolds_31 : decode b_ps_rightHolds 31 = .ok (.aload_n 0, 1) := by decide +kernel
theorem d_ps_rightHolds_32 : decode b_ps_rightHolds 32 = .ok (.iconst 4, 1) := by decide +kernel
theorem d_ps_rightHolds_33 : decode b_ps_rightHolds 33 = .ok (.iload 4, 2) := by decide +kernel
theorem d_ps_rightHolds_35 : decode b_ps_rightHolds 35 = .ok (.invokevirtual 95, 3) := by decide +kernel
theorem d_ps_rightHolds_38 : decode b_ps_rightHolds 38 = .ok (.bipush 6, 2) := by decide +kernel
theorem d_ps_rightHolds_40 : decode b_ps_rightHolds 40 = .ok (.iload_n 2, 1) := by decide +kernel
theorem d_ps_rightHolds_41 : decode b_ps_rightHolds 41 = .ok (.invokestatic 29, 3) := by decide +kernel
theorem d_ps_rightHolds_44 : decode b_ps_rightHolds 44 = .ok (.if_icmp .ne 22, 3) := by decide +kernel
theorem d_ps_rightHolds_47 : decode b_ps_rightHolds 47 = .ok (.aload_n 0, 1) := by decide +kernel
theorem d_ps_rightHolds_48 : decode b_ps_rightHolds 48 = .ok (.iload_n 3, 1) := by decide +kernel
theorem d_ps_rightHolds_49 : decode b_ps_rightHolds 49 = .ok (.iload 4, 2) := by decide +kernel
theorem d_ps_rightHolds_51 : decode b_ps_rightHolds 51 = .ok (.invokevirtual 95, 3) := by decide +kernel
theorem d_ps_rightHolds_54 : decode b_ps_rightHolds 54 = .ok (.iconst 4, 1) := by decide +kernel
theorem d_ps_rightHolds_55 : decode b_ps_rightHolds 55 = .ok (.iload_n 2, 1) := by decide +kernel
theorem d_ps_rightHolds_56 : decode b_ps_rightHolds 56 = .ok (.invokestatic 29, 3) := by decide +kernel
theorem d_ps_rightHolds_59 : decode b_ps_rightHolds 59 = .ok (.if_icmp .ne 7, 3) := by decide +kernel
theorem d_ps_rightHolds_62 : decode b_ps_rightHolds 62 = .ok (.iconst 1, 1) := by decide +kernel
theorem d_ps_rightHolds_63 : decode b_ps_rightHolds 63 = .ok (.goto 4, 3) := by decide +kernel
theorem d_ps_rightHolds_66 : decode b_ps_rightHolds 66 = .ok (.iconst 0, 1) := by decide +kernel
theorem d_ps_rightHolds_67 : decode b_ps_rightHolds 67 = .ok (.ireturn, 1) := by decide +kernel
theorem d_ps_rightsHold_0 : decode b_ps_rightsHold 0 = .ok (.iconst 0, 1) := by decide +kernel
theorem d_ps_rightsHold_1 : decode b_ps_rightsHold 1 = .ok (.istore_n 1, 1) := by decide +kernel
theorem d_ps_rightsHold_2 : decode b_ps_rightsHold 2 = .ok (.iload_n 1, 1) := by decide +kernel
theorem d_ps_rightsHold_3 : decode b_ps_rightsHold 3 = .ok (.ldc 113, 2) := by decide +kernel
theorem d_ps_rightsHold_5 : decode b_ps_rightsHold 5 = .ok (.invokevirtual 115, 3) := by decide +kernel
theorem d_ps_rightsHold_8 : decode b_ps_rightsHold 8 = .ok (.if_icmp .ge 27, 3) := by decide +kernel
theorem d_ps_rightsHold_11 : decode b_ps_rightsHold 11 = .ok (.aload_n 0, 1) := by decide +kernel
theorem d_ps_rightsHold_12 : decode b_ps_rightsHold 12 = .ok (.iload_n 1, 1) := by decide +kernel
theorem d_ps_rightsHold_13 : decode b_ps_rightsHold 13 = .ok (.invokevirtual 121, 3) := by decide +kernel
theorem d_ps_rightsHold_16 : decode b_ps_rightsHold 16 = .ok (.ifCond .eq 13, 3) := by decide +kernel
theorem d_ps_rightsHold_19 : decode b_ps_rightsHold 19 = .ok (.aload_n 0, 1) := by decide +kernel
theorem d_ps_rightsHold_20 : decode b_ps_rightsHold 20 = .ok (.iload_n 1, 1) := by decide +kernel
theorem d_ps_rightsHold_21 : decode b_ps_rightsHold 21 = .ok (.invokevirtual 124, 3) := by decide +kernel
theorem d_ps_rightsHold_24 : decode b_ps_rightsHold 24 = .ok (.ifCond .ne 5, 3) := by decide +kernel
theorem d_ps_rightsHold_27 : decode b_ps_rightsHold 27 = .ok (.iconst 0, 1) := by decide +kernel
theorem d_ps_rightsHold_28 : decode b_ps_rightsHold 28 = .ok (.ireturn, 1) := by decide +kernel
theorem d_ps_rightsHold_29 : decode b_ps_rightsHold 29 = .ok (.iinc 1 1, 3) := by decide +kernel
theorem d_ps_rightsHold_32 : decode b_ps_rightsHold 32 = .ok (.goto (-30), 3) := by decide +kernel
theorem d_ps_rightsHold_35 : decode b_ps_rightsHold 35 = .ok (.iconst 1, 1) := by decide +kernel
theorem d_ps_rightsHold_36 : decode b_ps_rightsHold 36 = .ok (.ireturn, 1) := by decide +kernel
theorem d_ps_passantHolds_0 : decode b_ps_passantHolds 0 = .ok (.iconst 1, 1) := by decide +kernel
theorem d_ps_passantHolds_1 : decode b_ps_passantHolds 1 = .ok (.aload_n 0, 1) := by decide +kernel
theorem d_ps_passantHolds_2 : decode b_ps_passantHolds 2 = .ok (.getfield 50, 3) := by decide +kernel
theorem d_ps_passantHolds_5 : decode b_ps_passantHolds 5 = .ok (.isub, 1) := by decide +kernel
theorem d_ps_passantHolds_6 : decode b_ps_passantHolds 6 = .ok (.istore_n 1, 1) := by decide +kernel
theorem d_ps_passantHolds_7 : decode b_ps_passantHolds 7 = .ok (.aload_n 0, 1) := by decide +kernel
theorem d_ps_passantHolds_8 : decode b_ps_passantHolds 8 = .ok (.aload_n 0, 1) := by decide +kernel
theorem d_ps_passantHolds_9 : decode b_ps_passantHolds 9 = .ok (.getfield 15, 3) := by decide +kernel
theorem d_ps_passantHolds_12 : decode b_ps_passantHolds 12 = .ok (.iconst 3, 1) := by decide +kernel
theorem d_ps_passantHolds_13 : decode b_ps_passantHolds 13 = .ok (.iload_n 1, 1) := by decide +kernel
theorem d_ps_passantHolds_14 : decode b_ps_passantHolds 14 = .ok (.invokestatic 127, 3) := by decide +kernel
theorem d_ps_passantHolds_17 : decode b_ps_passantHolds 17 = .ok (.invokevirtual 95, 3) := by decide +kernel
theorem d_ps_passantHolds_20 : decode b_ps_passantHolds 20 = .ok (.iconst 1, 1) := by decide +kernel
theorem d_ps_passantHolds_21 : decode b_ps_passantHolds 21 = .ok (.iload_n 1, 1) := by decide +kernel
theorem d_ps_passantHolds_22 : decode b_ps_passantHolds 22 = .ok (.invokestatic 29, 3) := by decide +kernel
theorem d_ps_passantHolds_25 : decode b_ps_passantHolds 25 = .ok (.if_icmp .ne 46, 3) := by decide +kernel
theorem d_ps_passantHolds_28 : decode b_ps_passantHolds 28 = .ok (.aload_n 0, 1) := by decide +kernel
theorem d_ps_passantHolds_29 : decode b_ps_passantHolds 29 = .ok (.aload_n 0, 1) := by decide +kernel
theorem d_ps_passantHolds_30 : decode b_ps_passantHolds 30 = .ok (.getfield 15, 3) := by decide +kernel
theorem d_ps_passantHolds_33 : decode b_ps_passantHolds 33 = .ok (.iconst 2, 1) := by decide +kernel
theorem d_ps_passantHolds_34 : decode b_ps_passantHolds 34 = .ok (.iload_n 1, 1) := by decide +kernel
theorem d_ps_passantHolds_35 : decode b_ps_passantHolds 35 = .ok (.invokestatic 127, 3) := by decide +kernel
theorem d_ps_passantHolds_38 : decode b_ps_passantHolds 38 = .ok (.invokevirtual 95, 3) := by decide +kernel
theorem d_ps_passantHolds_41 : decode b_ps_passantHolds 41 = .ok (.ifCond .ne 30, 3) := by decide +kernel
theorem d_ps_passantHolds_44 : decode b_ps_passantHolds 44 = .ok (.aload_n 0, 1) := by decide +kernel
theorem d_ps_passantHolds_45 : decode b_ps_passantHolds 45 = .ok (.aload_n 0, 1) := by decide +kernel
theorem d_ps_passantHolds_46 : decode b_ps_passantHolds 46 = .ok (.getfield 15, 3) := by decide +kernel
theorem d_ps_passantHolds_49 : decode b_ps_passantHolds 49 = .ok (.iconst 1, 1) := by decide +kernel
theorem d_ps_passantHolds_50 : decode b_ps_passantHolds 50 = .ok (.iload_n 1, 1) := by decide +kernel
theorem d_ps_passantHolds_51 : decode b_ps_passantHolds 51 = .ok (.invokestatic 127, 3) := by decide +kernel
theorem d_ps_passantHolds_54 : decode b_ps_passantHolds 54 = .ok (.invokevirtual 95, 3) := by decide +kernel
theorem d_ps_passantHolds_57 : decode b_ps_passantHolds 57 = .ok (.ifCond .ne 14, 3) := by decide +kernel
theorem d_ps_passantHolds_60 : decode b_ps_passantHolds 60 = .ok (.aload_n 0, 1) := by decide +kernel
theorem d_ps_passantHolds_61 : decode b_ps_passantHolds 61 = .ok (.getfield 130, 3) := by decide +kernel
theorem d_ps_passantHolds_64 : decode b_ps_passantHolds 64 = .ok (.ifCond .ne 7, 3) := by decide +kernel
theorem d_ps_passantHolds_67 : decode b_ps_passantHolds 67 = .ok (.iconst 1, 1) := by decide +kernel
theorem d_ps_passantHolds_68 : decode b_ps_passantHolds 68 = .ok (.goto 4, 3) := by decide +kernel
theorem d_ps_passantHolds_71 : decode b_ps_passantHolds 71 = .ok (.iconst 0, 1) := by decide +kernel
theorem d_ps_passantHolds_72 : decode b_ps_passantHolds 72 = .ok (.ireturn, 1) := by decide +kernel
theorem d_ps_firstFault_0 : decode b_ps_firstFault 0 = .ok (.aload_n 0, 1) := by decide +kernel
theorem d_ps_firstFault_1 : decode b_ps_firstFault 1 = .ok (.bipush 6, 2) := by decide +kernel
theorem d_ps_firstFault_3 : decode b_ps_firstFault 3 = .ok (.iconst 0, 1) := by decide +kernel
theorem d_ps_firstFault_4 : decode b_ps_firstFault 4 = .ok (.invokestatic 29, 3) := by decide +kernel
theorem d_ps_firstFault_7 : decode b_ps_firstFault 7 = .ok (.invokevirtual 33, 3) := by decide +kernel
theorem d_ps_firstFault_10 : decode b_ps_firstFault 10 = .ok (.iconst 1, 1) := by decide +kernel
theorem d_ps_firstFault_11 : decode b_ps_firstFault 11 = .ok (.if_icmp .ne 17, 3) := by decide +kernel
theorem d_ps_firstFault_14 : decode b_ps_firstFault 14 = .ok (.aload_n 0, 1) := by decide +kernel
theorem d_ps_firstFault_15 : decode b_ps_firstFault 15 = .ok (.bipush 6, 2) := by decide +kernel
theorem d_ps_firstFault_17 : decode b_ps_firstFault 17 = .ok (.iconst 1, 1) := by decide +kernel
theorem d_ps_firstFault_18 : decode b_ps_firstFault 18 = .ok (.invokestatic 29, 3) := by decide +kernel
theorem d_ps_firstFault_21 : decode b_ps_firstFault 21 = .ok (.invokevirtual 33, 3) := by decide +kernel
theorem d_ps_firstFault_24 : decode b_ps_firstFault 24 = .ok (.iconst 1, 1) := by decide +kernel
theorem d_ps_firstFault_25 : decode b_ps_firstFault 25 = .ok (.if_icmp .eq 6, 3) := by decide +kernel
theorem d_ps_firstFault_28 : decode b_ps_firstFault 28 = .ok (.bipush 7, 2) := by decide +kernel
theorem d_ps_firstFault_30 : decode b_ps_firstFault 30 = .ok (.ireturn, 1) := by decide +kernel
theorem d_ps_firstFault_31 : decode b_ps_firstFault 31 = .ok (.aload_n 0, 1) := by decide +kernel
theorem d_ps_firstFault_32 : decode b_ps_firstFault 32 = .ok (.invokevirtual 37, 3) := by decide +kernel
theorem d_ps_firstFault_35 : decode b_ps_firstFault 35 = .ok (.ifCond .ne 19, 3) := by decide +kernel
theorem d_ps_firstFault_38 : decode b_ps_firstFault 38 = .ok (.aload_n 0, 1) := by decide +kernel
theorem d_ps_firstFault_39 : decode b_ps_firstFault 39 = .ok (.iconst 0, 1) := by decide +kernel
theorem d_ps_firstFault_40 : decode b_ps_firstFault 40 = .ok (.invokevirtual 41, 3) := by decide +kernel
theorem d_ps_firstFault_43 : decode b_ps_firstFault 43 = .ok (.ifCond .ne 11, 3) := by decide +kernel
theorem d_ps_firstFault_46 : decode b_ps_firstFault 46 = .ok (.aload_n 0, 1) := by decide +kernel
theorem d_ps_firstFault_47 : decode b_ps_firstFault 47 = .ok (.iconst 1, 1) := by decide +kernel
theorem d_ps_firstFault_48 : decode b_ps_firstFault 48 = .ok (.invokevirtual 41, 3) := by decide +kernel
theorem d_ps_firstFault_51 : decode b_ps_firstFault 51 = .ok (.ifCond .eq 6, 3) := by decide +kernel
theorem d_ps_firstFault_54 : decode b_ps_firstFault 54 = .ok (.bipush 8, 2) := by decide +kernel
theorem d_ps_firstFault_56 : decode b_ps_firstFault 56 = .ok (.ireturn, 1) := by decide +kernel
theorem d_ps_firstFault_57 : decode b_ps_firstFault 57 = .ok (.aload_n 0, 1) := by decide +kernel
theorem d_ps_firstFault_58 : decode b_ps_firstFault 58 = .ok (.invokevirtual 44, 3) := by decide +kernel
theorem d_ps_firstFault_61 : decode b_ps_firstFault 61 = .ok (.ifCond .ne 6, 3) := by decide +kernel
theorem d_ps_firstFault_64 : decode b_ps_firstFault 64 = .ok (.bipush 9, 2) := by decide +kernel
theorem d_ps_firstFault_66 : decode b_ps_firstFault 66 = .ok (.ireturn, 1) := by decide +kernel
theorem d_ps_firstFault_67 : decode b_ps_firstFault 67 = .ok (.aload_n 0, 1) := by decide +kernel
theorem d_ps_firstFault_68 : decode b_ps_firstFault 68 = .ok (.getfield 15, 3) := by decide +kernel
theorem d_ps_firstFault_71 : decode b_ps_firstFault 71 = .ok (.iconst (-1), 1) := by decide +kernel
theorem d_ps_firstFault_72 : decode b_ps_firstFault 72 = .ok (.if_icmp .eq 13, 3) := by decide +kernel
theorem d_ps_firstFault_75 : decode b_ps_firstFault 75 = .ok (.aload_n 0, 1) := by decide +kernel
theorem d_ps_firstFault_76 : decode b_ps_firstFault 76 = .ok (.invokevirtual 47, 3) := by decide +kernel
theorem d_ps_firstFault_79 : decode b_ps_firstFault 79 = .ok (.ifCond .ne 6, 3) := by decide +kernel
theorem d_ps_firstFault_82 : decode b_ps_firstFault 82 = .ok (.bipush 10, 2) := by decide +kernel
theorem d_ps_firstFault_84 : decode b_ps_firstFault 84 = .ok (.ireturn, 1) := by decide +kernel
theorem d_ps_firstFault_85 : decode b_ps_firstFault 85 = .ok (.aload_n 0, 1) := by decide +kernel
theorem d_ps_firstFault_86 : decode b_ps_firstFault 86 = .ok (.aload_n 0, 1) := by decide +kernel
theorem d_ps_firstFault_87 : decode b_ps_firstFault 87 = .ok (.iconst 1, 1) := by decide +kernel
theorem d_ps_firstFault_88 : decode b_ps_firstFault 88 = .ok (.aload_n 0, 1) := by decide +kernel
theorem d_ps_firstFault_89 : decode b_ps_firstFault 89 = .ok (.getfield 50, 3) := by decide +kernel
theorem d_ps_firstFault_92 : decode b_ps_firstFault 92 = .ok (.isub, 1) := by decide +kernel
theorem d_ps_firstFault_93 : decode b_ps_firstFault 93 = .ok (.invokevirtual 53, 3) := by decide +kernel
theorem d_ps_firstFault_96 : decode b_ps_firstFault 96 = .ok (.aload_n 0, 1) := by decide +kernel
theorem d_ps_firstFault_97 : decode b_ps_firstFault 97 = .ok (.getfield 50, 3) := by decide +kernel
theorem d_ps_firstFault_100 : decode b_ps_firstFault 100 = .ok (.invokevirtual 56, 3) := by decide +kernel
theorem d_ps_firstFault_103 : decode b_ps_firstFault 103 = .ok (.ifCond .eq 8, 3) := by decide +kernel
theorem d_ps_firstFault_106 : decode b_ps_firstFault 106 = .ok (.bipush 11, 2) := by decide +kernel
theorem d_ps_firstFault_108 : decode b_ps_firstFault 108 = .ok (.goto 4, 3) := by decide +kernel
theorem d_ps_firstFault_111 : decode b_ps_firstFault 111 = .ok (.iconst 0, 1) := by decide +kernel
theorem d_ps_firstFault_112 : decode b_ps_firstFault 112 = .ok (.ireturn, 1) := by decide +kernel
theorem d_gn_castlingOf_0 : decode b_gn_castlingOf 0 = .ok (.aload_n 1, 1) := by decide +kernel
theorem d_gn_castlingOf_1 : decode b_gn_castlingOf 1 = .ok (.iload_n 0, 1) := by decide +kernel
theorem d_gn_castlingOf_2 : decode b_gn_castlingOf 2 = .ok (.invokestatic 141, 3) := by decide +kernel
theorem d_gn_castlingOf_5 : decode b_gn_castlingOf 5 = .ok (.invokevirtual 123, 3) := by decide +kernel
theorem d_gn_castlingOf_8 : decode b_gn_castlingOf 8 = .ok (.invokestatic 150, 3) := by decide +kernel
theorem d_gn_castlingOf_11 : decode b_gn_castlingOf 11 = .ok (.bipush 6, 2) := by decide +kernel
theorem d_gn_castlingOf_13 : decode b_gn_castlingOf 13 = .ok (.if_icmp .eq 5, 3) := by decide +kernel
theorem d_gn_castlingOf_16 : decode b_gn_castlingOf 16 = .ok (.iconst 0, 1) := by decide +kernel
theorem d_gn_castlingOf_17 : decode b_gn_castlingOf 17 = .ok (.ireturn, 1) := by decide +kernel
theorem d_gn_castlingOf_18 : decode b_gn_castlingOf 18 = .ok (.iload_n 0, 1) := by decide +kernel
theorem d_gn_castlingOf_19 : decode b_gn_castlingOf 19 = .ok (.invokestatic 144, 3) := by decide +kernel
theorem d_gn_castlingOf_22 : decode b_gn_castlingOf 22 = .ok (.invokestatic 237, 3) := by decide +kernel
theorem d_gn_castlingOf_25 : decode b_gn_castlingOf 25 = .ok (.iload_n 0, 1) := by decide +kernel
theorem d_gn_castlingOf_26 : decode b_gn_castlingOf 26 = .ok (.invokestatic 141, 3) := by decide +kernel
theorem d_gn_castlingOf_29 : decode b_gn_castlingOf 29 = .ok (.invokestatic 237, 3) := by decide +kernel
theorem d_gn_castlingOf_32 : decode b_gn_castlingOf 32 = .ok (.isub, 1) := by decide +kernel
theorem d_gn_castlingOf_33 : decode b_gn_castlingOf 33 = .ok (.istore_n 2, 1) := by decide +kernel
theorem d_gn_castlingOf_34 : decode b_gn_castlingOf 34 = .ok (.iload_n 2, 1) := by decide +kernel
theorem d_gn_castlingOf_35 : decode b_gn_castlingOf 35 = .ok (.iconst 2, 1) := by decide +kernel
theorem d_gn_castlingOf_36 : decode b_gn_castlingOf 36 = .ok (.if_icmp .lt 5, 3) := by decide +kernel
theorem d_gn_castlingOf_39 : decode b_gn_castlingOf 39 = .ok (.iconst 1, 1) := by decide +kernel
theorem d_gn_castlingOf_40 : decode b_gn_castlingOf 40 = .ok (.ireturn, 1) := by decide +kernel
theorem d_gn_castlingOf_41 : decode b_gn_castlingOf 41 = .ok (.iload_n 2, 1) := by decide +kernel
theorem d_gn_castlingOf_42 : decode b_gn_castlingOf 42 = .ok (.bipush (-2), 2) := by decide +kernel
theorem d_gn_castlingOf_44 : decode b_gn_castlingOf 44 = .ok (.if_icmp .gt 7, 3) := by decide +kernel
theorem d_gn_castlingOf_47 : decode b_gn_castlingOf 47 = .ok (.iconst (-1), 1) := by decide +kernel
theorem d_gn_castlingOf_48 : decode b_gn_castlingOf 48 = .ok (.goto 4, 3) := by decide +kernel
theorem d_gn_castlingOf_51 : decode b_gn_castlingOf 51 = .ok (.iconst 0, 1) := by decide +kernel
theorem d_gn_castlingOf_52 : decode b_gn_castlingOf 52 = .ok (.ireturn, 1) := by decide +kernel
theorem d_rd_passes_0 : decode b_rd_passes 0 = .ok (.aload_n 1, 1) := by decide +kernel
theorem d_rd_passes_1 : decode b_rd_passes 1 = .ok (.aload_n 0, 1) := by decide +kernel
theorem d_rd_passes_2 : decode b_rd_passes 2 = .ok (.getfield 9, 3) := by decide +kernel
theorem d_rd_passes_5 : decode b_rd_passes 5 = .ok (.invokevirtual 53, 3) := by decide +kernel
theorem d_rd_passes_8 : decode b_rd_passes 8 = .ok (.iload_n 2, 1) := by decide +kernel
theorem d_rd_passes_9 : decode b_rd_passes 9 = .ok (.if_icmp .eq 5, 3) := by decide +kernel
theorem d_rd_passes_12 : decode b_rd_passes 12 = .ok (.iconst 0, 1) := by decide +kernel
theorem d_rd_passes_13 : decode b_rd_passes 13 = .ok (.ireturn, 1) := by decide +kernel
theorem d_rd_passes_14 : decode b_rd_passes 14 = .ok (.aload_n 0, 1) := by decide +kernel
theorem d_rd_passes_15 : decode b_rd_passes 15 = .ok (.dup, 1) := by decide +kernel
theorem d_rd_passes_16 : decode b_rd_passes 16 = .ok (.getfield 9, 3) := by decide +kernel
theorem d_rd_passes_19 : decode b_rd_passes 19 = .ok (.iconst 1, 1) := by decide +kernel
theorem d_rd_passes_20 : decode b_rd_passes 20 = .ok (.iadd, 1) := by decide +kernel
theorem d_rd_passes_21 : decode b_rd_passes 21 = .ok (.putfield 9, 3) := by decide +kernel
theorem d_rd_passes_24 : decode b_rd_passes 24 = .ok (.iconst 1, 1) := by decide +kernel
theorem d_rd_passes_25 : decode b_rd_passes 25 = .ok (.ireturn, 1) := by decide +kernel
theorem d_rd_readNumber_0 : decode b_rd_readNumber 0 = .ok (.aload_n 0, 1) := by decide +kernel
theorem d_rd_readNumber_1 : decode b_rd_readNumber 1 = .ok (.getfield 9, 3) := by decide +kernel
theorem d_rd_readNumber_4 : decode b_rd_readNumber 4 = .ok (.istore_n 3, 1) := by decide +kernel
theorem d_rd_readNumber_5 : decode b_rd_readNumber 5 = .ok (.iconst 0, 1) := by decide +kernel
theorem d_rd_readNumber_6 : decode b_rd_readNumber 6 = .ok (.istore 4, 2) := by decide +kernel
theorem d_rd_readNumber_8 : decode b_rd_readNumber 8 = .ok (.iconst 0, 1) := by decide +kernel
theorem d_rd_readNumber_9 : decode b_rd_readNumber 9 = .ok (.istore 5, 2) := by decide +kernel
theorem d_rd_readNumber_11 : decode b_rd_readNumber 11 = .ok (.iload 5, 2) := by decide +kernel
theorem d_rd_readNumber_13 : decode b_rd_readNumber 13 = .ok (.iconst 5, 1) := by decide +kernel
theorem d_rd_readNumber_14 : decode b_rd_readNumber 14 = .ok (.if_icmp .ge 52, 3) := by decide +kernel
theorem d_rd_readNumber_17 : decode b_rd_readNumber 17 = .ok (.aload_n 1, 1) := by decide +kernel
theorem d_rd_readNumber_18 : decode b_rd_readNumber 18 = .ok (.aload_n 0, 1) := by decide +kernel
theorem d_rd_readNumber_19 : decode b_rd_readNumber 19 = .ok (.getfield 9, 3) := by decide +kernel
theorem d_rd_readNumber_22 : decode b_rd_readNumber 22 = .ok (.invokevirtual 53, 3) := by decide +kernel
theorem d_rd_readNumber_25 : decode b_rd_readNumber 25 = .ok (.invokestatic 101, 3) := by decide +kernel
theorem d_rd_readNumber_28 : decode b_rd_readNumber 28 = .ok (.ifCond .eq 38, 3) := by decide +kernel
theorem d_rd_readNumber_31 : decode b_rd_readNumber 31 = .ok (.iload 4, 2) := by decide +kernel
theorem d_rd_readNumber_33 : decode b_rd_readNumber 33 = .ok (.bipush 10, 2) := by decide +kernel
theorem d_rd_readNumber_35 : decode b_rd_readNumber 35 = .ok (.imul, 1) := by decide +kernel
theorem d_rd_readNumber_36 : decode b_rd_readNumber 36 = .ok (.aload_n 1, 1) := by decide +kernel
theorem d_rd_readNumber_37 : decode b_rd_readNumber 37 = .ok (.aload_n 0, 1) := by decide +kernel
theorem d_rd_readNumber_38 : decode b_rd_readNumber 38 = .ok (.getfield 9, 3) := by decide +kernel
theorem d_rd_readNumber_41 : decode b_rd_readNumber 41 = .ok (.invokevirtual 53, 3) := by decide +kernel
theorem d_rd_readNumber_44 : decode b_rd_readNumber 44 = .ok (.bipush 48, 2) := by decide +kernel
theorem d_rd_readNumber_46 : decode b_rd_readNumber 46 = .ok (.isub, 1) := by decide +kernel
theorem d_rd_readNumber_47 : decode b_rd_readNumber 47 = .ok (.iadd, 1) := by decide +kernel
theorem d_rd_readNumber_48 : decode b_rd_readNumber 48 = .ok (.istore 4, 2) := by decide +kernel
theorem d_rd_readNumber_50 : decode b_rd_readNumber 50 = .ok (.aload_n 0, 1) := by decide +kernel
theorem d_rd_readNumber_51 : decode b_rd_readNumber 51 = .ok (.dup, 1) := by decide +kernel
theorem d_rd_readNumber_52 : decode b_rd_readNumber 52 = .ok (.getfield 9, 3) := by decide +kernel
theorem d_rd_readNumber_55 : decode b_rd_readNumber 55 = .ok (.iconst 1, 1) := by decide +kernel
theorem d_rd_readNumber_56 : decode b_rd_readNumber 56 = .ok (.iadd, 1) := by decide +kernel
theorem d_rd_readNumber_57 : decode b_rd_readNumber 57 = .ok (.putfield 9, 3) := by decide +kernel
theorem d_rd_readNumber_60 : decode b_rd_readNumber 60 = .ok (.iinc 5 1, 3) := by decide +kernel
theorem d_rd_readNumber_63 : decode b_rd_readNumber 63 = .ok (.goto (-52), 3) := by decide +kernel
theorem d_rd_readNumber_66 : decode b_rd_readNumber 66 = .ok (.aload_n 0, 1) := by decide +kernel
theorem d_rd_readNumber_67 : decode b_rd_readNumber 67 = .ok (.getfield 9, 3) := by decide +kernel
theorem d_rd_readNumber_70 : decode b_rd_readNumber 70 = .ok (.iload_n 3, 1) := by decide +kernel
theorem d_rd_readNumber_71 : decode b_rd_readNumber 71 = .ok (.isub, 1) := by decide +kernel
theorem d_rd_readNumber_72 : decode b_rd_readNumber 72 = .ok (.istore 5, 2) := by decide +kernel
theorem d_rd_readNumber_74 : decode b_rd_readNumber 74 = .ok (.iload 5, 2) := by decide +kernel
theorem d_rd_readNumber_76 : decode b_rd_readNumber 76 = .ok (.iconst 1, 1) := by decide +kernel
theorem d_rd_readNumber_77 : decode b_rd_readNumber 77 = .ok (.if_icmp .le 17, 3) := by decide +kernel
theorem d_rd_readNumber_80 : decode b_rd_readNumber 80 = .ok (.aload_n 1, 1) := by decide +kernel
theorem d_rd_readNumber_81 : decode b_rd_readNumber 81 = .ok (.iload_n 3, 1) := by decide +kernel
theorem d_rd_readNumber_82 : decode b_rd_readNumber 82 = .ok (.invokevirtual 53, 3) := by decide +kernel
theorem d_rd_readNumber_85 : decode b_rd_readNumber 85 = .ok (.bipush 48, 2) := by decide +kernel
theorem d_rd_readNumber_87 : decode b_rd_readNumber 87 = .ok (.if_icmp .ne 7, 3) := by decide +kernel
theorem d_rd_readNumber_90 : decode b_rd_readNumber 90 = .ok (.iconst 1, 1) := by decide +kernel
theorem d_rd_readNumber_91 : decode b_rd_readNumber 91 = .ok (.goto 4, 3) := by decide +kernel
theorem d_rd_readNumber_94 : decode b_rd_readNumber 94 = .ok (.iconst 0, 1) := by decide +kernel
theorem d_rd_readNumber_95 : decode b_rd_readNumber 95 = .ok (.istore 6, 2) := by decide +kernel
theorem d_rd_readNumber_97 : decode b_rd_readNumber 97 = .ok (.iload 5, 2) := by decide +kernel
theorem d_rd_readNumber_99 : decode b_rd_readNumber 99 = .ok (.ifCond .eq 14, 3) := by decide +kernel
theorem d_rd_readNumber_102 : decode b_rd_readNumber 102 = .ok (.iload 6, 2) := by decide +kernel
theorem d_rd_readNumber_104 : decode b_rd_readNumber 104 = .ok (.ifCond .ne 9, 3) := by decide +kernel
theorem d_rd_readNumber_107 : decode b_rd_readNumber 107 = .ok (.iload 4, 2) := by decide +kernel
theorem d_rd_readNumber_109 : decode b_rd_readNumber 109 = .ok (.iload_n 2, 1) := by decide +kernel
theorem d_rd_readNumber_110 : decode b_rd_readNumber 110 = .ok (.if_icmp .le 7, 3) := by decide +kernel
theorem d_rd_readNumber_113 : decode b_rd_readNumber 113 = .ok (.iconst (-1), 1) := by decide +kernel
theorem d_rd_readNumber_114 : decode b_rd_readNumber 114 = .ok (.goto 5, 3) := by decide +kernel
theorem d_rd_readNumber_117 : decode b_rd_readNumber 117 = .ok (.iload 4, 2) := by decide +kernel
theorem d_rd_readNumber_119 : decode b_rd_readNumber 119 = .ok (.ireturn, 1) := by decide +kernel
theorem d_rd_readSide_0 : decode b_rd_readSide 0 = .ok (.aload_n 1, 1) := by decide +kernel
theorem d_rd_readSide_1 : decode b_rd_readSide 1 = .ok (.aload_n 0, 1) := by decide +kernel
theorem d_rd_readSide_2 : decode b_rd_readSide 2 = .ok (.aload_n 2, 1) := by decide +kernel
theorem d_rd_readSide_3 : decode b_rd_readSide 3 = .ok (.bipush 98, 2) := by decide +kernel
theorem d_rd_readSide_5 : decode b_rd_readSide 5 = .ok (.invokevirtual 24, 3) := by decide +kernel
theorem d_rd_readSide_8 : decode b_rd_readSide 8 = .ok (.ifCond .eq 7, 3) := by decide +kernel
theorem d_rd_readSide_11 : decode b_rd_readSide 11 = .ok (.iconst 1, 1) := by decide +kernel
theorem d_rd_readSide_12 : decode b_rd_readSide 12 = .ok (.goto 4, 3) := by decide +kernel
theorem d_rd_readSide_15 : decode b_rd_readSide 15 = .ok (.iconst 0, 1) := by decide +kernel
theorem d_rd_readSide_16 : decode b_rd_readSide 16 = .ok (.putfield 78, 3) := by decide +kernel
theorem d_rd_readSide_19 : decode b_rd_readSide 19 = .ok (.aload_n 1, 1) := by decide +kernel
theorem d_rd_readSide_20 : decode b_rd_readSide 20 = .ok (.getfield 78, 3) := by decide +kernel
theorem d_rd_readSide_23 : decode b_rd_readSide 23 = .ok (.iconst 1, 1) := by decide +kernel
theorem d_rd_readSide_24 : decode b_rd_readSide 24 = .ok (.if_icmp .eq 13, 3) := by decide +kernel
theorem d_rd_readSide_27 : decode b_rd_readSide 27 = .ok (.aload_n 0, 1) := by decide +kernel
theorem d_rd_readSide_28 : decode b_rd_readSide 28 = .ok (.aload_n 2, 1) := by decide +kernel
theorem d_rd_readSide_29 : decode b_rd_readSide 29 = .ok (.bipush 119, 2) := by decide +kernel
theorem d_rd_readSide_31 : decode b_rd_readSide 31 = .ok (.invokevirtual 24, 3) := by decide +kernel
theorem d_rd_readSide_34 : decode b_rd_readSide 34 = .ok (.ifCond .eq 7, 3) := by decide +kernel
theorem d_rd_readSide_37 : decode b_rd_readSide 37 = .ok (.iconst 1, 1) := by decide +kernel
theorem d_rd_readSide_38 : decode b_rd_readSide 38 = .ok (.goto 4, 3) := by decide +kernel
theorem d_rd_readSide_41 : decode b_rd_readSide 41 = .ok (.iconst 0, 1) := by decide +kernel
theorem d_rd_readSide_42 : decode b_rd_readSide 42 = .ok (.ireturn, 1) := by decide +kernel
theorem d_rd_readRights_0 : decode b_rd_readRights 0 = .ok (.aload_n 1, 1) := by decide +kernel
theorem d_rd_readRights_1 : decode b_rd_readRights 1 = .ok (.iconst 0, 1) := by decide +kernel
theorem d_rd_readRights_2 : decode b_rd_readRights 2 = .ok (.putfield 81, 3) := by decide +kernel
theorem d_rd_readRights_5 : decode b_rd_readRights 5 = .ok (.aload_n 0, 1) := by decide +kernel
theorem d_rd_readRights_6 : decode b_rd_readRights 6 = .ok (.aload_n 2, 1) := by decide +kernel
theorem d_rd_readRights_7 : decode b_rd_readRights 7 = .ok (.bipush 45, 2) := by decide +kernel
theorem d_rd_readRights_9 : decode b_rd_readRights 9 = .ok (.invokevirtual 24, 3) := by decide +kernel
theorem d_rd_readRights_12 : decode b_rd_readRights 12 = .ok (.ifCond .eq 5, 3) := by decide +kernel
theorem d_rd_readRights_15 : decode b_rd_readRights 15 = .ok (.iconst 1, 1) := by decide +kernel
theorem d_rd_readRights_16 : decode b_rd_readRights 16 = .ok (.ireturn, 1) := by decide +kernel
theorem d_rd_readRights_17 : decode b_rd_readRights 17 = .ok (.iconst 0, 1) := by decide +kernel
theorem d_rd_readRights_18 : decode b_rd_readRights 18 = .ok (.istore_n 3, 1) := by decide +kernel
theorem d_rd_readRights_19 : decode b_rd_readRights 19 = .ok (.iload_n 3, 1) := by decide +kernel
theorem d_rd_readRights_20 : decode b_rd_readRights 20 = .ok (.ldc 84, 2) := by decide +kernel
theorem d_rd_readRights_22 : decode b_rd_readRights 22 = .ok (.invokevirtual 86, 3) := by decide +kernel
theorem d_rd_readRights_25 : decode b_rd_readRights 25 = .ok (.if_icmp .ge 35, 3) := by decide +kernel
theorem d_rd_readRights_28 : decode b_rd_readRights 28 = .ok (.aload_n 0, 1) := by decide +kernel
theorem d_rd_readRights_29 : decode b_rd_readRights 29 = .ok (.aload_n 2, 1) := by decide +kernel
theorem d_rd_readRights_30 : decode b_rd_readRights 30 = .ok (.ldc 84, 2) := by decide +kernel
theorem d_rd_readRights_32 : decode b_rd_readRights 32 = .ok (.iload_n 3, 1) := by decide +kernel
theorem d_rd_readRights_33 : decode b_rd_readRights 33 = .ok (.invokestatic 89, 3) := by decide +kernel
theorem d_rd_readRights_36 : decode b_rd_readRights 36 = .ok (.invokevirtual 24, 3) := by decide +kernel
theorem d_rd_readRights_39 : decode b_rd_readRights 39 = .ok (.ifCond .eq 15, 3) := by decide +kernel
theorem d_rd_readRights_42 : decode b_rd_readRights 42 = .ok (.aload_n 1, 1) := by decide +kernel
theorem d_rd_readRights_43 : decode b_rd_readRights 43 = .ok (.dup, 1) := by decide +kernel
theorem d_rd_readRights_44 : decode b_rd_readRights 44 = .ok (.getfield 81, 3) := by decide +kernel
theorem d_rd_readRights_47 : decode b_rd_readRights 47 = .ok (.iconst 1, 1) := by decide +kernel
theorem d_rd_readRights_48 : decode b_rd_readRights 48 = .ok (.iload_n 3, 1) := by decide +kernel
theorem d_rd_readRights_49 : decode b_rd_readRights 49 = .ok (.ishl, 1) := by decide +kernel
theorem d_rd_readRights_50 : decode b_rd_readRights 50 = .ok (.iadd, 1) := by decide +kernel
theorem d_rd_readRights_51 : decode b_rd_readRights 51 = .ok (.putfield 81, 3) := by decide +kernel
theorem d_rd_readRights_54 : decode b_rd_readRights 54 = .ok (.iinc 3 1, 3) := by decide +kernel
theorem d_rd_readRights_57 : decode b_rd_readRights 57 = .ok (.goto (-38), 3) := by decide +kernel
theorem d_rd_readRights_60 : decode b_rd_readRights 60 = .ok (.aload_n 1, 1) := by decide +kernel
theorem d_rd_readRights_61 : decode b_rd_readRights 61 = .ok (.getfield 81, 3) := by decide +kernel
theorem d_rd_readRights_64 : decode b_rd_readRights 64 = .ok (.ifCond .eq 7, 3) := by decide +kernel
theorem d_rd_readRights_67 : decode b_rd_readRights 67 = .ok (.iconst 1, 1) := by decide +kernel
theorem d_rd_readRights_68 : decode b_rd_readRights 68 = .ok (.goto 4, 3) := by decide +kernel
theorem d_rd_readRights_71 : decode b_rd_readRights 71 = .ok (.iconst 0, 1) := by decide +kernel
theorem d_rd_readRights_72 : decode b_rd_readRights 72 = .ok (.ireturn, 1) := by decide +kernel
theorem d_rd_readPassant_0 : decode b_rd_readPassant 0 = .ok (.aload_n 1, 1) := by decide +kernel
theorem d_rd_readPassant_1 : decode b_rd_readPassant 1 = .ok (.iconst (-1), 1) := by decide +kernel
theorem d_rd_readPassant_2 : decode b_rd_readPassant 2 = .ok (.putfield 93, 3) := by decide +kernel
theorem d_rd_readPassant_5 : decode b_rd_readPassant 5 = .ok (.aload_n 0, 1) := by decide +kernel
theorem d_rd_readPassant_6 : decode b_rd_readPassant 6 = .ok (.aload_n 2, 1) := by decide +kernel
theorem d_rd_readPassant_7 : decode b_rd_readPassant 7 = .ok (.bipush 45, 2) := by decide +kernel
theorem d_rd_readPassant_9 : decode b_rd_readPassant 9 = .ok (.invokevirtual 24, 3) := by decide +kernel
theorem d_rd_readPassant_12 : decode b_rd_readPassant 12 = .ok (.ifCond .eq 5, 3) := by decide +kernel
theorem d_rd_readPassant_15 : decode b_rd_readPassant 15 = .ok (.iconst 1, 1) := by decide +kernel
theorem d_rd_readPassant_16 : decode b_rd_readPassant 16 = .ok (.ireturn, 1) := by decide +kernel
theorem d_rd_readPassant_17 : decode b_rd_readPassant 17 = .ok (.aload_n 1, 1) := by decide +kernel
theorem d_rd_readPassant_18 : decode b_rd_readPassant 18 = .ok (.ldc 96, 2) := by decide +kernel
theorem d_rd_readPassant_20 : decode b_rd_readPassant 20 = .ok (.aload_n 2, 1) := by decide +kernel
theorem d_rd_readPassant_21 : decode b_rd_readPassant 21 = .ok (.aload_n 0, 1) := by decide +kernel
theorem d_rd_readPassant_22 : decode b_rd_readPassant 22 = .ok (.getfield 9, 3) := by decide +kernel
theorem d_rd_readPassant_25 : decode b_rd_readPassant 25 = .ok (.invokevirtual 53, 3) := by decide +kernel
theorem d_rd_readPassant_28 : decode b_rd_readPassant 28 = .ok (.invokevirtual 63, 3) := by decide +kernel
theorem d_rd_readPassant_31 : decode b_rd_readPassant 31 = .ok (.putfield 93, 3) := by decide +kernel
theorem d_rd_readPassant_34 : decode b_rd_readPassant 34 = .ok (.aload_n 0, 1) := by decide +kernel
theorem d_rd_readPassant_35 : decode b_rd_readPassant 35 = .ok (.dup, 1) := by decide +kernel
theorem d_rd_readPassant_36 : decode b_rd_readPassant 36 = .ok (.getfield 9, 3) := by decide +kernel
theorem d_rd_readPassant_39 : decode b_rd_readPassant 39 = .ok (.iconst 1, 1) := by decide +kernel
theorem d_rd_readPassant_40 : decode b_rd_readPassant 40 = .ok (.iadd, 1) := by decide +kernel
theorem d_rd_readPassant_41 : decode b_rd_readPassant 41 = .ok (.putfield 9, 3) := by decide +kernel
theorem d_rd_readPassant_44 : decode b_rd_readPassant 44 = .ok (.aload_n 1, 1) := by decide +kernel
theorem d_rd_readPassant_45 : decode b_rd_readPassant 45 = .ok (.getfield 93, 3) := by decide +kernel
theorem d_rd_readPassant_48 : decode b_rd_readPassant 48 = .ok (.ifCond .lt 22, 3) := by decide +kernel
theorem d_rd_readPassant_51 : decode b_rd_readPassant 51 = .ok (.aload_n 0, 1) := by decide +kernel
theorem d_rd_readPassant_52 : decode b_rd_readPassant 52 = .ok (.aload_n 2, 1) := by decide +kernel
theorem d_rd_readPassant_53 : decode b_rd_readPassant 53 = .ok (.aload_n 1, 1) := by decide +kernel
theorem d_rd_readPassant_54 : decode b_rd_readPassant 54 = .ok (.getfield 78, 3) := by decide +kernel
theorem d_rd_readPassant_57 : decode b_rd_readPassant 57 = .ok (.invokestatic 98, 3) := by decide +kernel
theorem d_rd_readPassant_60 : decode b_rd_readPassant 60 = .ok (.invokevirtual 24, 3) := by decide +kernel
theorem d_rd_readPassant_63 : decode b_rd_readPassant 63 = .ok (.ifCond .eq 7, 3) := by decide +kernel
theorem d_rd_readPassant_66 : decode b_rd_readPassant 66 = .ok (.iconst 1, 1) := by decide +kernel
theorem d_rd_readPassant_67 : decode b_rd_readPassant 67 = .ok (.goto 4, 3) := by decide +kernel
theorem d_rd_readPassant_70 : decode b_rd_readPassant 70 = .ok (.iconst 0, 1) := by decide +kernel
theorem d_rd_readPassant_71 : decode b_rd_readPassant 71 = .ok (.ireturn, 1) := by decide +kernel
theorem d_rd_readRank_0 : decode b_rd_readRank 0 = .ok (.iconst 0, 1) := by decide +kernel
theorem d_rd_readRank_1 : decode b_rd_readRank 1 = .ok (.istore 4, 2) := by decide +kernel
theorem d_rd_readRank_3 : decode b_rd_readRank 3 = .ok (.iconst 0, 1) := by decide +kernel
theorem d_rd_readRank_4 : decode b_rd_readRank 4 = .ok (.istore 5, 2) := by decide +kernel
theorem d_rd_readRank_6 : decode b_rd_readRank 6 = .ok (.iconst 0, 1) := by decide +kernel
theorem d_rd_readRank_7 : decode b_rd_readRank 7 = .ok (.istore 6, 2) := by decide +kernel
theorem d_rd_readRank_9 : decode b_rd_readRank 9 = .ok (.iload 6, 2) := by decide +kernel
theorem d_rd_readRank_11 : decode b_rd_readRank 11 = .ok (.bipush 8, 2) := by decide +kernel
theorem d_rd_readRank_13 : decode b_rd_readRank 13 = .ok (.if_icmp .ge 122, 3) := by decide +kernel
theorem d_rd_readRank_16 : decode b_rd_readRank 16 = .ok (.iload 4, 2) := by decide +kernel
theorem d_rd_readRank_18 : decode b_rd_readRank 18 = .ok (.bipush 8, 2) := by decide +kernel
theorem d_rd_readRank_20 : decode b_rd_readRank 20 = .ok (.if_icmp .ge 115, 3) := by decide +kernel
theorem d_rd_readRank_23 : decode b_rd_readRank 23 = .ok (.ldc 61, 2) := by decide +kernel
theorem d_rd_readRank_25 : decode b_rd_readRank 25 = .ok (.aload_n 2, 1) := by decide +kernel
theorem d_rd_readRank_26 : decode b_rd_readRank 26 = .ok (.aload_n 0, 1) := by decide +kernel
theorem d_rd_readRank_27 : decode b_rd_readRank 27 = .ok (.getfield 9, 3) := by decide +kernel
theorem d_rd_readRank_30 : decode b_rd_readRank 30 = .ok (.invokevirtual 53, 3) := by decide +kernel
theorem d_rd_readRank_33 : decode b_rd_readRank 33 = .ok (.invokevirtual 63, 3) := by decide +kernel
theorem d_rd_readRank_36 : decode b_rd_readRank 36 = .ok (.iconst 1, 1) := by decide +kernel
theorem d_rd_readRank_37 : decode b_rd_readRank 37 = .ok (.iadd, 1) := by decide +kernel
theorem d_rd_readRank_38 : decode b_rd_readRank 38 = .ok (.istore 7, 2) := by decide +kernel
theorem d_rd_readRank_40 : decode b_rd_readRank 40 = .ok (.ldc 69, 2) := by decide +kernel
theorem d_rd_readRank_42 : decode b_rd_readRank 42 = .ok (.aload_n 2, 1) := by decide +kernel
theorem d_rd_readRank_43 : decode b_rd_readRank 43 = .ok (.aload_n 0, 1) := by decide +kernel
theorem d_rd_readRank_44 : decode b_rd_readRank 44 = .ok (.getfield 9, 3) := by decide +kernel
theorem d_rd_readRank_47 : decode b_rd_readRank 47 = .ok (.invokevirtual 53, 3) := by decide +kernel
theorem d_rd_readRank_50 : decode b_rd_readRank 50 = .ok (.invokevirtual 63, 3) := by decide +kernel
theorem d_rd_readRank_53 : decode b_rd_readRank 53 = .ok (.iconst 1, 1) := by decide +kernel
theorem d_rd_readRank_54 : decode b_rd_readRank 54 = .ok (.iadd, 1) := by decide +kernel
theorem d_rd_readRank_55 : decode b_rd_readRank 55 = .ok (.istore 8, 2) := by decide +kernel
theorem d_rd_readRank_57 : decode b_rd_readRank 57 = .ok (.iload 8, 2) := by decide +kernel
theorem d_rd_readRank_59 : decode b_rd_readRank 59 = .ok (.ifCond .ne 15, 3) := by decide +kernel
theorem d_rd_readRank_62 : decode b_rd_readRank 62 = .ok (.iload 7, 2) := by decide +kernel
theorem d_rd_readRank_64 : decode b_rd_readRank 64 = .ok (.ifCond .eq 8, 3) := by decide +kernel
theorem d_rd_readRank_67 : decode b_rd_readRank 67 = .ok (.iload 5, 2) := by decide +kernel
theorem d_rd_readRank_69 : decode b_rd_readRank 69 = .ok (.ifCond .eq 5, 3) := by decide +kernel
theorem d_rd_readRank_72 : decode b_rd_readRank 72 = .ok (.iconst 0, 1) := by decide +kernel
theorem d_rd_readRank_73 : decode b_rd_readRank 73 = .ok (.ireturn, 1) := by decide +kernel
theorem d_rd_readRank_74 : decode b_rd_readRank 74 = .ok (.iload 8, 2) := by decide +kernel
theorem d_rd_readRank_76 : decode b_rd_readRank 76 = .ok (.ifCond .le 15, 3) := by decide +kernel
theorem d_rd_readRank_79 : decode b_rd_readRank 79 = .ok (.aload_n 1, 1) := by decide +kernel
theorem d_rd_readRank_80 : decode b_rd_readRank 80 = .ok (.iload 4, 2) := by decide +kernel
