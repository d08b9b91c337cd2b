theorem d_ln_beginsWithWord_1 : decode b_ln_beginsWithWord 1 = .ok (.invokevirtual 19, 3) := by decide +kernel
theorem d_ln_beginsWithWord_4 : decode b_ln_beginsWithWord 4 = .ok (.iload_n 2, 1) := by decide +kernel
theorem d_ln_beginsWithWord_5 : decode b_ln_beginsWithWord 5 = .ok (.if_icmp .eq 5, 3) := by decide +kernel
theorem d_ln_beginsWithWord_8 : decode b_ln_beginsWithWord 8 = .ok (.iconst 0, 1) := by decide +kernel
theorem d_ln_beginsWithWord_9 : decode b_ln_beginsWithWord 9 = .ok (.ireturn, 1) := by decide +kernel
theorem d_ln_beginsWithWord_10 : decode b_ln_beginsWithWord 10 = .ok (.iconst 0, 1) := by decide +kernel
theorem d_ln_beginsWithWord_11 : decode b_ln_beginsWithWord 11 = .ok (.istore_n 3, 1) := by decide +kernel
theorem d_ln_beginsWithWord_12 : decode b_ln_beginsWithWord 12 = .ok (.iload_n 3, 1) := by decide +kernel
theorem d_ln_beginsWithWord_13 : decode b_ln_beginsWithWord 13 = .ok (.aload_n 1, 1) := by decide +kernel
theorem d_ln_beginsWithWord_14 : decode b_ln_beginsWithWord 14 = .ok (.invokevirtual 19, 3) := by decide +kernel
theorem d_ln_beginsWithWord_17 : decode b_ln_beginsWithWord 17 = .ok (.if_icmp .ge 24, 3) := by decide +kernel
theorem d_ln_beginsWithWord_20 : decode b_ln_beginsWithWord 20 = .ok (.aload_n 0, 1) := by decide +kernel
theorem d_ln_beginsWithWord_21 : decode b_ln_beginsWithWord 21 = .ok (.iload_n 3, 1) := by decide +kernel
theorem d_ln_beginsWithWord_22 : decode b_ln_beginsWithWord 22 = .ok (.invokevirtual 48, 3) := by decide +kernel
theorem d_ln_beginsWithWord_25 : decode b_ln_beginsWithWord 25 = .ok (.aload_n 1, 1) := by decide +kernel
theorem d_ln_beginsWithWord_26 : decode b_ln_beginsWithWord 26 = .ok (.iload_n 3, 1) := by decide +kernel
theorem d_ln_beginsWithWord_27 : decode b_ln_beginsWithWord 27 = .ok (.invokevirtual 25, 3) := by decide +kernel
theorem d_ln_beginsWithWord_30 : decode b_ln_beginsWithWord 30 = .ok (.if_icmp .eq 5, 3) := by decide +kernel
theorem d_ln_beginsWithWord_33 : decode b_ln_beginsWithWord 33 = .ok (.iconst 0, 1) := by decide +kernel
theorem d_ln_beginsWithWord_34 : decode b_ln_beginsWithWord 34 = .ok (.ireturn, 1) := by decide +kernel
theorem d_ln_beginsWithWord_35 : decode b_ln_beginsWithWord 35 = .ok (.iinc 3 1, 3) := by decide +kernel
theorem d_ln_beginsWithWord_38 : decode b_ln_beginsWithWord 38 = .ok (.goto (-26), 3) := by decide +kernel
theorem d_ln_beginsWithWord_41 : decode b_ln_beginsWithWord 41 = .ok (.iconst 1, 1) := by decide +kernel
theorem d_ln_beginsWithWord_42 : decode b_ln_beginsWithWord 42 = .ok (.ireturn, 1) := by decide +kernel
theorem d_ps_clearBoard_0 : decode b_ps_clearBoard 0 = .ok (.iconst 0, 1) := by decide +kernel
theorem d_ps_clearBoard_1 : decode b_ps_clearBoard 1 = .ok (.istore_n 1, 1) := by decide +kernel
theorem d_ps_clearBoard_2 : decode b_ps_clearBoard 2 = .ok (.iload_n 1, 1) := by decide +kernel
theorem d_ps_clearBoard_3 : decode b_ps_clearBoard 3 = .ok (.bipush 64, 2) := by decide +kernel
theorem d_ps_clearBoard_5 : decode b_ps_clearBoard 5 = .ok (.if_icmp .ge 16, 3) := by decide +kernel
theorem d_ps_clearBoard_8 : decode b_ps_clearBoard 8 = .ok (.aload_n 0, 1) := by decide +kernel
theorem d_ps_clearBoard_9 : decode b_ps_clearBoard 9 = .ok (.getfield 9, 3) := by decide +kernel
theorem d_ps_clearBoard_12 : decode b_ps_clearBoard 12 = .ok (.iload_n 1, 1) := by decide +kernel
theorem d_ps_clearBoard_13 : decode b_ps_clearBoard 13 = .ok (.iconst 0, 1) := by decide +kernel
theorem d_ps_clearBoard_14 : decode b_ps_clearBoard 14 = .ok (.iastore, 1) := by decide +kernel
theorem d_ps_clearBoard_15 : decode b_ps_clearBoard 15 = .ok (.iinc 1 1, 3) := by decide +kernel
theorem d_ps_clearBoard_18 : decode b_ps_clearBoard 18 = .ok (.goto (-16), 3) := by decide +kernel
theorem d_ps_clearBoard_21 : decode b_ps_clearBoard 21 = .ok (.return_, 1) := by decide +kernel
theorem d_ps_place_0 : decode b_ps_place 0 = .ok (.iload_n 1, 1) := by decide +kernel
theorem d_ps_place_1 : decode b_ps_place 1 = .ok (.invokestatic 22, 3) := by decide +kernel
theorem d_ps_place_4 : decode b_ps_place 4 = .ok (.ifCond .eq 10, 3) := by decide +kernel
theorem d_ps_place_7 : decode b_ps_place 7 = .ok (.aload_n 0, 1) := by decide +kernel
theorem d_ps_place_8 : decode b_ps_place 8 = .ok (.getfield 9, 3) := by decide +kernel
theorem d_ps_place_11 : decode b_ps_place 11 = .ok (.iload_n 1, 1) := by decide +kernel
theorem d_ps_place_12 : decode b_ps_place 12 = .ok (.iload_n 2, 1) := by decide +kernel
theorem d_ps_place_13 : decode b_ps_place 13 = .ok (.iastore, 1) := by decide +kernel
theorem d_ps_place_14 : decode b_ps_place 14 = .ok (.return_, 1) := by decide +kernel
theorem d_ps_manOn_0 : decode b_ps_manOn 0 = .ok (.iload_n 1, 1) := by decide +kernel
theorem d_ps_manOn_1 : decode b_ps_manOn 1 = .ok (.ifCond .lt 18, 3) := by decide +kernel
theorem d_ps_manOn_4 : decode b_ps_manOn 4 = .ok (.iload_n 1, 1) := by decide +kernel
theorem d_ps_manOn_5 : decode b_ps_manOn 5 = .ok (.bipush 64, 2) := by decide +kernel
theorem d_ps_manOn_7 : decode b_ps_manOn 7 = .ok (.if_icmp .ge 12, 3) := by decide +kernel
theorem d_ps_manOn_10 : decode b_ps_manOn 10 = .ok (.aload_n 0, 1) := by decide +kernel
theorem d_ps_manOn_11 : decode b_ps_manOn 11 = .ok (.getfield 9, 3) := by decide +kernel
theorem d_ps_manOn_14 : decode b_ps_manOn 14 = .ok (.iload_n 1, 1) := by decide +kernel
theorem d_ps_manOn_15 : decode b_ps_manOn 15 = .ok (.iaload, 1) := by decide +kernel
theorem d_ps_manOn_16 : decode b_ps_manOn 16 = .ok (.goto 4, 3) := by decide +kernel
theorem d_ps_manOn_19 : decode b_ps_manOn 19 = .ok (.iconst (-1), 1) := by decide +kernel
theorem d_ps_manOn_20 : decode b_ps_manOn 20 = .ok (.ireturn, 1) := by decide +kernel
theorem d_ps_manAt_0 : decode b_ps_manAt 0 = .ok (.iload_n 1, 1) := by decide +kernel
theorem d_ps_manAt_1 : decode b_ps_manAt 1 = .ok (.ifCond .lt 23, 3) := by decide +kernel
theorem d_ps_manAt_4 : decode b_ps_manAt 4 = .ok (.iload_n 1, 1) := by decide +kernel
theorem d_ps_manAt_5 : decode b_ps_manAt 5 = .ok (.bipush 8, 2) := by decide +kernel
theorem d_ps_manAt_7 : decode b_ps_manAt 7 = .ok (.if_icmp .ge 17, 3) := by decide +kernel
theorem d_ps_manAt_10 : decode b_ps_manAt 10 = .ok (.iload_n 2, 1) := by decide +kernel
theorem d_ps_manAt_11 : decode b_ps_manAt 11 = .ok (.ifCond .lt 13, 3) := by decide +kernel
theorem d_ps_manAt_14 : decode b_ps_manAt 14 = .ok (.iload_n 2, 1) := by decide +kernel
theorem d_ps_manAt_15 : decode b_ps_manAt 15 = .ok (.bipush 8, 2) := by decide +kernel
theorem d_ps_manAt_17 : decode b_ps_manAt 17 = .ok (.if_icmp .ge 7, 3) := by decide +kernel
theorem d_ps_manAt_20 : decode b_ps_manAt 20 = .ok (.iconst 1, 1) := by decide +kernel
theorem d_ps_manAt_21 : decode b_ps_manAt 21 = .ok (.goto 4, 3) := by decide +kernel
theorem d_ps_manAt_24 : decode b_ps_manAt 24 = .ok (.iconst 0, 1) := by decide +kernel
theorem d_ps_manAt_25 : decode b_ps_manAt 25 = .ok (.istore_n 3, 1) := by decide +kernel
theorem d_ps_manAt_26 : decode b_ps_manAt 26 = .ok (.iload_n 3, 1) := by decide +kernel
theorem d_ps_manAt_27 : decode b_ps_manAt 27 = .ok (.ifCond .eq 17, 3) := by decide +kernel
theorem d_ps_manAt_30 : decode b_ps_manAt 30 = .ok (.aload_n 0, 1) := by decide +kernel
theorem d_ps_manAt_31 : decode b_ps_manAt 31 = .ok (.getfield 9, 3) := by decide +kernel
theorem d_ps_manAt_34 : decode b_ps_manAt 34 = .ok (.iload_n 2, 1) := by decide +kernel
theorem d_ps_manAt_35 : decode b_ps_manAt 35 = .ok (.bipush 8, 2) := by decide +kernel
theorem d_ps_manAt_37 : decode b_ps_manAt 37 = .ok (.imul, 1) := by decide +kernel
theorem d_ps_manAt_38 : decode b_ps_manAt 38 = .ok (.iload_n 1, 1) := by decide +kernel
theorem d_ps_manAt_39 : decode b_ps_manAt 39 = .ok (.iadd, 1) := by decide +kernel
theorem d_ps_manAt_40 : decode b_ps_manAt 40 = .ok (.iaload, 1) := by decide +kernel
theorem d_ps_manAt_41 : decode b_ps_manAt 41 = .ok (.goto 4, 3) := by decide +kernel
theorem d_ps_manAt_44 : decode b_ps_manAt 44 = .ok (.iconst (-1), 1) := by decide +kernel
theorem d_ps_manAt_45 : decode b_ps_manAt 45 = .ok (.ireturn, 1) := by decide +kernel
theorem d_ps_hasRight_0 : decode b_ps_hasRight 0 = .ok (.aload_n 0, 1) := by decide +kernel
theorem d_ps_hasRight_1 : decode b_ps_hasRight 1 = .ok (.getfield 26, 3) := by decide +kernel
theorem d_ps_hasRight_4 : decode b_ps_hasRight 4 = .ok (.iload_n 1, 1) := by decide +kernel
theorem d_ps_hasRight_5 : decode b_ps_hasRight 5 = .ok (.ishr, 1) := by decide +kernel
theorem d_ps_hasRight_6 : decode b_ps_hasRight 6 = .ok (.iconst 1, 1) := by decide +kernel
theorem d_ps_hasRight_7 : decode b_ps_hasRight 7 = .ok (.iand, 1) := by decide +kernel
theorem d_ps_hasRight_8 : decode b_ps_hasRight 8 = .ok (.ifCond .eq 7, 3) := by decide +kernel
theorem d_ps_hasRight_11 : decode b_ps_hasRight 11 = .ok (.iconst 1, 1) := by decide +kernel
theorem d_ps_hasRight_12 : decode b_ps_hasRight 12 = .ok (.goto 4, 3) := by decide +kernel
theorem d_ps_hasRight_15 : decode b_ps_hasRight 15 = .ok (.iconst 0, 1) := by decide +kernel
theorem d_ps_hasRight_16 : decode b_ps_hasRight 16 = .ok (.ireturn, 1) := by decide +kernel
theorem d_ps_isNear_0 : decode b_ps_isNear 0 = .ok (.iconst 0, 1) := by decide +kernel
theorem d_ps_isNear_1 : decode b_ps_isNear 1 = .ok (.istore 5, 2) := by decide +kernel
theorem d_ps_isNear_3 : decode b_ps_isNear 3 = .ok (.iload 5, 2) := by decide +kernel
theorem d_ps_isNear_5 : decode b_ps_isNear 5 = .ok (.aload_n 3, 1) := by decide +kernel
theorem d_ps_isNear_6 : decode b_ps_isNear 6 = .ok (.arraylength, 1) := by decide +kernel
theorem d_ps_isNear_7 : decode b_ps_isNear 7 = .ok (.if_icmp .ge 46, 3) := by decide +kernel
theorem d_ps_isNear_10 : decode b_ps_isNear 10 = .ok (.iload 5, 2) := by decide +kernel
theorem d_ps_isNear_12 : decode b_ps_isNear 12 = .ok (.aload 4, 2) := by decide +kernel
theorem d_ps_isNear_14 : decode b_ps_isNear 14 = .ok (.arraylength, 1) := by decide +kernel
theorem d_ps_isNear_15 : decode b_ps_isNear 15 = .ok (.if_icmp .ge 38, 3) := by decide +kernel
theorem d_ps_isNear_18 : decode b_ps_isNear 18 = .ok (.aload_n 0, 1) := by decide +kernel
theorem d_ps_isNear_19 : decode b_ps_isNear 19 = .ok (.iload_n 1, 1) := by decide +kernel
theorem d_ps_isNear_20 : decode b_ps_isNear 20 = .ok (.invokestatic 89, 3) := by decide +kernel
theorem d_ps_isNear_23 : decode b_ps_isNear 23 = .ok (.aload_n 3, 1) := by decide +kernel
theorem d_ps_isNear_24 : decode b_ps_isNear 24 = .ok (.iload 5, 2) := by decide +kernel
theorem d_ps_isNear_26 : decode b_ps_isNear 26 = .ok (.iaload, 1) := by decide +kernel
theorem d_ps_isNear_27 : decode b_ps_isNear 27 = .ok (.iadd, 1) := by decide +kernel
theorem d_ps_isNear_28 : decode b_ps_isNear 28 = .ok (.iload_n 1, 1) := by decide +kernel
theorem d_ps_isNear_29 : decode b_ps_isNear 29 = .ok (.invokestatic 92, 3) := by decide +kernel
theorem d_ps_isNear_32 : decode b_ps_isNear 32 = .ok (.aload 4, 2) := by decide +kernel
theorem d_ps_isNear_34 : decode b_ps_isNear 34 = .ok (.iload 5, 2) := by decide +kernel
theorem d_ps_isNear_36 : decode b_ps_isNear 36 = .ok (.iaload, 1) := by decide +kernel
theorem d_ps_isNear_37 : decode b_ps_isNear 37 = .ok (.iadd, 1) := by decide +kernel
theorem d_ps_isNear_38 : decode b_ps_isNear 38 = .ok (.invokevirtual 95, 3) := by decide +kernel
theorem d_ps_isNear_41 : decode b_ps_isNear 41 = .ok (.iload_n 2, 1) := by decide +kernel
theorem d_ps_isNear_42 : decode b_ps_isNear 42 = .ok (.if_icmp .ne 5, 3) := by decide +kernel
theorem d_ps_isNear_45 : decode b_ps_isNear 45 = .ok (.iconst 1, 1) := by decide +kernel
theorem d_ps_isNear_46 : decode b_ps_isNear 46 = .ok (.ireturn, 1) := by decide +kernel
theorem d_ps_isNear_47 : decode b_ps_isNear 47 = .ok (.iinc 5 1, 3) := by decide +kernel
theorem d_ps_isNear_50 : decode b_ps_isNear 50 = .ok (.goto (-47), 3) := by decide +kernel
theorem d_ps_isNear_53 : decode b_ps_isNear 53 = .ok (.iconst 0, 1) := by decide +kernel
theorem d_ps_isNear_54 : decode b_ps_isNear 54 = .ok (.ireturn, 1) := by decide +kernel
theorem d_ps_isAttackedByPawn_0 : decode b_ps_isAttackedByPawn 0 = .ok (.iconst 1, 1) := by decide +kernel
theorem d_ps_isAttackedByPawn_1 : decode b_ps_isAttackedByPawn 1 = .ok (.iload_n 2, 1) := by decide +kernel
theorem d_ps_isAttackedByPawn_2 : decode b_ps_isAttackedByPawn 2 = .ok (.invokestatic 29, 3) := by decide +kernel
theorem d_ps_isAttackedByPawn_5 : decode b_ps_isAttackedByPawn 5 = .ok (.istore_n 3, 1) := by decide +kernel
theorem d_ps_isAttackedByPawn_6 : decode b_ps_isAttackedByPawn 6 = .ok (.iload_n 2, 1) := by decide +kernel
theorem d_ps_isAttackedByPawn_7 : decode b_ps_isAttackedByPawn 7 = .ok (.ifCond .ne 12, 3) := by decide +kernel
theorem d_ps_isAttackedByPawn_10 : decode b_ps_isAttackedByPawn 10 = .ok (.iload_n 1, 1) := by decide +kernel
theorem d_ps_isAttackedByPawn_11 : decode b_ps_isAttackedByPawn 11 = .ok (.invokestatic 92, 3) := by decide +kernel
theorem d_ps_isAttackedByPawn_14 : decode b_ps_isAttackedByPawn 14 = .ok (.iconst 1, 1) := by decide +kernel
theorem d_ps_isAttackedByPawn_15 : decode b_ps_isAttackedByPawn 15 = .ok (.isub, 1) := by decide +kernel
theorem d_ps_isAttackedByPawn_16 : decode b_ps_isAttackedByPawn 16 = .ok (.goto 9, 3) := by decide +kernel
theorem d_ps_isAttackedByPawn_19 : decode b_ps_isAttackedByPawn 19 = .ok (.iload_n 1, 1) := by decide +kernel
theorem d_ps_isAttackedByPawn_20 : decode b_ps_isAttackedByPawn 20 = .ok (.invokestatic 92, 3) := by decide +kernel
theorem d_ps_isAttackedByPawn_23 : decode b_ps_isAttackedByPawn 23 = .ok (.iconst 1, 1) := by decide +kernel
theorem d_ps_isAttackedByPawn_24 : decode b_ps_isAttackedByPawn 24 = .ok (.iadd, 1) := by decide +kernel
theorem d_ps_isAttackedByPawn_25 : decode b_ps_isAttackedByPawn 25 = .ok (.istore 4, 2) := by decide +kernel
theorem d_ps_isAttackedByPawn_27 : decode b_ps_isAttackedByPawn 27 = .ok (.aload_n 0, 1) := by decide +kernel
theorem d_ps_isAttackedByPawn_28 : decode b_ps_isAttackedByPawn 28 = .ok (.iload_n 1, 1) := by decide +kernel
theorem d_ps_isAttackedByPawn_29 : decode b_ps_isAttackedByPawn 29 = .ok (.invokestatic 89, 3) := by decide +kernel
theorem d_ps_isAttackedByPawn_32 : decode b_ps_isAttackedByPawn 32 = .ok (.iconst 1, 1) := by decide +kernel
theorem d_ps_isAttackedByPawn_33 : decode b_ps_isAttackedByPawn 33 = .ok (.isub, 1) := by decide +kernel
theorem d_ps_isAttackedByPawn_34 : decode b_ps_isAttackedByPawn 34 = .ok (.iload 4, 2) := by decide +kernel
theorem d_ps_isAttackedByPawn_36 : decode b_ps_isAttackedByPawn 36 = .ok (.invokevirtual 95, 3) := by decide +kernel
theorem d_ps_isAttackedByPawn_39 : decode b_ps_isAttackedByPawn 39 = .ok (.iload_n 3, 1) := by decide +kernel
theorem d_ps_isAttackedByPawn_40 : decode b_ps_isAttackedByPawn 40 = .ok (.if_icmp .eq 19, 3) := by decide +kernel
theorem d_ps_isAttackedByPawn_43 : decode b_ps_isAttackedByPawn 43 = .ok (.aload_n 0, 1) := by decide +kernel
theorem d_ps_isAttackedByPawn_44 : decode b_ps_isAttackedByPawn 44 = .ok (.iload_n 1, 1) := by decide +kernel
theorem d_ps_isAttackedByPawn_45 : decode b_ps_isAttackedByPawn 45 = .ok (.invokestatic 89, 3) := by decide +kernel
theorem d_ps_isAttackedByPawn_48 : decode b_ps_isAttackedByPawn 48 = .ok (.iconst 1, 1) := by decide +kernel
theorem d_ps_isAttackedByPawn_49 : decode b_ps_isAttackedByPawn 49 = .ok (.iadd, 1) := by decide +kernel
theorem d_ps_isAttackedByPawn_50 : decode b_ps_isAttackedByPawn 50 = .ok (.iload 4, 2) := by decide +kernel
theorem d_ps_isAttackedByPawn_52 : decode b_ps_isAttackedByPawn 52 = .ok (.invokevirtual 95, 3) := by decide +kernel
theorem d_ps_isAttackedByPawn_55 : decode b_ps_isAttackedByPawn 55 = .ok (.iload_n 3, 1) := by decide +kernel
theorem d_ps_isAttackedByPawn_56 : decode b_ps_isAttackedByPawn 56 = .ok (.if_icmp .ne 7, 3) := by decide +kernel
theorem d_ps_isAttackedByPawn_59 : decode b_ps_isAttackedByPawn 59 = .ok (.iconst 1, 1) := by decide +kernel
theorem d_ps_isAttackedByPawn_60 : decode b_ps_isAttackedByPawn 60 = .ok (.goto 4, 3) := by decide +kernel
theorem d_ps_isAttackedByPawn_63 : decode b_ps_isAttackedByPawn 63 = .ok (.iconst 0, 1) := by decide +kernel
theorem d_ps_isAttackedByPawn_64 : decode b_ps_isAttackedByPawn 64 = .ok (.ireturn, 1) := by decide +kernel
theorem d_ps_firstInLine_0 : decode b_ps_firstInLine 0 = .ok (.iconst 1, 1) := by decide +kernel
theorem d_ps_firstInLine_1 : decode b_ps_firstInLine 1 = .ok (.istore 4, 2) := by decide +kernel
theorem d_ps_firstInLine_3 : decode b_ps_firstInLine 3 = .ok (.iload 4, 2) := by decide +kernel
theorem d_ps_firstInLine_5 : decode b_ps_firstInLine 5 = .ok (.bipush 8, 2) := by decide +kernel
theorem d_ps_firstInLine_7 : decode b_ps_firstInLine 7 = .ok (.if_icmp .ge 41, 3) := by decide +kernel
theorem d_ps_firstInLine_10 : decode b_ps_firstInLine 10 = .ok (.aload_n 0, 1) := by decide +kernel
theorem d_ps_firstInLine_11 : decode b_ps_firstInLine 11 = .ok (.iload_n 1, 1) := by decide +kernel
theorem d_ps_firstInLine_12 : decode b_ps_firstInLine 12 = .ok (.invokestatic 89, 3) := by decide +kernel
theorem d_ps_firstInLine_15 : decode b_ps_firstInLine 15 = .ok (.iload 4, 2) := by decide +kernel
theorem d_ps_firstInLine_17 : decode b_ps_firstInLine 17 = .ok (.iload_n 2, 1) := by decide +kernel
theorem d_ps_firstInLine_18 : decode b_ps_firstInLine 18 = .ok (.imul, 1) := by decide +kernel
theorem d_ps_firstInLine_19 : decode b_ps_firstInLine 19 = .ok (.iadd, 1) := by decide +kernel
theorem d_ps_firstInLine_20 : decode b_ps_firstInLine 20 = .ok (.iload_n 1, 1) := by decide +kernel
theorem d_ps_firstInLine_21 : decode b_ps_firstInLine 21 = .ok (.invokestatic 92, 3) := by decide +kernel
theorem d_ps_firstInLine_24 : decode b_ps_firstInLine 24 = .ok (.iload 4, 2) := by decide +kernel
theorem d_ps_firstInLine_26 : decode b_ps_firstInLine 26 = .ok (.iload_n 3, 1) := by decide +kernel
theorem d_ps_firstInLine_27 : decode b_ps_firstInLine 27 = .ok (.imul, 1) := by decide +kernel
theorem d_ps_firstInLine_28 : decode b_ps_firstInLine 28 = .ok (.iadd, 1) := by decide +kernel
theorem d_ps_firstInLine_29 : decode b_ps_firstInLine 29 = .ok (.invokevirtual 95, 3) := by decide +kernel
theorem d_ps_firstInLine_32 : decode b_ps_firstInLine 32 = .ok (.istore 5, 2) := by decide +kernel
theorem d_ps_firstInLine_34 : decode b_ps_firstInLine 34 = .ok (.iload 5, 2) := by decide +kernel
theorem d_ps_firstInLine_36 : decode b_ps_firstInLine 36 = .ok (.ifCond .eq 6, 3) := by decide +kernel
theorem d_ps_firstInLine_39 : decode b_ps_firstInLine 39 = .ok (.iload 5, 2) := by decide +kernel
theorem d_ps_firstInLine_41 : decode b_ps_firstInLine 41 = .ok (.ireturn, 1) := by decide +kernel
theorem d_ps_firstInLine_42 : decode b_ps_firstInLine 42 = .ok (.iinc 4 1, 3) := by decide +kernel
theorem d_ps_firstInLine_45 : decode b_ps_firstInLine 45 = .ok (.goto (-42), 3) := by decide +kernel
theorem d_ps_firstInLine_48 : decode b_ps_firstInLine 48 = .ok (.iconst (-1), 1) := by decide +kernel
theorem d_ps_firstInLine_49 : decode b_ps_firstInLine 49 = .ok (.ireturn, 1) := by decide +kernel
theorem d_ps_isInLine_0 : decode b_ps_isInLine 0 = .ok (.iconst 0, 1) := by decide +kernel
theorem d_ps_isInLine_1 : decode b_ps_isInLine 1 = .ok (.istore 6, 2) := by decide +kernel
theorem d_ps_isInLine_3 : decode b_ps_isInLine 3 = .ok (.iload 6, 2) := by decide +kernel
theorem d_ps_isInLine_5 : decode b_ps_isInLine 5 = .ok (.aload 4, 2) := by decide +kernel
theorem d_ps_isInLine_7 : decode b_ps_isInLine 7 = .ok (.arraylength, 1) := by decide +kernel
theorem d_ps_isInLine_8 : decode b_ps_isInLine 8 = .ok (.if_icmp .ge 52, 3) := by decide +kernel
theorem d_ps_isInLine_11 : decode b_ps_isInLine 11 = .ok (.iload 6, 2) := by decide +kernel
theorem d_ps_isInLine_13 : decode b_ps_isInLine 13 = .ok (.aload 5, 2) := by decide +kernel
theorem d_ps_isInLine_15 : decode b_ps_isInLine 15 = .ok (.arraylength, 1) := by decide +kernel
theorem d_ps_isInLine_16 : decode b_ps_isInLine 16 = .ok (.if_icmp .ge 44, 3) := by decide +kernel
theorem d_ps_isInLine_19 : decode b_ps_isInLine 19 = .ok (.aload_n 0, 1) := by decide +kernel
theorem d_ps_isInLine_20 : decode b_ps_isInLine 20 = .ok (.iload_n 1, 1) := by decide +kernel
theorem d_ps_isInLine_21 : decode b_ps_isInLine 21 = .ok (.aload 4, 2) := by decide +kernel
theorem d_ps_isInLine_23 : decode b_ps_isInLine 23 = .ok (.iload 6, 2) := by decide +kernel
theorem d_ps_isInLine_25 : decode b_ps_isInLine 25 = .ok (.iaload, 1) := by decide +kernel
theorem d_ps_isInLine_26 : decode b_ps_isInLine 26 = .ok (.aload 5, 2) := by decide +kernel
theorem d_ps_isInLine_28 : decode b_ps_isInLine 28 = .ok (.iload 6, 2) := by decide +kernel
theorem d_ps_isInLine_30 : decode b_ps_isInLine 30 = .ok (.iaload, 1) := by decide +kernel
theorem d_ps_isInLine_31 : decode b_ps_isInLine 31 = .ok (.invokevirtual 98, 3) := by decide +kernel
theorem d_ps_isInLine_34 : decode b_ps_isInLine 34 = .ok (.istore 7, 2) := by decide +kernel
theorem d_ps_isInLine_36 : decode b_ps_isInLine 36 = .ok (.iload 7, 2) := by decide +kernel
theorem d_ps_isInLine_38 : decode b_ps_isInLine 38 = .ok (.iload_n 2, 1) := by decide +kernel
theorem d_ps_isInLine_39 : decode b_ps_isInLine 39 = .ok (.if_icmp .eq 13, 3) := by decide +kernel
theorem d_ps_isInLine_42 : decode b_ps_isInLine 42 = .ok (.iload 7, 2) := by decide +kernel
theorem d_ps_isInLine_44 : decode b_ps_isInLine 44 = .ok (.iconst 5, 1) := by decide +kernel
theorem d_ps_isInLine_45 : decode b_ps_isInLine 45 = .ok (.iload_n 3, 1) := by decide +kernel
theorem d_ps_isInLine_46 : decode b_ps_isInLine 46 = .ok (.invokestatic 29, 3) := by decide +kernel
theorem d_ps_isInLine_49 : decode b_ps_isInLine 49 = .ok (.if_icmp .ne 5, 3) := by decide +kernel
theorem d_ps_isInLine_52 : decode b_ps_isInLine 52 = .ok (.iconst 1, 1) := by decide +kernel
theorem d_ps_isInLine_53 : decode b_ps_isInLine 53 = .ok (.ireturn, 1) := by decide +kernel
theorem d_ps_isInLine_54 : decode b_ps_isInLine 54 = .ok (.iinc 6 1, 3) := by decide +kernel
theorem d_ps_isInLine_57 : decode b_ps_isInLine 57 = .ok (.goto (-54), 3) := by decide +kernel
theorem d_ps_isInLine_60 : decode b_ps_isInLine 60 = .ok (.iconst 0, 1) := by decide +kernel
theorem d_ps_isInLine_61 : decode b_ps_isInLine 61 = .ok (.ireturn, 1) := by decide +kernel
theorem d_ps_isAttacked_0 : decode b_ps_isAttacked 0 = .ok (.aload_n 0, 1) := by decide +kernel
theorem d_ps_isAttacked_1 : decode b_ps_isAttacked 1 = .ok (.iload_n 1, 1) := by decide +kernel
theorem d_ps_isAttacked_2 : decode b_ps_isAttacked 2 = .ok (.iconst 2, 1) := by decide +kernel
theorem d_ps_isAttacked_3 : decode b_ps_isAttacked 3 = .ok (.iload_n 2, 1) := by decide +kernel
theorem d_ps_isAttacked_4 : decode b_ps_isAttacked 4 = .ok (.invokestatic 29, 3) := by decide +kernel
theorem d_ps_isAttacked_7 : decode b_ps_isAttacked 7 = .ok (.getstatic 60, 3) := by decide +kernel
theorem d_ps_isAttacked_10 : decode b_ps_isAttacked 10 = .ok (.getstatic 63, 3) := by decide +kernel
theorem d_ps_isAttacked_13 : decode b_ps_isAttacked 13 = .ok (.invokevirtual 66, 3) := by decide +kernel
theorem d_ps_isAttacked_16 : decode b_ps_isAttacked 16 = .ok (.ifCond .ne 92, 3) := by decide +kernel
theorem d_ps_isAttacked_19 : decode b_ps_isAttacked 19 = .ok (.aload_n 0, 1) := by decide +kernel
theorem d_ps_isAttacked_20 : decode b_ps_isAttacked 20 = .ok (.iload_n 1, 1) := by decide +kernel
theorem d_ps_isAttacked_21 : decode b_ps_isAttacked 21 = .ok (.bipush 6, 2) := by decide +kernel
theorem d_ps_isAttacked_23 : decode b_ps_isAttacked 23 = .ok (.iload_n 2, 1) := by decide +kernel
theorem d_ps_isAttacked_24 : decode b_ps_isAttacked 24 = .ok (.invokestatic 29, 3) := by decide +kernel
theorem d_ps_isAttacked_27 : decode b_ps_isAttacked 27 = .ok (.getstatic 70, 3) := by decide +kernel
theorem d_ps_isAttacked_30 : decode b_ps_isAttacked 30 = .ok (.getstatic 73, 3) := by decide +kernel
theorem d_ps_isAttacked_33 : decode b_ps_isAttacked 33 = .ok (.invokevirtual 66, 3) := by decide +kernel
theorem d_ps_isAttacked_36 : decode b_ps_isAttacked 36 = .ok (.ifCond .ne 72, 3) := by decide +kernel
theorem d_ps_isAttacked_39 : decode b_ps_isAttacked 39 = .ok (.aload_n 0, 1) := by decide +kernel
theorem d_ps_isAttacked_40 : decode b_ps_isAttacked 40 = .ok (.iload_n 1, 1) := by decide +kernel
theorem d_ps_isAttacked_41 : decode b_ps_isAttacked 41 = .ok (.bipush 6, 2) := by decide +kernel
theorem d_ps_isAttacked_43 : decode b_ps_isAttacked 43 = .ok (.iload_n 2, 1) := by decide +kernel
theorem d_ps_isAttacked_44 : decode b_ps_isAttacked 44 = .ok (.invokestatic 29, 3) := by decide +kernel
theorem d_ps_isAttacked_47 : decode b_ps_isAttacked 47 = .ok (.getstatic 76, 3) := by decide +kernel
theorem d_ps_isAttacked_50 : decode b_ps_isAttacked 50 = .ok (.getstatic 79, 3) := by decide +kernel
theorem d_ps_isAttacked_53 : decode b_ps_isAttacked 53 = .ok (.invokevirtual 66, 3) := by decide +kernel
theorem d_ps_isAttacked_56 : decode b_ps_isAttacked 56 = .ok (.ifCond .ne 52, 3) := by decide +kernel
theorem d_ps_isAttacked_59 : decode b_ps_isAttacked 59 = .ok (.aload_n 0, 1) := by decide +kernel
theorem d_ps_isAttacked_60 : decode b_ps_isAttacked 60 = .ok (.iload_n 1, 1) := by decide +kernel
theorem d_ps_isAttacked_61 : decode b_ps_isAttacked 61 = .ok (.iload_n 2, 1) := by decide +kernel
theorem d_ps_isAttacked_62 : decode b_ps_isAttacked 62 = .ok (.invokevirtual 82, 3) := by decide +kernel
theorem d_ps_isAttacked_65 : decode b_ps_isAttacked 65 = .ok (.ifCond .ne 43, 3) := by decide +kernel
theorem d_ps_isAttacked_68 : decode b_ps_isAttacked 68 = .ok (.aload_n 0, 1) := by decide +kernel
theorem d_ps_isAttacked_69 : decode b_ps_isAttacked 69 = .ok (.iload_n 1, 1) := by decide +kernel
theorem d_ps_isAttacked_70 : decode b_ps_isAttacked 70 = .ok (.iconst 4, 1) := by decide +kernel
theorem d_ps_isAttacked_71 : decode b_ps_isAttacked 71 = .ok (.iload_n 2, 1) := by decide +kernel
theorem d_ps_isAttacked_72 : decode b_ps_isAttacked 72 = .ok (.invokestatic 29, 3) := by decide +kernel
theorem d_ps_isAttacked_75 : decode b_ps_isAttacked 75 = .ok (.iload_n 2, 1) := by decide +kernel
theorem d_ps_isAttacked_76 : decode b_ps_isAttacked 76 = .ok (.getstatic 70, 3) := by decide +kernel
theorem d_ps_isAttacked_79 : decode b_ps_isAttacked 79 = .ok (.getstatic 73, 3) := by decide +kernel
theorem d_ps_isAttacked_82 : decode b_ps_isAttacked 82 = .ok (.invokevirtual 85, 3) := by decide +kernel
theorem d_ps_isAttacked_85 : decode b_ps_isAttacked 85 = .ok (.ifCond .ne 23, 3) := by decide +kernel
theorem d_ps_isAttacked_88 : decode b_ps_isAttacked 88 = .ok (.aload_n 0, 1) := by decide +kernel
theorem d_ps_isAttacked_89 : decode b_ps_isAttacked 89 = .ok (.iload_n 1, 1) := by decide +kernel
theorem d_ps_isAttacked_90 : decode b_ps_isAttacked 90 = .ok (.iconst 3, 1) := by decide +kernel
theorem d_ps_isAttacked_91 : decode b_ps_isAttacked 91 = .ok (.iload_n 2, 1) := by decide +kernel
theorem d_ps_isAttacked_92 : decode b_ps_isAttacked 92 = .ok (.invokestatic 29, 3) := by decide +kernel
theorem d_ps_isAttacked_95 : decode b_ps_isAttacked 95 = .ok (.iload_n 2, 1) := by decide +kernel
theorem d_ps_isAttacked_96 : decode b_ps_isAttacked 96 = .ok (.getstatic 76, 3) := by decide +kernel
theorem d_ps_isAttacked_99 : decode b_ps_isAttacked 99 = .ok (.getstatic 79, 3) := by decide +kernel
theorem d_ps_isAttacked_102 : decode b_ps_isAttacked 102 = .ok (.invokevirtual 85, 3) := by decide +kernel
theorem d_ps_isAttacked_105 : decode b_ps_isAttacked 105 = .ok (.ifCond .eq 7, 3) := by decide +kernel
theorem d_ps_isAttacked_108 : decode b_ps_isAttacked 108 = .ok (.iconst 1, 1) := by decide +kernel
theorem d_ps_isAttacked_109 : decode b_ps_isAttacked 109 = .ok (.goto 4, 3) := by decide +kernel
theorem d_ps_isAttacked_112 : decode b_ps_isAttacked 112 = .ok (.iconst 0, 1) := by decide +kernel
theorem d_ps_isAttacked_113 : decode b_ps_isAttacked 113 = .ok (.ireturn, 1) := by decide +kernel
theorem d_ps_count_0 : decode b_ps_count 0 = .ok (.iconst 0, 1) := by decide +kernel
theorem d_ps_count_1 : decode b_ps_count 1 = .ok (.istore_n 2, 1) := by decide +kernel
theorem d_ps_count_2 : decode b_ps_count 2 = .ok (.iconst 0, 1) := by decide +kernel
theorem d_ps_count_3 : decode b_ps_count 3 = .ok (.istore_n 3, 1) := by decide +kernel
theorem d_ps_count_4 : decode b_ps_count 4 = .ok (.iload_n 3, 1) := by decide +kernel
theorem d_ps_count_5 : decode b_ps_count 5 = .ok (.bipush 64, 2) := by decide +kernel
theorem d_ps_count_7 : decode b_ps_count 7 = .ok (.if_icmp .ge 22, 3) := by decide +kernel
theorem d_ps_count_10 : decode b_ps_count 10 = .ok (.aload_n 0, 1) := by decide +kernel
theorem d_ps_count_11 : decode b_ps_count 11 = .ok (.getfield 9, 3) := by decide +kernel
theorem d_ps_count_14 : decode b_ps_count 14 = .ok (.iload_n 3, 1) := by decide +kernel
theorem d_ps_count_15 : decode b_ps_count 15 = .ok (.iaload, 1) := by decide +kernel
theorem d_ps_count_16 : decode b_ps_count 16 = .ok (.iload_n 1, 1) := by decide +kernel
theorem d_ps_count_17 : decode b_ps_count 17 = .ok (.if_icmp .ne 6, 3) := by decide +kernel
theorem d_ps_count_20 : decode b_ps_count 20 = .ok (.iinc 2 1, 3) := by decide +kernel
theorem d_ps_count_23 : decode b_ps_count 23 = .ok (.iinc 3 1, 3) := by decide +kernel
theorem d_ps_count_26 : decode b_ps_count 26 = .ok (.goto (-22), 3) := by decide +kernel
theorem d_ps_count_29 : decode b_ps_count 29 = .ok (.iload_n 2, 1) := by decide +kernel
theorem d_ps_count_30 : decode b_ps_count 30 = .ok (.ireturn, 1) := by decide +kernel
theorem d_ps_kingSquare_0 : decode b_ps_kingSquare 0 = .ok (.iconst 0, 1) := by decide +kernel
theorem d_ps_kingSquare_1 : decode b_ps_kingSquare 1 = .ok (.istore_n 2, 1) := by decide +kernel
theorem d_ps_kingSquare_2 : decode b_ps_kingSquare 2 = .ok (.iload_n 2, 1) := by decide +kernel
theorem d_ps_kingSquare_3 : decode b_ps_kingSquare 3 = .ok (.bipush 64, 2) := by decide +kernel
theorem d_ps_kingSquare_5 : decode b_ps_kingSquare 5 = .ok (.if_icmp .ge 26, 3) := by decide +kernel
theorem d_ps_kingSquare_8 : decode b_ps_kingSquare 8 = .ok (.aload_n 0, 1) := by decide +kernel
theorem d_ps_kingSquare_9 : decode b_ps_kingSquare 9 = .ok (.getfield 9, 3) := by decide +kernel
theorem d_ps_kingSquare_12 : decode b_ps_kingSquare 12 = .ok (.iload_n 2, 1) := by decide +kernel
theorem d_ps_kingSquare_13 : decode b_ps_kingSquare 13 = .ok (.iaload, 1) := by decide +kernel
theorem d_ps_kingSquare_14 : decode b_ps_kingSquare 14 = .ok (.bipush 6, 2) := by decide +kernel
theorem d_ps_kingSquare_16 : decode b_ps_kingSquare 16 = .ok (.iload_n 1, 1) := by decide +kernel
theorem d_ps_kingSquare_17 : decode b_ps_kingSquare 17 = .ok (.invokestatic 29, 3) := by decide +kernel
theorem d_ps_kingSquare_20 : decode b_ps_kingSquare 20 = .ok (.if_icmp .ne 5, 3) := by decide +kernel
theorem d_ps_kingSquare_23 : decode b_ps_kingSquare 23 = .ok (.iload_n 2, 1) := by decide +kernel
theorem d_ps_kingSquare_24 : decode b_ps_kingSquare 24 = .ok (.ireturn, 1) := by decide +kernel
theorem d_ps_kingSquare_25 : decode b_ps_kingSquare 25 = .ok (.iinc 2 1, 3) := by decide +kernel
theorem d_ps_kingSquare_28 : decode b_ps_kingSquare 28 = .ok (.goto (-26), 3) := by decide +kernel
theorem d_ps_kingSquare_31 : decode b_ps_kingSquare 31 = .ok (.iconst (-1), 1) := by decide +kernel
theorem d_ps_kingSquare_32 : decode b_ps_kingSquare 32 = .ok (.ireturn, 1) := by decide +kernel
theorem d_ps_hasMisplacedPawn_0 : decode b_ps_hasMisplacedPawn 0 = .ok (.iconst 0, 1) := by decide +kernel
theorem d_ps_hasMisplacedPawn_1 : decode b_ps_hasMisplacedPawn 1 = .ok (.istore_n 1, 1) := by decide +kernel
theorem d_ps_hasMisplacedPawn_2 : decode b_ps_hasMisplacedPawn 2 = .ok (.iload_n 1, 1) := by decide +kernel
theorem d_ps_hasMisplacedPawn_3 : decode b_ps_hasMisplacedPawn 3 = .ok (.bipush 8, 2) := by decide +kernel
theorem d_ps_hasMisplacedPawn_5 : decode b_ps_hasMisplacedPawn 5 = .ok (.if_icmp .ge 38, 3) := by decide +kernel
theorem d_ps_hasMisplacedPawn_8 : decode b_ps_hasMisplacedPawn 8 = .ok (.aload_n 0, 1) := by decide +kernel
theorem d_ps_hasMisplacedPawn_9 : decode b_ps_hasMisplacedPawn 9 = .ok (.iload_n 1, 1) := by decide +kernel
theorem d_ps_hasMisplacedPawn_10 : decode b_ps_hasMisplacedPawn 10 = .ok (.iconst 0, 1) := by decide +kernel
theorem d_ps_hasMisplacedPawn_11 : decode b_ps_hasMisplacedPawn 11 = .ok (.invokevirtual 95, 3) := by decide +kernel
theorem d_ps_hasMisplacedPawn_14 : decode b_ps_hasMisplacedPawn 14 = .ok (.invokestatic 102, 3) := by decide +kernel
theorem d_ps_hasMisplacedPawn_17 : decode b_ps_hasMisplacedPawn 17 = .ok (.iconst 1, 1) := by decide +kernel
theorem d_ps_hasMisplacedPawn_18 : decode b_ps_hasMisplacedPawn 18 = .ok (.if_icmp .eq 17, 3) := by decide +kernel
theorem d_ps_hasMisplacedPawn_21 : decode b_ps_hasMisplacedPawn 21 = .ok (.aload_n 0, 1) := by decide +kernel
theorem d_ps_hasMisplacedPawn_22 : decode b_ps_hasMisplacedPawn 22 = .ok (.iload_n 1, 1) := by decide +kernel
theorem d_ps_hasMisplacedPawn_23 : decode b_ps_hasMisplacedPawn 23 = .ok (.bipush 7, 2) := by decide +kernel
theorem d_ps_hasMisplacedPawn_25 : decode b_ps_hasMisplacedPawn 25 = .ok (.invokevirtual 95, 3) := by decide +kernel
theorem d_ps_hasMisplacedPawn_28 : decode b_ps_hasMisplacedPawn 28 = .ok (.invokestatic 102, 3) := by decide +kernel
theorem d_ps_hasMisplacedPawn_31 : decode b_ps_hasMisplacedPawn 31 = .ok (.iconst 1, 1) := by decide +kernel
theorem d_ps_hasMisplacedPawn_32 : decode b_ps_hasMisplacedPawn 32 = .ok (.if_icmp .ne 5, 3) := by decide +kernel
theorem d_ps_hasMisplacedPawn_35 : decode b_ps_hasMisplacedPawn 35 = .ok (.iconst 1, 1) := by decide +kernel
theorem d_ps_hasMisplacedPawn_36 : decode b_ps_hasMisplacedPawn 36 = .ok (.ireturn, 1) := by decide +kernel
theorem d_ps_hasMisplacedPawn_37 : decode b_ps_hasMisplacedPawn 37 = .ok (.iinc 1 1, 3) := by decide +kernel
theorem d_ps_hasMisplacedPawn_40 : decode b_ps_hasMisplacedPawn 40 = .ok (.goto (-38), 3) := by decide +kernel
theorem d_ps_hasMisplacedPawn_43 : decode b_ps_hasMisplacedPawn 43 = .ok (.iconst 0, 1) := by decide +kernel
theorem d_ps_hasMisplacedPawn_44 : decode b_ps_hasMisplacedPawn 44 = .ok (.ireturn, 1) := by decide +kernel
theorem d_ps_extra_0 : decode b_ps_extra 0 = .ok (.iconst 0, 1) := by decide +kernel
theorem d_ps_extra_1 : decode b_ps_extra 1 = .ok (.aload_n 0, 1) := by decide +kernel
theorem d_ps_extra_2 : decode b_ps_extra 2 = .ok (.iload_n 1, 1) := by decide +kernel
theorem d_ps_extra_3 : decode b_ps_extra 3 = .ok (.iload_n 2, 1) := by decide +kernel
theorem d_ps_extra_4 : decode b_ps_extra 4 = .ok (.invokestatic 29, 3) := by decide +kernel
theorem d_ps_extra_7 : decode b_ps_extra 7 = .ok (.invokevirtual 33, 3) := by decide +kernel
theorem d_ps_extra_10 : decode b_ps_extra 10 = .ok (.iload_n 3, 1) := by decide +kernel
theorem d_ps_extra_11 : decode b_ps_extra 11 = .ok (.isub, 1) := by decide +kernel
theorem d_ps_extra_12 : decode b_ps_extra 12 = .ok (.invokestatic 108, 3) := by decide +kernel
theorem d_ps_extra_15 : decode b_ps_extra 15 = .ok (.ireturn, 1) := by decide +kernel
theorem d_ps_hasTooMany_0 : decode b_ps_hasTooMany 0 = .ok (.aload_n 0, 1) := by decide +kernel
theorem d_ps_hasTooMany_1 : decode b_ps_hasTooMany 1 = .ok (.iconst 2, 1) := by decide +kernel
theorem d_ps_hasTooMany_2 : decode b_ps_hasTooMany 2 = .ok (.iload_n 1, 1) := by decide +kernel
theorem d_ps_hasTooMany_3 : decode b_ps_hasTooMany 3 = .ok (.iconst 2, 1) := by decide +kernel
theorem d_ps_hasTooMany_4 : decode b_ps_hasTooMany 4 = .ok (.invokevirtual 105, 3) := by decide +kernel
theorem d_ps_hasTooMany_7 : decode b_ps_hasTooMany 7 = .ok (.aload_n 0, 1) := by decide +kernel
theorem d_ps_hasTooMany_8 : decode b_ps_hasTooMany 8 = .ok (.iconst 3, 1) := by decide +kernel
theorem d_ps_hasTooMany_9 : decode b_ps_hasTooMany 9 = .ok (.iload_n 1, 1) := by decide +kernel
theorem d_ps_hasTooMany_10 : decode b_ps_hasTooMany 10 = .ok (.iconst 2, 1) := by decide +kernel
theorem d_ps_hasTooMany_11 : decode b_ps_hasTooMany 11 = .ok (.invokevirtual 105, 3) := by decide +kernel
theorem d_ps_hasTooMany_14 : decode b_ps_hasTooMany 14 = .ok (.iadd, 1) := by decide +kernel
theorem d_ps_hasTooMany_15 : decode b_ps_hasTooMany 15 = .ok (.aload_n 0, 1) := by decide +kernel
theorem d_ps_hasTooMany_16 : decode b_ps_hasTooMany 16 = .ok (.iconst 4, 1) := by decide +kernel
theorem d_ps_hasTooMany_17 : decode b_ps_hasTooMany 17 = .ok (.iload_n 1, 1) := by decide +kernel
theorem d_ps_hasTooMany_18 : decode b_ps_hasTooMany 18 = .ok (.iconst 2, 1) := by decide +kernel
theorem d_ps_hasTooMany_19 : decode b_ps_hasTooMany 19 = .ok (.invokevirtual 105, 3) := by decide +kernel
theorem d_ps_hasTooMany_22 : decode b_ps_hasTooMany 22 = .ok (.iadd, 1) := by decide +kernel
theorem d_ps_hasTooMany_23 : decode b_ps_hasTooMany 23 = .ok (.aload_n 0, 1) := by decide +kernel
theorem d_ps_hasTooMany_24 : decode b_ps_hasTooMany 24 = .ok (.iconst 5, 1) := by decide +kernel
theorem d_ps_hasTooMany_25 : decode b_ps_hasTooMany 25 = .ok (.iload_n 1, 1) := by decide +kernel
theorem d_ps_hasTooMany_26 : decode b_ps_hasTooMany 26 = .ok (.iconst 1, 1) := by decide +kernel
theorem d_ps_hasTooMany_27 : decode b_ps_hasTooMany 27 = .ok (.invokevirtual 105, 3) := by decide +kernel
theorem d_ps_hasTooMany_30 : decode b_ps_hasTooMany 30 = .ok (.iadd, 1) := by decide +kernel
theorem d_ps_hasTooMany_31 : decode b_ps_hasTooMany 31 = .ok (.istore_n 2, 1) := by decide +kernel
theorem d_ps_hasTooMany_32 : decode b_ps_hasTooMany 32 = .ok (.iload_n 2, 1) := by decide +kernel
theorem d_ps_hasTooMany_33 : decode b_ps_hasTooMany 33 = .ok (.bipush 8, 2) := by decide +kernel
theorem d_ps_hasTooMany_35 : decode b_ps_hasTooMany 35 = .ok (.aload_n 0, 1) := by decide +kernel
theorem d_ps_hasTooMany_36 : decode b_ps_hasTooMany 36 = .ok (.iconst 1, 1) := by decide +kernel
theorem d_ps_hasTooMany_37 : decode b_ps_hasTooMany 37 = .ok (.iload_n 1, 1) := by decide +kernel
theorem d_ps_hasTooMany_38 : decode b_ps_hasTooMany 38 = .ok (.invokestatic 29, 3) := by decide +kernel
theorem d_ps_hasTooMany_41 : decode b_ps_hasTooMany 41 = .ok (.invokevirtual 33, 3) := by decide +kernel
theorem d_ps_hasTooMany_44 : decode b_ps_hasTooMany 44 = .ok (.isub, 1) := by decide +kernel
theorem d_ps_hasTooMany_45 : decode b_ps_hasTooMany 45 = .ok (.if_icmp .le 7, 3) := by decide +kernel
theorem d_ps_hasTooMany_48 : decode b_ps_hasTooMany 48 = .ok (.iconst 1, 1) := by decide +kernel
theorem d_ps_hasTooMany_49 : decode b_ps_hasTooMany 49 = .ok (.goto 4, 3) := by decide +kernel
theorem d_ps_hasTooMany_52 : decode b_ps_hasTooMany 52 = .ok (.iconst 0, 1) := by decide +kernel
theorem d_ps_hasTooMany_53 : decode b_ps_hasTooMany 53 = .ok (.ireturn, 1) := by decide +kernel
theorem d_ps_rightHolds_0 : decode b_ps_rightHolds 0 = .ok (.iload_n 1, 1) := by decide +kernel
theorem d_ps_rightHolds_1 : decode b_ps_rightHolds 1 = .ok (.iconst 2, 1) := by decide +kernel
theorem d_ps_rightHolds_2 : decode b_ps_rightHolds 2 = .ok (.if_icmp .ge 7, 3) := by decide +kernel
theorem d_ps_rightHolds_5 : decode b_ps_rightHolds 5 = .ok (.iconst 0, 1) := by decide +kernel
theorem d_ps_rightHolds_6 : decode b_ps_rightHolds 6 = .ok (.goto 4, 3) := by decide +kernel
theorem d_ps_rightHolds_9 : decode b_ps_rightHolds 9 = .ok (.iconst 1, 1) := by decide +kernel
theorem d_ps_rightHolds_10 : decode b_ps_rightHolds 10 = .ok (.istore_n 2, 1) := by decide +kernel
