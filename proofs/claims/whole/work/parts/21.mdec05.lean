theorem d_md_isRank_15 : decode b_md_isRank 15 = .ok (.if_icmp .gt 7, 3) := by decide +kernel
theorem d_md_isRank_18 : decode b_md_isRank 18 = .ok (.iconst 1, 1) := by decide +kernel
theorem d_md_isRank_19 : decode b_md_isRank 19 = .ok (.goto 4, 3) := by decide +kernel
theorem d_md_isRank_22 : decode b_md_isRank 22 = .ok (.iconst 0, 1) := by decide +kernel
theorem d_md_isRank_23 : decode b_md_isRank 23 = .ok (.ireturn, 1) := by decide +kernel
theorem d_md_isOfficer_0 : decode b_md_isOfficer 0 = .ok (.iload_n 0, 1) := by decide +kernel
theorem d_md_isOfficer_1 : decode b_md_isOfficer 1 = .ok (.bipush 81, 2) := by decide +kernel
theorem d_md_isOfficer_3 : decode b_md_isOfficer 3 = .ok (.if_icmp .eq 31, 3) := by decide +kernel
theorem d_md_isOfficer_6 : decode b_md_isOfficer 6 = .ok (.iload_n 0, 1) := by decide +kernel
theorem d_md_isOfficer_7 : decode b_md_isOfficer 7 = .ok (.bipush 82, 2) := by decide +kernel
theorem d_md_isOfficer_9 : decode b_md_isOfficer 9 = .ok (.if_icmp .eq 25, 3) := by decide +kernel
theorem d_md_isOfficer_12 : decode b_md_isOfficer 12 = .ok (.iload_n 0, 1) := by decide +kernel
theorem d_md_isOfficer_13 : decode b_md_isOfficer 13 = .ok (.bipush 66, 2) := by decide +kernel
theorem d_md_isOfficer_15 : decode b_md_isOfficer 15 = .ok (.if_icmp .eq 19, 3) := by decide +kernel
theorem d_md_isOfficer_18 : decode b_md_isOfficer 18 = .ok (.iload_n 0, 1) := by decide +kernel
theorem d_md_isOfficer_19 : decode b_md_isOfficer 19 = .ok (.bipush 78, 2) := by decide +kernel
theorem d_md_isOfficer_21 : decode b_md_isOfficer 21 = .ok (.if_icmp .eq 13, 3) := by decide +kernel
theorem d_md_isOfficer_24 : decode b_md_isOfficer 24 = .ok (.iload_n 1, 1) := by decide +kernel
theorem d_md_isOfficer_25 : decode b_md_isOfficer 25 = .ok (.ifCond .eq 13, 3) := by decide +kernel
theorem d_md_isOfficer_28 : decode b_md_isOfficer 28 = .ok (.iload_n 0, 1) := by decide +kernel
theorem d_md_isOfficer_29 : decode b_md_isOfficer 29 = .ok (.bipush 75, 2) := by decide +kernel
theorem d_md_isOfficer_31 : decode b_md_isOfficer 31 = .ok (.if_icmp .ne 7, 3) := by decide +kernel
theorem d_md_isOfficer_34 : decode b_md_isOfficer 34 = .ok (.iconst 1, 1) := by decide +kernel
theorem d_md_isOfficer_35 : decode b_md_isOfficer 35 = .ok (.goto 4, 3) := by decide +kernel
theorem d_md_isOfficer_38 : decode b_md_isOfficer 38 = .ok (.iconst 0, 1) := by decide +kernel
theorem d_md_isOfficer_39 : decode b_md_isOfficer 39 = .ok (.ireturn, 1) := by decide +kernel
theorem d_md_bare_0 : decode b_md_bare 0 = .ok (.aload_n 0, 1) := by decide +kernel
theorem d_md_bare_1 : decode b_md_bare 1 = .ok (.getfield 38, 3) := by decide +kernel
theorem d_md_bare_4 : decode b_md_bare 4 = .ok (.ifCond .le 44, 3) := by decide +kernel
theorem d_md_bare_7 : decode b_md_bare 7 = .ok (.aload_n 0, 1) := by decide +kernel
theorem d_md_bare_8 : decode b_md_bare 8 = .ok (.getfield 20, 3) := by decide +kernel
theorem d_md_bare_11 : decode b_md_bare 11 = .ok (.aload_n 0, 1) := by decide +kernel
theorem d_md_bare_12 : decode b_md_bare 12 = .ok (.getfield 38, 3) := by decide +kernel
theorem d_md_bare_15 : decode b_md_bare 15 = .ok (.iconst 1, 1) := by decide +kernel
theorem d_md_bare_16 : decode b_md_bare 16 = .ok (.isub, 1) := by decide +kernel
theorem d_md_bare_17 : decode b_md_bare 17 = .ok (.iaload, 1) := by decide +kernel
theorem d_md_bare_18 : decode b_md_bare 18 = .ok (.bipush 43, 2) := by decide +kernel
theorem d_md_bare_20 : decode b_md_bare 20 = .ok (.if_icmp .eq 19, 3) := by decide +kernel
theorem d_md_bare_23 : decode b_md_bare 23 = .ok (.aload_n 0, 1) := by decide +kernel
theorem d_md_bare_24 : decode b_md_bare 24 = .ok (.getfield 20, 3) := by decide +kernel
theorem d_md_bare_27 : decode b_md_bare 27 = .ok (.aload_n 0, 1) := by decide +kernel
theorem d_md_bare_28 : decode b_md_bare 28 = .ok (.getfield 38, 3) := by decide +kernel
theorem d_md_bare_31 : decode b_md_bare 31 = .ok (.iconst 1, 1) := by decide +kernel
theorem d_md_bare_32 : decode b_md_bare 32 = .ok (.isub, 1) := by decide +kernel
theorem d_md_bare_33 : decode b_md_bare 33 = .ok (.iaload, 1) := by decide +kernel
theorem d_md_bare_34 : decode b_md_bare 34 = .ok (.bipush 35, 2) := by decide +kernel
theorem d_md_bare_36 : decode b_md_bare 36 = .ok (.if_icmp .ne 12, 3) := by decide +kernel
theorem d_md_bare_39 : decode b_md_bare 39 = .ok (.aload_n 0, 1) := by decide +kernel
theorem d_md_bare_40 : decode b_md_bare 40 = .ok (.getfield 38, 3) := by decide +kernel
theorem d_md_bare_43 : decode b_md_bare 43 = .ok (.iconst 1, 1) := by decide +kernel
theorem d_md_bare_44 : decode b_md_bare 44 = .ok (.isub, 1) := by decide +kernel
theorem d_md_bare_45 : decode b_md_bare 45 = .ok (.goto 7, 3) := by decide +kernel
theorem d_md_bare_48 : decode b_md_bare 48 = .ok (.aload_n 0, 1) := by decide +kernel
theorem d_md_bare_49 : decode b_md_bare 49 = .ok (.getfield 38, 3) := by decide +kernel
theorem d_md_bare_52 : decode b_md_bare 52 = .ok (.ireturn, 1) := by decide +kernel
theorem d_md_form_0 : decode b_md_form 0 = .ok (.aload_n 0, 1) := by decide +kernel
theorem d_md_form_1 : decode b_md_form 1 = .ok (.invokevirtual 185, 3) := by decide +kernel
theorem d_md_form_4 : decode b_md_form 4 = .ok (.istore_n 1, 1) := by decide +kernel
theorem d_md_form_5 : decode b_md_form 5 = .ok (.iload_n 1, 1) := by decide +kernel
theorem d_md_form_6 : decode b_md_form 6 = .ok (.iconst 3, 1) := by decide +kernel
theorem d_md_form_7 : decode b_md_form 7 = .ok (.if_icmp .eq 8, 3) := by decide +kernel
theorem d_md_form_10 : decode b_md_form 10 = .ok (.iload_n 1, 1) := by decide +kernel
theorem d_md_form_11 : decode b_md_form 11 = .ok (.iconst 5, 1) := by decide +kernel
theorem d_md_form_12 : decode b_md_form 12 = .ok (.if_icmp .ne 65, 3) := by decide +kernel
theorem d_md_form_15 : decode b_md_form 15 = .ok (.iconst 1, 1) := by decide +kernel
theorem d_md_form_16 : decode b_md_form 16 = .ok (.istore_n 2, 1) := by decide +kernel
theorem d_md_form_17 : decode b_md_form 17 = .ok (.iconst 0, 1) := by decide +kernel
theorem d_md_form_18 : decode b_md_form 18 = .ok (.istore_n 3, 1) := by decide +kernel
theorem d_md_form_19 : decode b_md_form 19 = .ok (.iload_n 3, 1) := by decide +kernel
theorem d_md_form_20 : decode b_md_form 20 = .ok (.iload_n 1, 1) := by decide +kernel
theorem d_md_form_21 : decode b_md_form 21 = .ok (.if_icmp .ge 41, 3) := by decide +kernel
theorem d_md_form_24 : decode b_md_form 24 = .ok (.iload_n 2, 1) := by decide +kernel
theorem d_md_form_25 : decode b_md_form 25 = .ok (.ifCond .eq 29, 3) := by decide +kernel
theorem d_md_form_28 : decode b_md_form 28 = .ok (.aload_n 0, 1) := by decide +kernel
theorem d_md_form_29 : decode b_md_form 29 = .ok (.getfield 20, 3) := by decide +kernel
theorem d_md_form_32 : decode b_md_form 32 = .ok (.iload_n 3, 1) := by decide +kernel
theorem d_md_form_33 : decode b_md_form 33 = .ok (.iaload, 1) := by decide +kernel
theorem d_md_form_34 : decode b_md_form 34 = .ok (.iload_n 3, 1) := by decide +kernel
theorem d_md_form_35 : decode b_md_form 35 = .ok (.iconst 2, 1) := by decide +kernel
theorem d_md_form_36 : decode b_md_form 36 = .ok (.irem, 1) := by decide +kernel
theorem d_md_form_37 : decode b_md_form 37 = .ok (.ifCond .ne 8, 3) := by decide +kernel
theorem d_md_form_40 : decode b_md_form 40 = .ok (.bipush 48, 2) := by decide +kernel
theorem d_md_form_42 : decode b_md_form 42 = .ok (.goto 5, 3) := by decide +kernel
theorem d_md_form_45 : decode b_md_form 45 = .ok (.bipush 45, 2) := by decide +kernel
theorem d_md_form_47 : decode b_md_form 47 = .ok (.if_icmp .ne 7, 3) := by decide +kernel
theorem d_md_form_50 : decode b_md_form 50 = .ok (.iconst 1, 1) := by decide +kernel
theorem d_md_form_51 : decode b_md_form 51 = .ok (.goto 4, 3) := by decide +kernel
theorem d_md_form_54 : decode b_md_form 54 = .ok (.iconst 0, 1) := by decide +kernel
theorem d_md_form_55 : decode b_md_form 55 = .ok (.istore_n 2, 1) := by decide +kernel
theorem d_md_form_56 : decode b_md_form 56 = .ok (.iinc 3 1, 3) := by decide +kernel
theorem d_md_form_59 : decode b_md_form 59 = .ok (.goto (-40), 3) := by decide +kernel
theorem d_md_form_62 : decode b_md_form 62 = .ok (.iload_n 2, 1) := by decide +kernel
theorem d_md_form_63 : decode b_md_form 63 = .ok (.ifCond .eq 14, 3) := by decide +kernel
theorem d_md_form_66 : decode b_md_form 66 = .ok (.iload_n 1, 1) := by decide +kernel
theorem d_md_form_67 : decode b_md_form 67 = .ok (.iconst 3, 1) := by decide +kernel
theorem d_md_form_68 : decode b_md_form 68 = .ok (.if_icmp .ne 7, 3) := by decide +kernel
theorem d_md_form_71 : decode b_md_form 71 = .ok (.iconst 1, 1) := by decide +kernel
theorem d_md_form_72 : decode b_md_form 72 = .ok (.goto 4, 3) := by decide +kernel
theorem d_md_form_75 : decode b_md_form 75 = .ok (.iconst 2, 1) := by decide +kernel
theorem d_md_form_76 : decode b_md_form 76 = .ok (.ireturn, 1) := by decide +kernel
theorem d_md_form_77 : decode b_md_form 77 = .ok (.iload_n 1, 1) := by decide +kernel
theorem d_md_form_78 : decode b_md_form 78 = .ok (.ifCond .le 30, 3) := by decide +kernel
theorem d_md_form_81 : decode b_md_form 81 = .ok (.aload_n 0, 1) := by decide +kernel
theorem d_md_form_82 : decode b_md_form 82 = .ok (.getfield 20, 3) := by decide +kernel
theorem d_md_form_85 : decode b_md_form 85 = .ok (.iconst 0, 1) := by decide +kernel
theorem d_md_form_86 : decode b_md_form 86 = .ok (.iaload, 1) := by decide +kernel
theorem d_md_form_87 : decode b_md_form 87 = .ok (.iconst 1, 1) := by decide +kernel
theorem d_md_form_88 : decode b_md_form 88 = .ok (.invokestatic 188, 3) := by decide +kernel
theorem d_md_form_91 : decode b_md_form 91 = .ok (.ifCond .eq 17, 3) := by decide +kernel
theorem d_md_form_94 : decode b_md_form 94 = .ok (.aload_n 0, 1) := by decide +kernel
theorem d_md_form_95 : decode b_md_form 95 = .ok (.iload_n 1, 1) := by decide +kernel
theorem d_md_form_96 : decode b_md_form 96 = .ok (.invokevirtual 192, 3) := by decide +kernel
theorem d_md_form_99 : decode b_md_form 99 = .ok (.ifCond .eq 7, 3) := by decide +kernel
theorem d_md_form_102 : decode b_md_form 102 = .ok (.iconst 3, 1) := by decide +kernel
theorem d_md_form_103 : decode b_md_form 103 = .ok (.goto 4, 3) := by decide +kernel
theorem d_md_form_106 : decode b_md_form 106 = .ok (.iconst 0, 1) := by decide +kernel
theorem d_md_form_107 : decode b_md_form 107 = .ok (.ireturn, 1) := by decide +kernel
theorem d_md_form_108 : decode b_md_form 108 = .ok (.aload_n 0, 1) := by decide +kernel
theorem d_md_form_109 : decode b_md_form 109 = .ok (.iload_n 1, 1) := by decide +kernel
theorem d_md_form_110 : decode b_md_form 110 = .ok (.invokevirtual 195, 3) := by decide +kernel
theorem d_md_form_113 : decode b_md_form 113 = .ok (.ifCond .eq 7, 3) := by decide +kernel
theorem d_md_form_116 : decode b_md_form 116 = .ok (.iconst 4, 1) := by decide +kernel
theorem d_md_form_117 : decode b_md_form 117 = .ok (.goto 4, 3) := by decide +kernel
theorem d_md_form_120 : decode b_md_form 120 = .ok (.iconst 0, 1) := by decide +kernel
theorem d_md_form_121 : decode b_md_form 121 = .ok (.ireturn, 1) := by decide +kernel
theorem d_md_isOfficerForm_0 : decode b_md_isOfficerForm 0 = .ok (.aload_n 0, 1) := by decide +kernel
theorem d_md_isOfficerForm_1 : decode b_md_isOfficerForm 1 = .ok (.iload_n 1, 1) := by decide +kernel
theorem d_md_isOfficerForm_2 : decode b_md_isOfficerForm 2 = .ok (.iconst 2, 1) := by decide +kernel
theorem d_md_isOfficerForm_3 : decode b_md_isOfficerForm 3 = .ok (.isub, 1) := by decide +kernel
theorem d_md_isOfficerForm_4 : decode b_md_isOfficerForm 4 = .ok (.putfield 43, 3) := by decide +kernel
theorem d_md_isOfficerForm_7 : decode b_md_isOfficerForm 7 = .ok (.iload_n 1, 1) := by decide +kernel
theorem d_md_isOfficerForm_8 : decode b_md_isOfficerForm 8 = .ok (.iconst 3, 1) := by decide +kernel
theorem d_md_isOfficerForm_9 : decode b_md_isOfficerForm 9 = .ok (.if_icmp .lt 10, 3) := by decide +kernel
theorem d_md_isOfficerForm_12 : decode b_md_isOfficerForm 12 = .ok (.aload_n 0, 1) := by decide +kernel
theorem d_md_isOfficerForm_13 : decode b_md_isOfficerForm 13 = .ok (.invokevirtual 198, 3) := by decide +kernel
theorem d_md_isOfficerForm_16 : decode b_md_isOfficerForm 16 = .ok (.ifCond .ne 5, 3) := by decide +kernel
theorem d_md_isOfficerForm_19 : decode b_md_isOfficerForm 19 = .ok (.iconst 0, 1) := by decide +kernel
theorem d_md_isOfficerForm_20 : decode b_md_isOfficerForm 20 = .ok (.ireturn, 1) := by decide +kernel
theorem d_md_isOfficerForm_21 : decode b_md_isOfficerForm 21 = .ok (.aload_n 0, 1) := by decide +kernel
theorem d_md_isOfficerForm_22 : decode b_md_isOfficerForm 22 = .ok (.iload_n 1, 1) := by decide +kernel
theorem d_md_isOfficerForm_23 : decode b_md_isOfficerForm 23 = .ok (.iconst 1, 1) := by decide +kernel
theorem d_md_isOfficerForm_24 : decode b_md_isOfficerForm 24 = .ok (.isub, 1) := by decide +kernel
theorem d_md_isOfficerForm_25 : decode b_md_isOfficerForm 25 = .ok (.putfield 43, 3) := by decide +kernel
theorem d_md_isOfficerForm_28 : decode b_md_isOfficerForm 28 = .ok (.aload_n 0, 1) := by decide +kernel
theorem d_md_isOfficerForm_29 : decode b_md_isOfficerForm 29 = .ok (.invokevirtual 201, 3) := by decide +kernel
theorem d_md_isOfficerForm_32 : decode b_md_isOfficerForm 32 = .ok (.ifCond .ne 5, 3) := by decide +kernel
theorem d_md_isOfficerForm_35 : decode b_md_isOfficerForm 35 = .ok (.iconst 0, 1) := by decide +kernel
theorem d_md_isOfficerForm_36 : decode b_md_isOfficerForm 36 = .ok (.ireturn, 1) := by decide +kernel
theorem d_md_isOfficerForm_37 : decode b_md_isOfficerForm 37 = .ok (.aload_n 0, 1) := by decide +kernel
theorem d_md_isOfficerForm_38 : decode b_md_isOfficerForm 38 = .ok (.iconst 1, 1) := by decide +kernel
theorem d_md_isOfficerForm_39 : decode b_md_isOfficerForm 39 = .ok (.putfield 43, 3) := by decide +kernel
theorem d_md_isOfficerForm_42 : decode b_md_isOfficerForm 42 = .ok (.iload_n 1, 1) := by decide +kernel
theorem d_md_isOfficerForm_43 : decode b_md_isOfficerForm 43 = .ok (.iconst 2, 1) := by decide +kernel
theorem d_md_isOfficerForm_44 : decode b_md_isOfficerForm 44 = .ok (.isub, 1) := by decide +kernel
theorem d_md_isOfficerForm_45 : decode b_md_isOfficerForm 45 = .ok (.istore_n 2, 1) := by decide +kernel
theorem d_md_isOfficerForm_46 : decode b_md_isOfficerForm 46 = .ok (.aload_n 0, 1) := by decide +kernel
theorem d_md_isOfficerForm_47 : decode b_md_isOfficerForm 47 = .ok (.getfield 43, 3) := by decide +kernel
theorem d_md_isOfficerForm_50 : decode b_md_isOfficerForm 50 = .ok (.iload_n 2, 1) := by decide +kernel
theorem d_md_isOfficerForm_51 : decode b_md_isOfficerForm 51 = .ok (.if_icmp .ge 20, 3) := by decide +kernel
theorem d_md_isOfficerForm_54 : decode b_md_isOfficerForm 54 = .ok (.aload_n 0, 1) := by decide +kernel
theorem d_md_isOfficerForm_55 : decode b_md_isOfficerForm 55 = .ok (.invokevirtual 198, 3) := by decide +kernel
theorem d_md_isOfficerForm_58 : decode b_md_isOfficerForm 58 = .ok (.ifCond .eq 13, 3) := by decide +kernel
theorem d_md_isOfficerForm_61 : decode b_md_isOfficerForm 61 = .ok (.aload_n 0, 1) := by decide +kernel
theorem d_md_isOfficerForm_62 : decode b_md_isOfficerForm 62 = .ok (.dup, 1) := by decide +kernel
theorem d_md_isOfficerForm_63 : decode b_md_isOfficerForm 63 = .ok (.getfield 43, 3) := by decide +kernel
theorem d_md_isOfficerForm_66 : decode b_md_isOfficerForm 66 = .ok (.iconst 1, 1) := by decide +kernel
theorem d_md_isOfficerForm_67 : decode b_md_isOfficerForm 67 = .ok (.iadd, 1) := by decide +kernel
theorem d_md_isOfficerForm_68 : decode b_md_isOfficerForm 68 = .ok (.putfield 43, 3) := by decide +kernel
theorem d_md_isOfficerForm_71 : decode b_md_isOfficerForm 71 = .ok (.aload_n 0, 1) := by decide +kernel
theorem d_md_isOfficerForm_72 : decode b_md_isOfficerForm 72 = .ok (.getfield 43, 3) := by decide +kernel
theorem d_md_isOfficerForm_75 : decode b_md_isOfficerForm 75 = .ok (.iload_n 2, 1) := by decide +kernel
theorem d_md_isOfficerForm_76 : decode b_md_isOfficerForm 76 = .ok (.if_icmp .ge 20, 3) := by decide +kernel
theorem d_md_isOfficerForm_79 : decode b_md_isOfficerForm 79 = .ok (.aload_n 0, 1) := by decide +kernel
theorem d_md_isOfficerForm_80 : decode b_md_isOfficerForm 80 = .ok (.invokevirtual 201, 3) := by decide +kernel
theorem d_md_isOfficerForm_83 : decode b_md_isOfficerForm 83 = .ok (.ifCond .eq 13, 3) := by decide +kernel
theorem d_md_isOfficerForm_86 : decode b_md_isOfficerForm 86 = .ok (.aload_n 0, 1) := by decide +kernel
theorem d_md_isOfficerForm_87 : decode b_md_isOfficerForm 87 = .ok (.dup, 1) := by decide +kernel
theorem d_md_isOfficerForm_88 : decode b_md_isOfficerForm 88 = .ok (.getfield 43, 3) := by decide +kernel
theorem d_md_isOfficerForm_91 : decode b_md_isOfficerForm 91 = .ok (.iconst 1, 1) := by decide +kernel
theorem d_md_isOfficerForm_92 : decode b_md_isOfficerForm 92 = .ok (.iadd, 1) := by decide +kernel
theorem d_md_isOfficerForm_93 : decode b_md_isOfficerForm 93 = .ok (.putfield 43, 3) := by decide +kernel
theorem d_md_isOfficerForm_96 : decode b_md_isOfficerForm 96 = .ok (.aload_n 0, 1) := by decide +kernel
theorem d_md_isOfficerForm_97 : decode b_md_isOfficerForm 97 = .ok (.getfield 43, 3) := by decide +kernel
theorem d_md_isOfficerForm_100 : decode b_md_isOfficerForm 100 = .ok (.iload_n 2, 1) := by decide +kernel
theorem d_md_isOfficerForm_101 : decode b_md_isOfficerForm 101 = .ok (.if_icmp .ge 22, 3) := by decide +kernel
theorem d_md_isOfficerForm_104 : decode b_md_isOfficerForm 104 = .ok (.aload_n 0, 1) := by decide +kernel
theorem d_md_isOfficerForm_105 : decode b_md_isOfficerForm 105 = .ok (.invokevirtual 46, 3) := by decide +kernel
theorem d_md_isOfficerForm_108 : decode b_md_isOfficerForm 108 = .ok (.bipush 120, 2) := by decide +kernel
theorem d_md_isOfficerForm_110 : decode b_md_isOfficerForm 110 = .ok (.if_icmp .ne 13, 3) := by decide +kernel
theorem d_md_isOfficerForm_113 : decode b_md_isOfficerForm 113 = .ok (.aload_n 0, 1) := by decide +kernel
theorem d_md_isOfficerForm_114 : decode b_md_isOfficerForm 114 = .ok (.dup, 1) := by decide +kernel
theorem d_md_isOfficerForm_115 : decode b_md_isOfficerForm 115 = .ok (.getfield 43, 3) := by decide +kernel
theorem d_md_isOfficerForm_118 : decode b_md_isOfficerForm 118 = .ok (.iconst 1, 1) := by decide +kernel
theorem d_md_isOfficerForm_119 : decode b_md_isOfficerForm 119 = .ok (.iadd, 1) := by decide +kernel
theorem d_md_isOfficerForm_120 : decode b_md_isOfficerForm 120 = .ok (.putfield 43, 3) := by decide +kernel
theorem d_md_isOfficerForm_123 : decode b_md_isOfficerForm 123 = .ok (.aload_n 0, 1) := by decide +kernel
theorem d_md_isOfficerForm_124 : decode b_md_isOfficerForm 124 = .ok (.getfield 43, 3) := by decide +kernel
theorem d_md_isOfficerForm_127 : decode b_md_isOfficerForm 127 = .ok (.iload_n 2, 1) := by decide +kernel
theorem d_md_isOfficerForm_128 : decode b_md_isOfficerForm 128 = .ok (.if_icmp .ne 7, 3) := by decide +kernel
theorem d_md_isOfficerForm_131 : decode b_md_isOfficerForm 131 = .ok (.iconst 1, 1) := by decide +kernel
theorem d_md_isOfficerForm_132 : decode b_md_isOfficerForm 132 = .ok (.goto 4, 3) := by decide +kernel
theorem d_md_isOfficerForm_135 : decode b_md_isOfficerForm 135 = .ok (.iconst 0, 1) := by decide +kernel
theorem d_md_isOfficerForm_136 : decode b_md_isOfficerForm 136 = .ok (.ireturn, 1) := by decide +kernel
theorem d_md_isPawnForm_0 : decode b_md_isPawnForm 0 = .ok (.aload_n 0, 1) := by decide +kernel
theorem d_md_isPawnForm_1 : decode b_md_isPawnForm 1 = .ok (.iconst 0, 1) := by decide +kernel
theorem d_md_isPawnForm_2 : decode b_md_isPawnForm 2 = .ok (.putfield 43, 3) := by decide +kernel
theorem d_md_isPawnForm_5 : decode b_md_isPawnForm 5 = .ok (.iload_n 1, 1) := by decide +kernel
theorem d_md_isPawnForm_6 : decode b_md_isPawnForm 6 = .ok (.iconst 1, 1) := by decide +kernel
theorem d_md_isPawnForm_7 : decode b_md_isPawnForm 7 = .ok (.if_icmp .le 28, 3) := by decide +kernel
theorem d_md_isPawnForm_10 : decode b_md_isPawnForm 10 = .ok (.aload_n 0, 1) := by decide +kernel
theorem d_md_isPawnForm_11 : decode b_md_isPawnForm 11 = .ok (.getfield 20, 3) := by decide +kernel
theorem d_md_isPawnForm_14 : decode b_md_isPawnForm 14 = .ok (.iconst 1, 1) := by decide +kernel
theorem d_md_isPawnForm_15 : decode b_md_isPawnForm 15 = .ok (.iaload, 1) := by decide +kernel
theorem d_md_isPawnForm_16 : decode b_md_isPawnForm 16 = .ok (.bipush 120, 2) := by decide +kernel
theorem d_md_isPawnForm_18 : decode b_md_isPawnForm 18 = .ok (.if_icmp .ne 17, 3) := by decide +kernel
theorem d_md_isPawnForm_21 : decode b_md_isPawnForm 21 = .ok (.aload_n 0, 1) := by decide +kernel
theorem d_md_isPawnForm_22 : decode b_md_isPawnForm 22 = .ok (.invokevirtual 198, 3) := by decide +kernel
theorem d_md_isPawnForm_25 : decode b_md_isPawnForm 25 = .ok (.ifCond .ne 5, 3) := by decide +kernel
theorem d_md_isPawnForm_28 : decode b_md_isPawnForm 28 = .ok (.iconst 0, 1) := by decide +kernel
theorem d_md_isPawnForm_29 : decode b_md_isPawnForm 29 = .ok (.ireturn, 1) := by decide +kernel
theorem d_md_isPawnForm_30 : decode b_md_isPawnForm 30 = .ok (.aload_n 0, 1) := by decide +kernel
theorem d_md_isPawnForm_31 : decode b_md_isPawnForm 31 = .ok (.iconst 2, 1) := by decide +kernel
theorem d_md_isPawnForm_32 : decode b_md_isPawnForm 32 = .ok (.putfield 43, 3) := by decide +kernel
theorem d_md_isPawnForm_35 : decode b_md_isPawnForm 35 = .ok (.aload_n 0, 1) := by decide +kernel
theorem d_md_isPawnForm_36 : decode b_md_isPawnForm 36 = .ok (.getfield 43, 3) := by decide +kernel
theorem d_md_isPawnForm_39 : decode b_md_isPawnForm 39 = .ok (.iload_n 1, 1) := by decide +kernel
theorem d_md_isPawnForm_40 : decode b_md_isPawnForm 40 = .ok (.if_icmp .ge 10, 3) := by decide +kernel
theorem d_md_isPawnForm_43 : decode b_md_isPawnForm 43 = .ok (.aload_n 0, 1) := by decide +kernel
theorem d_md_isPawnForm_44 : decode b_md_isPawnForm 44 = .ok (.invokevirtual 198, 3) := by decide +kernel
theorem d_md_isPawnForm_47 : decode b_md_isPawnForm 47 = .ok (.ifCond .ne 5, 3) := by decide +kernel
theorem d_md_isPawnForm_50 : decode b_md_isPawnForm 50 = .ok (.iconst 0, 1) := by decide +kernel
theorem d_md_isPawnForm_51 : decode b_md_isPawnForm 51 = .ok (.ireturn, 1) := by decide +kernel
theorem d_md_isPawnForm_52 : decode b_md_isPawnForm 52 = .ok (.aload_n 0, 1) := by decide +kernel
theorem d_md_isPawnForm_53 : decode b_md_isPawnForm 53 = .ok (.dup, 1) := by decide +kernel
theorem d_md_isPawnForm_54 : decode b_md_isPawnForm 54 = .ok (.getfield 43, 3) := by decide +kernel
theorem d_md_isPawnForm_57 : decode b_md_isPawnForm 57 = .ok (.iconst 1, 1) := by decide +kernel
theorem d_md_isPawnForm_58 : decode b_md_isPawnForm 58 = .ok (.iadd, 1) := by decide +kernel
theorem d_md_isPawnForm_59 : decode b_md_isPawnForm 59 = .ok (.putfield 43, 3) := by decide +kernel
theorem d_md_isPawnForm_62 : decode b_md_isPawnForm 62 = .ok (.aload_n 0, 1) := by decide +kernel
theorem d_md_isPawnForm_63 : decode b_md_isPawnForm 63 = .ok (.getfield 43, 3) := by decide +kernel
theorem d_md_isPawnForm_66 : decode b_md_isPawnForm 66 = .ok (.iload_n 1, 1) := by decide +kernel
theorem d_md_isPawnForm_67 : decode b_md_isPawnForm 67 = .ok (.if_icmp .ge 10, 3) := by decide +kernel
theorem d_md_isPawnForm_70 : decode b_md_isPawnForm 70 = .ok (.aload_n 0, 1) := by decide +kernel
theorem d_md_isPawnForm_71 : decode b_md_isPawnForm 71 = .ok (.invokevirtual 201, 3) := by decide +kernel
theorem d_md_isPawnForm_74 : decode b_md_isPawnForm 74 = .ok (.ifCond .ne 5, 3) := by decide +kernel
theorem d_md_isPawnForm_77 : decode b_md_isPawnForm 77 = .ok (.iconst 0, 1) := by decide +kernel
theorem d_md_isPawnForm_78 : decode b_md_isPawnForm 78 = .ok (.ireturn, 1) := by decide +kernel
theorem d_md_isPawnForm_79 : decode b_md_isPawnForm 79 = .ok (.aload_n 0, 1) := by decide +kernel
theorem d_md_isPawnForm_80 : decode b_md_isPawnForm 80 = .ok (.dup, 1) := by decide +kernel
theorem d_md_isPawnForm_81 : decode b_md_isPawnForm 81 = .ok (.getfield 43, 3) := by decide +kernel
theorem d_md_isPawnForm_84 : decode b_md_isPawnForm 84 = .ok (.iconst 1, 1) := by decide +kernel
theorem d_md_isPawnForm_85 : decode b_md_isPawnForm 85 = .ok (.iadd, 1) := by decide +kernel
theorem d_md_isPawnForm_86 : decode b_md_isPawnForm 86 = .ok (.putfield 43, 3) := by decide +kernel
theorem d_md_isPawnForm_89 : decode b_md_isPawnForm 89 = .ok (.aload_n 0, 1) := by decide +kernel
theorem d_md_isPawnForm_90 : decode b_md_isPawnForm 90 = .ok (.getfield 43, 3) := by decide +kernel
theorem d_md_isPawnForm_93 : decode b_md_isPawnForm 93 = .ok (.iload_n 1, 1) := by decide +kernel
theorem d_md_isPawnForm_94 : decode b_md_isPawnForm 94 = .ok (.if_icmp .ge 24, 3) := by decide +kernel
theorem d_md_isPawnForm_97 : decode b_md_isPawnForm 97 = .ok (.aload_n 0, 1) := by decide +kernel
theorem d_md_isPawnForm_98 : decode b_md_isPawnForm 98 = .ok (.invokevirtual 46, 3) := by decide +kernel
theorem d_md_isPawnForm_101 : decode b_md_isPawnForm 101 = .ok (.iconst 0, 1) := by decide +kernel
theorem d_md_isPawnForm_102 : decode b_md_isPawnForm 102 = .ok (.invokestatic 188, 3) := by decide +kernel
theorem d_md_isPawnForm_105 : decode b_md_isPawnForm 105 = .ok (.ifCond .eq 13, 3) := by decide +kernel
theorem d_md_isPawnForm_108 : decode b_md_isPawnForm 108 = .ok (.aload_n 0, 1) := by decide +kernel
theorem d_md_isPawnForm_109 : decode b_md_isPawnForm 109 = .ok (.dup, 1) := by decide +kernel
theorem d_md_isPawnForm_110 : decode b_md_isPawnForm 110 = .ok (.getfield 43, 3) := by decide +kernel
theorem d_md_isPawnForm_113 : decode b_md_isPawnForm 113 = .ok (.iconst 1, 1) := by decide +kernel
theorem d_md_isPawnForm_114 : decode b_md_isPawnForm 114 = .ok (.iadd, 1) := by decide +kernel
theorem d_md_isPawnForm_115 : decode b_md_isPawnForm 115 = .ok (.putfield 43, 3) := by decide +kernel
theorem d_md_isPawnForm_118 : decode b_md_isPawnForm 118 = .ok (.aload_n 0, 1) := by decide +kernel
theorem d_md_isPawnForm_119 : decode b_md_isPawnForm 119 = .ok (.getfield 43, 3) := by decide +kernel
theorem d_md_isPawnForm_122 : decode b_md_isPawnForm 122 = .ok (.iload_n 1, 1) := by decide +kernel
theorem d_md_isPawnForm_123 : decode b_md_isPawnForm 123 = .ok (.if_icmp .ne 7, 3) := by decide +kernel
theorem d_md_isPawnForm_126 : decode b_md_isPawnForm 126 = .ok (.iconst 1, 1) := by decide +kernel
theorem d_md_isPawnForm_127 : decode b_md_isPawnForm 127 = .ok (.goto 4, 3) := by decide +kernel
theorem d_md_isPawnForm_130 : decode b_md_isPawnForm 130 = .ok (.iconst 0, 1) := by decide +kernel
theorem d_md_isPawnForm_131 : decode b_md_isPawnForm 131 = .ok (.ireturn, 1) := by decide +kernel
theorem d_md_isLike_0 : decode b_md_isLike 0 = .ok (.iload_n 2, 1) := by decide +kernel
theorem d_md_isLike_1 : decode b_md_isLike 1 = .ok (.iconst 3, 1) := by decide +kernel
theorem d_md_isLike_2 : decode b_md_isLike 2 = .ok (.if_icmp .lt 11, 3) := by decide +kernel
theorem d_md_isLike_5 : decode b_md_isLike 5 = .ok (.aload_n 0, 1) := by decide +kernel
theorem d_md_isLike_6 : decode b_md_isLike 6 = .ok (.iload_n 1, 1) := by decide +kernel
theorem d_md_isLike_7 : decode b_md_isLike 7 = .ok (.invokevirtual 167, 3) := by decide +kernel
theorem d_md_isLike_10 : decode b_md_isLike 10 = .ok (.ifCond .le 18, 3) := by decide +kernel
theorem d_md_isLike_13 : decode b_md_isLike 13 = .ok (.aload_n 0, 1) := by decide +kernel
theorem d_md_isLike_14 : decode b_md_isLike 14 = .ok (.iload_n 1, 1) := by decide +kernel
theorem d_md_isLike_15 : decode b_md_isLike 15 = .ok (.invokevirtual 167, 3) := by decide +kernel
theorem d_md_isLike_18 : decode b_md_isLike 18 = .ok (.iload_n 2, 1) := by decide +kernel
theorem d_md_isLike_19 : decode b_md_isLike 19 = .ok (.if_icmp .ne 7, 3) := by decide +kernel
theorem d_md_isLike_22 : decode b_md_isLike 22 = .ok (.iconst 1, 1) := by decide +kernel
theorem d_md_isLike_23 : decode b_md_isLike 23 = .ok (.goto 4, 3) := by decide +kernel
theorem d_md_isLike_26 : decode b_md_isLike 26 = .ok (.iconst 0, 1) := by decide +kernel
theorem d_md_isLike_27 : decode b_md_isLike 27 = .ok (.ireturn, 1) := by decide +kernel
theorem d_md_isLike_28 : decode b_md_isLike 28 = .ok (.aload_n 0, 1) := by decide +kernel
theorem d_md_isLike_29 : decode b_md_isLike 29 = .ok (.invokevirtual 185, 3) := by decide +kernel
theorem d_md_isLike_32 : decode b_md_isLike 32 = .ok (.istore_n 3, 1) := by decide +kernel
theorem d_md_isLike_33 : decode b_md_isLike 33 = .ok (.aload_n 0, 1) := by decide +kernel
theorem d_md_isLike_34 : decode b_md_isLike 34 = .ok (.getfield 7, 3) := by decide +kernel
theorem d_md_isLike_37 : decode b_md_isLike 37 = .ok (.iload_n 1, 1) := by decide +kernel
theorem d_md_isLike_38 : decode b_md_isLike 38 = .ok (.invokestatic 146, 3) := by decide +kernel
theorem d_md_isLike_41 : decode b_md_isLike 41 = .ok (.iaload, 1) := by decide +kernel
theorem d_md_isLike_42 : decode b_md_isLike 42 = .ok (.istore 4, 2) := by decide +kernel
theorem d_md_isLike_44 : decode b_md_isLike 44 = .ok (.iload 4, 2) := by decide +kernel
theorem d_md_isLike_46 : decode b_md_isLike 46 = .ok (.bipush 6, 2) := by decide +kernel
theorem d_md_isLike_48 : decode b_md_isLike 48 = .ok (.if_icmp .le 11, 3) := by decide +kernel
theorem d_md_isLike_51 : decode b_md_isLike 51 = .ok (.iload 4, 2) := by decide +kernel
theorem d_md_isLike_53 : decode b_md_isLike 53 = .ok (.bipush 6, 2) := by decide +kernel
theorem d_md_isLike_55 : decode b_md_isLike 55 = .ok (.isub, 1) := by decide +kernel
theorem d_md_isLike_56 : decode b_md_isLike 56 = .ok (.goto 5, 3) := by decide +kernel
theorem d_md_isLike_59 : decode b_md_isLike 59 = .ok (.iload 4, 2) := by decide +kernel
theorem d_md_isLike_61 : decode b_md_isLike 61 = .ok (.istore 5, 2) := by decide +kernel
theorem d_md_isLike_63 : decode b_md_isLike 63 = .ok (.iload_n 2, 1) := by decide +kernel
theorem d_md_isLike_64 : decode b_md_isLike 64 = .ok (.iconst 3, 1) := by decide +kernel
theorem d_md_isLike_65 : decode b_md_isLike 65 = .ok (.if_icmp .ne 62, 3) := by decide +kernel
theorem d_md_isLike_68 : decode b_md_isLike 68 = .ok (.iload 5, 2) := by decide +kernel
theorem d_md_isLike_70 : decode b_md_isLike 70 = .ok (.invokestatic 50, 3) := by decide +kernel
theorem d_md_isLike_73 : decode b_md_isLike 73 = .ok (.aload_n 0, 1) := by decide +kernel
theorem d_md_isLike_74 : decode b_md_isLike 74 = .ok (.getfield 20, 3) := by decide +kernel
theorem d_md_isLike_77 : decode b_md_isLike 77 = .ok (.iconst 0, 1) := by decide +kernel
theorem d_md_isLike_78 : decode b_md_isLike 78 = .ok (.iaload, 1) := by decide +kernel
theorem d_md_isLike_79 : decode b_md_isLike 79 = .ok (.if_icmp .ne 46, 3) := by decide +kernel
theorem d_md_isLike_82 : decode b_md_isLike 82 = .ok (.iload 5, 2) := by decide +kernel
theorem d_md_isLike_84 : decode b_md_isLike 84 = .ok (.iconst 1, 1) := by decide +kernel
theorem d_md_isLike_85 : decode b_md_isLike 85 = .ok (.if_icmp .eq 40, 3) := by decide +kernel
theorem d_md_isLike_88 : decode b_md_isLike 88 = .ok (.iload_n 1, 1) := by decide +kernel
theorem d_md_isLike_89 : decode b_md_isLike 89 = .ok (.invokestatic 149, 3) := by decide +kernel
theorem d_md_isLike_92 : decode b_md_isLike 92 = .ok (.aload_n 0, 1) := by decide +kernel
theorem d_md_isLike_93 : decode b_md_isLike 93 = .ok (.getfield 20, 3) := by decide +kernel
theorem d_md_isLike_96 : decode b_md_isLike 96 = .ok (.iload_n 3, 1) := by decide +kernel
theorem d_md_isLike_97 : decode b_md_isLike 97 = .ok (.iconst 2, 1) := by decide +kernel
theorem d_md_isLike_98 : decode b_md_isLike 98 = .ok (.isub, 1) := by decide +kernel
theorem d_md_isLike_99 : decode b_md_isLike 99 = .ok (.iaload, 1) := by decide +kernel
theorem d_md_isLike_100 : decode b_md_isLike 100 = .ok (.bipush 97, 2) := by decide +kernel
theorem d_md_isLike_102 : decode b_md_isLike 102 = .ok (.isub, 1) := by decide +kernel
theorem d_md_isLike_103 : decode b_md_isLike 103 = .ok (.bipush 8, 2) := by decide +kernel
theorem d_md_isLike_105 : decode b_md_isLike 105 = .ok (.aload_n 0, 1) := by decide +kernel
theorem d_md_isLike_106 : decode b_md_isLike 106 = .ok (.getfield 20, 3) := by decide +kernel
theorem d_md_isLike_109 : decode b_md_isLike 109 = .ok (.iload_n 3, 1) := by decide +kernel
theorem d_md_isLike_110 : decode b_md_isLike 110 = .ok (.iconst 1, 1) := by decide +kernel
theorem d_md_isLike_111 : decode b_md_isLike 111 = .ok (.isub, 1) := by decide +kernel
theorem d_md_isLike_112 : decode b_md_isLike 112 = .ok (.iaload, 1) := by decide +kernel
theorem d_md_isLike_113 : decode b_md_isLike 113 = .ok (.bipush 49, 2) := by decide +kernel
theorem d_md_isLike_115 : decode b_md_isLike 115 = .ok (.isub, 1) := by decide +kernel
theorem d_md_isLike_116 : decode b_md_isLike 116 = .ok (.imul, 1) := by decide +kernel
theorem d_md_isLike_117 : decode b_md_isLike 117 = .ok (.iadd, 1) := by decide +kernel
theorem d_md_isLike_118 : decode b_md_isLike 118 = .ok (.if_icmp .ne 7, 3) := by decide +kernel
theorem d_md_isLike_121 : decode b_md_isLike 121 = .ok (.iconst 1, 1) := by decide +kernel
theorem d_md_isLike_122 : decode b_md_isLike 122 = .ok (.goto 4, 3) := by decide +kernel
theorem d_md_isLike_125 : decode b_md_isLike 125 = .ok (.iconst 0, 1) := by decide +kernel
theorem d_md_isLike_126 : decode b_md_isLike 126 = .ok (.ireturn, 1) := by decide +kernel
theorem d_md_isLike_127 : decode b_md_isLike 127 = .ok (.aload_n 0, 1) := by decide +kernel
theorem d_md_isLike_128 : decode b_md_isLike 128 = .ok (.getfield 20, 3) := by decide +kernel
theorem d_md_isLike_131 : decode b_md_isLike 131 = .ok (.iload_n 3, 1) := by decide +kernel
theorem d_md_isLike_132 : decode b_md_isLike 132 = .ok (.iconst 1, 1) := by decide +kernel
theorem d_md_isLike_133 : decode b_md_isLike 133 = .ok (.isub, 1) := by decide +kernel
theorem d_md_isLike_134 : decode b_md_isLike 134 = .ok (.iaload, 1) := by decide +kernel
theorem d_md_isLike_135 : decode b_md_isLike 135 = .ok (.iconst 0, 1) := by decide +kernel
theorem d_md_isLike_136 : decode b_md_isLike 136 = .ok (.invokestatic 188, 3) := by decide +kernel
theorem d_md_isLike_139 : decode b_md_isLike 139 = .ok (.istore 6, 2) := by decide +kernel
theorem d_md_isLike_141 : decode b_md_isLike 141 = .ok (.iload 6, 2) := by decide +kernel
theorem d_md_isLike_143 : decode b_md_isLike 143 = .ok (.ifCond .eq 9, 3) := by decide +kernel
theorem d_md_isLike_146 : decode b_md_isLike 146 = .ok (.iload_n 3, 1) := by decide +kernel
theorem d_md_isLike_147 : decode b_md_isLike 147 = .ok (.iconst 1, 1) := by decide +kernel
theorem d_md_isLike_148 : decode b_md_isLike 148 = .ok (.isub, 1) := by decide +kernel
theorem d_md_isLike_149 : decode b_md_isLike 149 = .ok (.goto 4, 3) := by decide +kernel
theorem d_md_isLike_152 : decode b_md_isLike 152 = .ok (.iload_n 3, 1) := by decide +kernel
theorem d_md_isLike_153 : decode b_md_isLike 153 = .ok (.istore 7, 2) := by decide +kernel
theorem d_md_isLike_155 : decode b_md_isLike 155 = .ok (.iload_n 1, 1) := by decide +kernel
theorem d_md_isLike_156 : decode b_md_isLike 156 = .ok (.bipush 12, 2) := by decide +kernel
theorem d_md_isLike_158 : decode b_md_isLike 158 = .ok (.ishr, 1) := by decide +kernel
theorem d_md_isLike_159 : decode b_md_isLike 159 = .ok (.ifCond .le 13, 3) := by decide +kernel
theorem d_md_isLike_162 : decode b_md_isLike 162 = .ok (.iload_n 1, 1) := by decide +kernel
theorem d_md_isLike_163 : decode b_md_isLike 163 = .ok (.bipush 12, 2) := by decide +kernel
theorem d_md_isLike_165 : decode b_md_isLike 165 = .ok (.ishr, 1) := by decide +kernel
theorem d_md_isLike_166 : decode b_md_isLike 166 = .ok (.invokestatic 50, 3) := by decide +kernel
theorem d_md_isLike_169 : decode b_md_isLike 169 = .ok (.goto 4, 3) := by decide +kernel
theorem d_md_isLike_172 : decode b_md_isLike 172 = .ok (.iconst 0, 1) := by decide +kernel
theorem d_md_isLike_173 : decode b_md_isLike 173 = .ok (.istore 8, 2) := by decide +kernel
theorem d_md_isLike_175 : decode b_md_isLike 175 = .ok (.iload 5, 2) := by decide +kernel
theorem d_md_isLike_177 : decode b_md_isLike 177 = .ok (.iconst 1, 1) := by decide +kernel
theorem d_md_isLike_178 : decode b_md_isLike 178 = .ok (.if_icmp .ne 64, 3) := by decide +kernel
theorem d_md_isLike_181 : decode b_md_isLike 181 = .ok (.iload 8, 2) := by decide +kernel
theorem d_md_isLike_183 : decode b_md_isLike 183 = .ok (.iload 6, 2) := by decide +kernel
theorem d_md_isLike_185 : decode b_md_isLike 185 = .ok (.ifCond .eq 14, 3) := by decide +kernel
theorem d_md_isLike_188 : decode b_md_isLike 188 = .ok (.aload_n 0, 1) := by decide +kernel
theorem d_md_isLike_189 : decode b_md_isLike 189 = .ok (.getfield 20, 3) := by decide +kernel
theorem d_md_isLike_192 : decode b_md_isLike 192 = .ok (.iload_n 3, 1) := by decide +kernel
theorem d_md_isLike_193 : decode b_md_isLike 193 = .ok (.iconst 1, 1) := by decide +kernel
theorem d_md_isLike_194 : decode b_md_isLike 194 = .ok (.isub, 1) := by decide +kernel
theorem d_md_isLike_195 : decode b_md_isLike 195 = .ok (.iaload, 1) := by decide +kernel
theorem d_md_isLike_196 : decode b_md_isLike 196 = .ok (.goto 4, 3) := by decide +kernel
theorem d_md_isLike_199 : decode b_md_isLike 199 = .ok (.iconst 0, 1) := by decide +kernel
theorem d_md_isLike_200 : decode b_md_isLike 200 = .ok (.if_icmp .ne 42, 3) := by decide +kernel
theorem d_md_isLike_203 : decode b_md_isLike 203 = .ok (.iload_n 1, 1) := by decide +kernel
theorem d_md_isLike_204 : decode b_md_isLike 204 = .ok (.invokestatic 149, 3) := by decide +kernel
theorem d_md_isLike_207 : decode b_md_isLike 207 = .ok (.aload_n 0, 1) := by decide +kernel
theorem d_md_isLike_208 : decode b_md_isLike 208 = .ok (.getfield 20, 3) := by decide +kernel
theorem d_md_isLike_211 : decode b_md_isLike 211 = .ok (.iload 7, 2) := by decide +kernel
theorem d_md_isLike_213 : decode b_md_isLike 213 = .ok (.iconst 2, 1) := by decide +kernel
theorem d_md_isLike_214 : decode b_md_isLike 214 = .ok (.isub, 1) := by decide +kernel
theorem d_md_isLike_215 : decode b_md_isLike 215 = .ok (.iaload, 1) := by decide +kernel
