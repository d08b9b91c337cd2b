theorem d_md_isLike_216 : decode b_md_isLike 216 = .ok (.bipush 97, 2) := by decide +kernel
theorem d_md_isLike_218 : decode b_md_isLike 218 = .ok (.isub, 1) := by decide +kernel
theorem d_md_isLike_219 : decode b_md_isLike 219 = .ok (.bipush 8, 2) := by decide +kernel
theorem d_md_isLike_221 : decode b_md_isLike 221 = .ok (.aload_n 0, 1) := by decide +kernel
theorem d_md_isLike_222 : decode b_md_isLike 222 = .ok (.getfield 20, 3) := by decide +kernel
theorem d_md_isLike_225 : decode b_md_isLike 225 = .ok (.iload 7, 2) := by decide +kernel
theorem d_md_isLike_227 : decode b_md_isLike 227 = .ok (.iconst 1, 1) := by decide +kernel
theorem d_md_isLike_228 : decode b_md_isLike 228 = .ok (.isub, 1) := by decide +kernel
theorem d_md_isLike_229 : decode b_md_isLike 229 = .ok (.iaload, 1) := by decide +kernel
theorem d_md_isLike_230 : decode b_md_isLike 230 = .ok (.bipush 49, 2) := by decide +kernel
theorem d_md_isLike_232 : decode b_md_isLike 232 = .ok (.isub, 1) := by decide +kernel
theorem d_md_isLike_233 : decode b_md_isLike 233 = .ok (.imul, 1) := by decide +kernel
theorem d_md_isLike_234 : decode b_md_isLike 234 = .ok (.iadd, 1) := by decide +kernel
theorem d_md_isLike_235 : decode b_md_isLike 235 = .ok (.if_icmp .ne 7, 3) := by decide +kernel
theorem d_md_isLike_238 : decode b_md_isLike 238 = .ok (.iconst 1, 1) := by decide +kernel
theorem d_md_isLike_239 : decode b_md_isLike 239 = .ok (.goto 4, 3) := by decide +kernel
theorem d_md_isLike_242 : decode b_md_isLike 242 = .ok (.iconst 0, 1) := by decide +kernel
theorem d_md_isLike_243 : decode b_md_isLike 243 = .ok (.ireturn, 1) := by decide +kernel
theorem d_md_find_0 : decode b_md_find 0 = .ok (.aload_n 0, 1) := by decide +kernel
theorem d_md_find_1 : decode b_md_find 1 = .ok (.iconst 0, 1) := by decide +kernel
theorem d_md_find_2 : decode b_md_find 2 = .ok (.putfield 35, 3) := by decide +kernel
theorem d_md_find_5 : decode b_md_find 5 = .ok (.aload_n 0, 1) := by decide +kernel
theorem d_md_find_6 : decode b_md_find 6 = .ok (.invokevirtual 204, 3) := by decide +kernel
theorem d_md_find_9 : decode b_md_find 9 = .ok (.istore_n 1, 1) := by decide +kernel
theorem d_md_find_10 : decode b_md_find 10 = .ok (.iload_n 1, 1) := by decide +kernel
theorem d_md_find_11 : decode b_md_find 11 = .ok (.ifCond .ne 5, 3) := by decide +kernel
theorem d_md_find_14 : decode b_md_find 14 = .ok (.iconst (-1), 1) := by decide +kernel
theorem d_md_find_15 : decode b_md_find 15 = .ok (.ireturn, 1) := by decide +kernel
theorem d_md_find_16 : decode b_md_find 16 = .ok (.bipush (-2), 2) := by decide +kernel
theorem d_md_find_18 : decode b_md_find 18 = .ok (.istore_n 2, 1) := by decide +kernel
theorem d_md_find_19 : decode b_md_find 19 = .ok (.iconst 0, 1) := by decide +kernel
theorem d_md_find_20 : decode b_md_find 20 = .ok (.istore_n 3, 1) := by decide +kernel
theorem d_md_find_21 : decode b_md_find 21 = .ok (.iload_n 3, 1) := by decide +kernel
theorem d_md_find_22 : decode b_md_find 22 = .ok (.aload_n 0, 1) := by decide +kernel
theorem d_md_find_23 : decode b_md_find 23 = .ok (.getfield 133, 3) := by decide +kernel
theorem d_md_find_26 : decode b_md_find 26 = .ok (.if_icmp .ge 96, 3) := by decide +kernel
theorem d_md_find_29 : decode b_md_find 29 = .ok (.aload_n 0, 1) := by decide +kernel
theorem d_md_find_30 : decode b_md_find 30 = .ok (.aload_n 0, 1) := by decide +kernel
theorem d_md_find_31 : decode b_md_find 31 = .ok (.getfield 23, 3) := by decide +kernel
theorem d_md_find_34 : decode b_md_find 34 = .ok (.iload_n 3, 1) := by decide +kernel
theorem d_md_find_35 : decode b_md_find 35 = .ok (.iaload, 1) := by decide +kernel
theorem d_md_find_36 : decode b_md_find 36 = .ok (.iload_n 1, 1) := by decide +kernel
theorem d_md_find_37 : decode b_md_find 37 = .ok (.invokevirtual 207, 3) := by decide +kernel
theorem d_md_find_40 : decode b_md_find 40 = .ok (.ifCond .eq 76, 3) := by decide +kernel
theorem d_md_find_43 : decode b_md_find 43 = .ok (.aload_n 0, 1) := by decide +kernel
theorem d_md_find_44 : decode b_md_find 44 = .ok (.aload_n 0, 1) := by decide +kernel
theorem d_md_find_45 : decode b_md_find 45 = .ok (.getfield 23, 3) := by decide +kernel
theorem d_md_find_48 : decode b_md_find 48 = .ok (.iload_n 3, 1) := by decide +kernel
theorem d_md_find_49 : decode b_md_find 49 = .ok (.iaload, 1) := by decide +kernel
theorem d_md_find_50 : decode b_md_find 50 = .ok (.invokevirtual 179, 3) := by decide +kernel
theorem d_md_find_53 : decode b_md_find 53 = .ok (.iload_n 2, 1) := by decide +kernel
theorem d_md_find_54 : decode b_md_find 54 = .ok (.bipush (-2), 2) := by decide +kernel
theorem d_md_find_56 : decode b_md_find 56 = .ok (.if_icmp .ne 8, 3) := by decide +kernel
theorem d_md_find_59 : decode b_md_find 59 = .ok (.bipush (-3), 2) := by decide +kernel
theorem d_md_find_61 : decode b_md_find 61 = .ok (.goto 4, 3) := by decide +kernel
theorem d_md_find_64 : decode b_md_find 64 = .ok (.iload_n 2, 1) := by decide +kernel
theorem d_md_find_65 : decode b_md_find 65 = .ok (.istore_n 2, 1) := by decide +kernel
theorem d_md_find_66 : decode b_md_find 66 = .ok (.aload_n 0, 1) := by decide +kernel
theorem d_md_find_67 : decode b_md_find 67 = .ok (.aload_n 0, 1) := by decide +kernel
theorem d_md_find_68 : decode b_md_find 68 = .ok (.invokevirtual 185, 3) := by decide +kernel
theorem d_md_find_71 : decode b_md_find 71 = .ok (.invokevirtual 211, 3) := by decide +kernel
theorem d_md_find_74 : decode b_md_find 74 = .ok (.istore 4, 2) := by decide +kernel
theorem d_md_find_76 : decode b_md_find 76 = .ok (.aload_n 0, 1) := by decide +kernel
theorem d_md_find_77 : decode b_md_find 77 = .ok (.aload_n 0, 1) := by decide +kernel
theorem d_md_find_78 : decode b_md_find 78 = .ok (.getfield 26, 3) := by decide +kernel
theorem d_md_find_81 : decode b_md_find 81 = .ok (.iload_n 3, 1) := by decide +kernel
theorem d_md_find_82 : decode b_md_find 82 = .ok (.iaload, 1) := by decide +kernel
theorem d_md_find_83 : decode b_md_find 83 = .ok (.invokevirtual 182, 3) := by decide +kernel
theorem d_md_find_86 : decode b_md_find 86 = .ok (.aload_n 0, 1) := by decide +kernel
theorem d_md_find_87 : decode b_md_find 87 = .ok (.aload_n 0, 1) := by decide +kernel
theorem d_md_find_88 : decode b_md_find 88 = .ok (.getfield 38, 3) := by decide +kernel
theorem d_md_find_91 : decode b_md_find 91 = .ok (.invokevirtual 211, 3) := by decide +kernel
theorem d_md_find_94 : decode b_md_find 94 = .ok (.ifCond .eq 10, 3) := by decide +kernel
theorem d_md_find_97 : decode b_md_find 97 = .ok (.aload_n 0, 1) := by decide +kernel
theorem d_md_find_98 : decode b_md_find 98 = .ok (.getfield 23, 3) := by decide +kernel
theorem d_md_find_101 : decode b_md_find 101 = .ok (.iload_n 3, 1) := by decide +kernel
theorem d_md_find_102 : decode b_md_find 102 = .ok (.iaload, 1) := by decide +kernel
theorem d_md_find_103 : decode b_md_find 103 = .ok (.ireturn, 1) := by decide +kernel
theorem d_md_find_104 : decode b_md_find 104 = .ok (.iload 4, 2) := by decide +kernel
theorem d_md_find_106 : decode b_md_find 106 = .ok (.ifCond .eq 8, 3) := by decide +kernel
theorem d_md_find_109 : decode b_md_find 109 = .ok (.bipush (-4), 2) := by decide +kernel
theorem d_md_find_111 : decode b_md_find 111 = .ok (.goto 4, 3) := by decide +kernel
theorem d_md_find_114 : decode b_md_find 114 = .ok (.iload_n 2, 1) := by decide +kernel
theorem d_md_find_115 : decode b_md_find 115 = .ok (.istore_n 2, 1) := by decide +kernel
theorem d_md_find_116 : decode b_md_find 116 = .ok (.iinc 3 1, 3) := by decide +kernel
theorem d_md_find_119 : decode b_md_find 119 = .ok (.goto (-98), 3) := by decide +kernel
theorem d_md_find_122 : decode b_md_find 122 = .ok (.iload_n 2, 1) := by decide +kernel
theorem d_md_find_123 : decode b_md_find 123 = .ok (.ireturn, 1) := by decide +kernel
theorem d_md_look_0 : decode b_md_look 0 = .ok (.aload_n 0, 1) := by decide +kernel
theorem d_md_look_1 : decode b_md_look 1 = .ok (.iconst 0, 1) := by decide +kernel
theorem d_md_look_2 : decode b_md_look 2 = .ok (.putfield 35, 3) := by decide +kernel
theorem d_md_look_5 : decode b_md_look 5 = .ok (.iload_n 1, 1) := by decide +kernel
theorem d_md_look_6 : decode b_md_look 6 = .ok (.tableswitch 77 0 6 #[42, 47, 52, 57, 62, 67, 72], 42) := by decide +kernel
theorem d_md_look_48 : decode b_md_look 48 = .ok (.aload_n 0, 1) := by decide +kernel
theorem d_md_look_49 : decode b_md_look 49 = .ok (.getfield 38, 3) := by decide +kernel
theorem d_md_look_52 : decode b_md_look 52 = .ok (.ireturn, 1) := by decide +kernel
theorem d_md_look_53 : decode b_md_look 53 = .ok (.aload_n 0, 1) := by decide +kernel
theorem d_md_look_54 : decode b_md_look 54 = .ok (.getfield 124, 3) := by decide +kernel
theorem d_md_look_57 : decode b_md_look 57 = .ok (.ireturn, 1) := by decide +kernel
theorem d_md_look_58 : decode b_md_look 58 = .ok (.aload_n 0, 1) := by decide +kernel
theorem d_md_look_59 : decode b_md_look 59 = .ok (.getfield 127, 3) := by decide +kernel
theorem d_md_look_62 : decode b_md_look 62 = .ok (.ireturn, 1) := by decide +kernel
theorem d_md_look_63 : decode b_md_look 63 = .ok (.aload_n 0, 1) := by decide +kernel
theorem d_md_look_64 : decode b_md_look 64 = .ok (.getfield 13, 3) := by decide +kernel
theorem d_md_look_67 : decode b_md_look 67 = .ok (.ireturn, 1) := by decide +kernel
theorem d_md_look_68 : decode b_md_look 68 = .ok (.aload_n 0, 1) := by decide +kernel
theorem d_md_look_69 : decode b_md_look 69 = .ok (.getfield 130, 3) := by decide +kernel
theorem d_md_look_72 : decode b_md_look 72 = .ok (.ireturn, 1) := by decide +kernel
theorem d_md_look_73 : decode b_md_look 73 = .ok (.aload_n 0, 1) := by decide +kernel
theorem d_md_look_74 : decode b_md_look 74 = .ok (.getfield 17, 3) := by decide +kernel
theorem d_md_look_77 : decode b_md_look 77 = .ok (.ireturn, 1) := by decide +kernel
theorem d_md_look_78 : decode b_md_look 78 = .ok (.aload_n 0, 1) := by decide +kernel
theorem d_md_look_79 : decode b_md_look 79 = .ok (.getfield 133, 3) := by decide +kernel
theorem d_md_look_82 : decode b_md_look 82 = .ok (.ireturn, 1) := by decide +kernel
theorem d_md_look_83 : decode b_md_look 83 = .ok (.iconst (-1), 1) := by decide +kernel
theorem d_md_look_84 : decode b_md_look 84 = .ok (.ireturn, 1) := by decide +kernel
