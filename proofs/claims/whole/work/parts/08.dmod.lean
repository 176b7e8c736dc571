theorem d_Mod_init_0 : decode prog_14_method_1_code 0 = .ok (.aload_n 0, 1) := by decide +kernel
theorem d_Mod_init_1 : decode prog_14_method_1_code 1 = .ok (.invokespecial 1, 3) := by decide +kernel
theorem d_Mod_init_4 : decode prog_14_method_1_code 4 = .ok (.aload_n 0, 1) := by decide +kernel
theorem d_Mod_init_5 : decode prog_14_method_1_code 5 = .ok (.bipush 7, 2) := by decide +kernel
theorem d_Mod_init_7 : decode prog_14_method_1_code 7 = .ok (.newarray .int, 2) := by decide +kernel
theorem d_Mod_init_9 : decode prog_14_method_1_code 9 = .ok (.putfield 7, 3) := by decide +kernel
theorem d_Mod_init_12 : decode prog_14_method_1_code 12 = .ok (.aload_n 0, 1) := by decide +kernel
theorem d_Mod_init_13 : decode prog_14_method_1_code 13 = .ok (.sipush 268, 3) := by decide +kernel
theorem d_Mod_init_16 : decode prog_14_method_1_code 16 = .ok (.newarray .int, 2) := by decide +kernel
theorem d_Mod_init_18 : decode prog_14_method_1_code 18 = .ok (.putfield 13, 3) := by decide +kernel
theorem d_Mod_init_21 : decode prog_14_method_1_code 21 = .ok (.aload_n 0, 1) := by decide +kernel
theorem d_Mod_init_22 : decode prog_14_method_1_code 22 = .ok (.sipush 268, 3) := by decide +kernel
theorem d_Mod_init_25 : decode prog_14_method_1_code 25 = .ok (.newarray .int, 2) := by decide +kernel
theorem d_Mod_init_27 : decode prog_14_method_1_code 27 = .ok (.putfield 16, 3) := by decide +kernel
theorem d_Mod_init_30 : decode prog_14_method_1_code 30 = .ok (.aload_n 0, 1) := by decide +kernel
theorem d_Mod_init_31 : decode prog_14_method_1_code 31 = .ok (.bipush 24, 2) := by decide +kernel
theorem d_Mod_init_33 : decode prog_14_method_1_code 33 = .ok (.newarray .int, 2) := by decide +kernel
theorem d_Mod_init_35 : decode prog_14_method_1_code 35 = .ok (.putfield 19, 3) := by decide +kernel
theorem d_Mod_init_38 : decode prog_14_method_1_code 38 = .ok (.aload_n 0, 1) := by decide +kernel
theorem d_Mod_init_39 : decode prog_14_method_1_code 39 = .ok (.bipush 6, 2) := by decide +kernel
theorem d_Mod_init_41 : decode prog_14_method_1_code 41 = .ok (.newarray .int, 2) := by decide +kernel
theorem d_Mod_init_43 : decode prog_14_method_1_code 43 = .ok (.putfield 22, 3) := by decide +kernel
theorem d_Mod_init_46 : decode prog_14_method_1_code 46 = .ok (.iconst 0, 1) := by decide +kernel
theorem d_Mod_init_47 : decode prog_14_method_1_code 47 = .ok (.istore_n 1, 1) := by decide +kernel
theorem d_Mod_init_48 : decode prog_14_method_1_code 48 = .ok (.iload_n 1, 1) := by decide +kernel
theorem d_Mod_init_49 : decode prog_14_method_1_code 49 = .ok (.bipush 6, 2) := by decide +kernel
theorem d_Mod_init_51 : decode prog_14_method_1_code 51 = .ok (.if_icmp .ge 81, 3) := by decide +kernel
theorem d_Mod_init_54 : decode prog_14_method_1_code 54 = .ok (.aload_n 0, 1) := by decide +kernel
theorem d_Mod_init_55 : decode prog_14_method_1_code 55 = .ok (.getfield 13, 3) := by decide +kernel
theorem d_Mod_init_58 : decode prog_14_method_1_code 58 = .ok (.sipush 186, 3) := by decide +kernel
theorem d_Mod_init_61 : decode prog_14_method_1_code 61 = .ok (.bipush 8, 2) := by decide +kernel
theorem d_Mod_init_63 : decode prog_14_method_1_code 63 = .ok (.iload_n 1, 1) := by decide +kernel
theorem d_Mod_init_64 : decode prog_14_method_1_code 64 = .ok (.imul, 1) := by decide +kernel
theorem d_Mod_init_65 : decode prog_14_method_1_code 65 = .ok (.iadd, 1) := by decide +kernel
theorem d_Mod_init_66 : decode prog_14_method_1_code 66 = .ok (.iconst 1, 1) := by decide +kernel
theorem d_Mod_init_67 : decode prog_14_method_1_code 67 = .ok (.iadd, 1) := by decide +kernel
theorem d_Mod_init_68 : decode prog_14_method_1_code 68 = .ok (.sipush 999, 3) := by decide +kernel
theorem d_Mod_init_71 : decode prog_14_method_1_code 71 = .ok (.iastore, 1) := by decide +kernel
theorem d_Mod_init_72 : decode prog_14_method_1_code 72 = .ok (.aload_n 0, 1) := by decide +kernel
theorem d_Mod_init_73 : decode prog_14_method_1_code 73 = .ok (.getfield 13, 3) := by decide +kernel
theorem d_Mod_init_76 : decode prog_14_method_1_code 76 = .ok (.sipush 186, 3) := by decide +kernel
theorem d_Mod_init_79 : decode prog_14_method_1_code 79 = .ok (.bipush 8, 2) := by decide +kernel
theorem d_Mod_init_81 : decode prog_14_method_1_code 81 = .ok (.iload_n 1, 1) := by decide +kernel
theorem d_Mod_init_82 : decode prog_14_method_1_code 82 = .ok (.imul, 1) := by decide +kernel
theorem d_Mod_init_83 : decode prog_14_method_1_code 83 = .ok (.iadd, 1) := by decide +kernel
theorem d_Mod_init_84 : decode prog_14_method_1_code 84 = .ok (.iconst 3, 1) := by decide +kernel
theorem d_Mod_init_85 : decode prog_14_method_1_code 85 = .ok (.iadd, 1) := by decide +kernel
theorem d_Mod_init_86 : decode prog_14_method_1_code 86 = .ok (.sipush 999, 3) := by decide +kernel
theorem d_Mod_init_89 : decode prog_14_method_1_code 89 = .ok (.iastore, 1) := by decide +kernel
theorem d_Mod_init_90 : decode prog_14_method_1_code 90 = .ok (.aload_n 0, 1) := by decide +kernel
theorem d_Mod_init_91 : decode prog_14_method_1_code 91 = .ok (.getfield 13, 3) := by decide +kernel
theorem d_Mod_init_94 : decode prog_14_method_1_code 94 = .ok (.sipush 186, 3) := by decide +kernel
theorem d_Mod_init_97 : decode prog_14_method_1_code 97 = .ok (.bipush 8, 2) := by decide +kernel
theorem d_Mod_init_99 : decode prog_14_method_1_code 99 = .ok (.iload_n 1, 1) := by decide +kernel
theorem d_Mod_init_100 : decode prog_14_method_1_code 100 = .ok (.imul, 1) := by decide +kernel
theorem d_Mod_init_101 : decode prog_14_method_1_code 101 = .ok (.iadd, 1) := by decide +kernel
theorem d_Mod_init_102 : decode prog_14_method_1_code 102 = .ok (.iconst 4, 1) := by decide +kernel
theorem d_Mod_init_103 : decode prog_14_method_1_code 103 = .ok (.iadd, 1) := by decide +kernel
theorem d_Mod_init_104 : decode prog_14_method_1_code 104 = .ok (.sipush 255, 3) := by decide +kernel
theorem d_Mod_init_107 : decode prog_14_method_1_code 107 = .ok (.iastore, 1) := by decide +kernel
theorem d_Mod_init_108 : decode prog_14_method_1_code 108 = .ok (.aload_n 0, 1) := by decide +kernel
theorem d_Mod_init_109 : decode prog_14_method_1_code 109 = .ok (.getfield 13, 3) := by decide +kernel
theorem d_Mod_init_112 : decode prog_14_method_1_code 112 = .ok (.sipush 186, 3) := by decide +kernel
theorem d_Mod_init_115 : decode prog_14_method_1_code 115 = .ok (.bipush 8, 2) := by decide +kernel
theorem d_Mod_init_117 : decode prog_14_method_1_code 117 = .ok (.iload_n 1, 1) := by decide +kernel
theorem d_Mod_init_118 : decode prog_14_method_1_code 118 = .ok (.imul, 1) := by decide +kernel
theorem d_Mod_init_119 : decode prog_14_method_1_code 119 = .ok (.iadd, 1) := by decide +kernel
theorem d_Mod_init_120 : decode prog_14_method_1_code 120 = .ok (.bipush 7, 2) := by decide +kernel
theorem d_Mod_init_122 : decode prog_14_method_1_code 122 = .ok (.iadd, 1) := by decide +kernel
theorem d_Mod_init_123 : decode prog_14_method_1_code 123 = .ok (.bipush 10, 2) := by decide +kernel
theorem d_Mod_init_125 : decode prog_14_method_1_code 125 = .ok (.iastore, 1) := by decide +kernel
theorem d_Mod_init_126 : decode prog_14_method_1_code 126 = .ok (.iinc 1 1, 3) := by decide +kernel
theorem d_Mod_init_129 : decode prog_14_method_1_code 129 = .ok (.goto (-81), 3) := by decide +kernel
theorem d_Mod_init_132 : decode prog_14_method_1_code 132 = .ok (.return_, 1) := by decide +kernel
theorem d_Mod_refuse_0 : decode prog_14_method_2_code 0 = .ok (.aload_n 0, 1) := by decide +kernel
theorem d_Mod_refuse_1 : decode prog_14_method_2_code 1 = .ok (.getfield 7, 3) := by decide +kernel
theorem d_Mod_refuse_4 : decode prog_14_method_2_code 4 = .ok (.iload_n 1, 1) := by decide +kernel
theorem d_Mod_refuse_5 : decode prog_14_method_2_code 5 = .ok (.ineg, 1) := by decide +kernel
theorem d_Mod_refuse_6 : decode prog_14_method_2_code 6 = .ok (.dup2, 1) := by decide +kernel
theorem d_Mod_refuse_7 : decode prog_14_method_2_code 7 = .ok (.iaload, 1) := by decide +kernel
theorem d_Mod_refuse_8 : decode prog_14_method_2_code 8 = .ok (.iconst 1, 1) := by decide +kernel
theorem d_Mod_refuse_9 : decode prog_14_method_2_code 9 = .ok (.iadd, 1) := by decide +kernel
theorem d_Mod_refuse_10 : decode prog_14_method_2_code 10 = .ok (.iastore, 1) := by decide +kernel
theorem d_Mod_refuse_11 : decode prog_14_method_2_code 11 = .ok (.iload_n 1, 1) := by decide +kernel
theorem d_Mod_refuse_12 : decode prog_14_method_2_code 12 = .ok (.ireturn, 1) := by decide +kernel
theorem d_Mod_isIn_0 : decode prog_14_method_3_code 0 = .ok (.iload_n 0, 1) := by decide +kernel
theorem d_Mod_isIn_1 : decode prog_14_method_3_code 1 = .ok (.ifCond .lt 12, 3) := by decide +kernel
theorem d_Mod_isIn_4 : decode prog_14_method_3_code 4 = .ok (.iload_n 0, 1) := by decide +kernel
theorem d_Mod_isIn_5 : decode prog_14_method_3_code 5 = .ok (.iload_n 1, 1) := by decide +kernel
theorem d_Mod_isIn_6 : decode prog_14_method_3_code 6 = .ok (.if_icmp .ge 7, 3) := by decide +kernel
theorem d_Mod_isIn_9 : decode prog_14_method_3_code 9 = .ok (.iconst 1, 1) := by decide +kernel
theorem d_Mod_isIn_10 : decode prog_14_method_3_code 10 = .ok (.goto 4, 3) := by decide +kernel
theorem d_Mod_isIn_13 : decode prog_14_method_3_code 13 = .ok (.iconst 0, 1) := by decide +kernel
theorem d_Mod_isIn_14 : decode prog_14_method_3_code 14 = .ok (.ireturn, 1) := by decide +kernel
theorem d_Mod_within_0 : decode prog_14_method_4_code 0 = .ok (.iload_n 0, 1) := by decide +kernel
theorem d_Mod_within_1 : decode prog_14_method_4_code 1 = .ok (.iload_n 1, 1) := by decide +kernel
theorem d_Mod_within_2 : decode prog_14_method_4_code 2 = .ok (.if_icmp .ge 8, 3) := by decide +kernel
theorem d_Mod_within_5 : decode prog_14_method_4_code 5 = .ok (.bipush (-4), 2) := by decide +kernel
theorem d_Mod_within_7 : decode prog_14_method_4_code 7 = .ok (.goto 14, 3) := by decide +kernel
theorem d_Mod_within_10 : decode prog_14_method_4_code 10 = .ok (.iload_n 0, 1) := by decide +kernel
theorem d_Mod_within_11 : decode prog_14_method_4_code 11 = .ok (.iload_n 2, 1) := by decide +kernel
theorem d_Mod_within_12 : decode prog_14_method_4_code 12 = .ok (.if_icmp .le 8, 3) := by decide +kernel
theorem d_Mod_within_15 : decode prog_14_method_4_code 15 = .ok (.bipush (-6), 2) := by decide +kernel
theorem d_Mod_within_17 : decode prog_14_method_4_code 17 = .ok (.goto 4, 3) := by decide +kernel
theorem d_Mod_within_20 : decode prog_14_method_4_code 20 = .ok (.iconst 0, 1) := by decide +kernel
theorem d_Mod_within_21 : decode prog_14_method_4_code 21 = .ok (.ireturn, 1) := by decide +kernel
theorem d_Mod_isTelling_0 : decode prog_14_method_5_code 0 = .ok (.iload_n 1, 1) := by decide +kernel
theorem d_Mod_isTelling_1 : decode prog_14_method_5_code 1 = .ok (.aload_n 0, 1) := by decide +kernel
theorem d_Mod_isTelling_2 : decode prog_14_method_5_code 2 = .ok (.getfield 13, 3) := by decide +kernel
theorem d_Mod_isTelling_5 : decode prog_14_method_5_code 5 = .ok (.iconst 0, 1) := by decide +kernel
theorem d_Mod_isTelling_6 : decode prog_14_method_5_code 6 = .ok (.iaload, 1) := by decide +kernel
theorem d_Mod_isTelling_7 : decode prog_14_method_5_code 7 = .ok (.invokestatic 25, 3) := by decide +kernel
theorem d_Mod_isTelling_10 : decode prog_14_method_5_code 10 = .ok (.ireturn, 1) := by decide +kernel
theorem d_Mod_isLaw_0 : decode prog_14_method_6_code 0 = .ok (.iload_n 0, 1) := by decide +kernel
theorem d_Mod_isLaw_1 : decode prog_14_method_6_code 1 = .ok (.bipush 6, 2) := by decide +kernel
theorem d_Mod_isLaw_3 : decode prog_14_method_6_code 3 = .ok (.invokestatic 25, 3) := by decide +kernel
theorem d_Mod_isLaw_6 : decode prog_14_method_6_code 6 = .ok (.ireturn, 1) := by decide +kernel
theorem d_Mod_get_0 : decode prog_14_method_7_code 0 = .ok (.aload_n 0, 1) := by decide +kernel
theorem d_Mod_get_1 : decode prog_14_method_7_code 1 = .ok (.getfield 13, 3) := by decide +kernel
theorem d_Mod_get_4 : decode prog_14_method_7_code 4 = .ok (.bipush 6, 2) := by decide +kernel
theorem d_Mod_get_6 : decode prog_14_method_7_code 6 = .ok (.bipush 6, 2) := by decide +kernel
theorem d_Mod_get_8 : decode prog_14_method_7_code 8 = .ok (.iload_n 1, 1) := by decide +kernel
theorem d_Mod_get_9 : decode prog_14_method_7_code 9 = .ok (.imul, 1) := by decide +kernel
theorem d_Mod_get_10 : decode prog_14_method_7_code 10 = .ok (.iadd, 1) := by decide +kernel
theorem d_Mod_get_11 : decode prog_14_method_7_code 11 = .ok (.iload_n 2, 1) := by decide +kernel
theorem d_Mod_get_12 : decode prog_14_method_7_code 12 = .ok (.iadd, 1) := by decide +kernel
theorem d_Mod_get_13 : decode prog_14_method_7_code 13 = .ok (.iaload, 1) := by decide +kernel
theorem d_Mod_get_14 : decode prog_14_method_7_code 14 = .ok (.ireturn, 1) := by decide +kernel
theorem d_Mod_becomes_0 : decode prog_14_method_8_code 0 = .ok (.aload_n 0, 1) := by decide +kernel
theorem d_Mod_becomes_1 : decode prog_14_method_8_code 1 = .ok (.getfield 13, 3) := by decide +kernel
theorem d_Mod_becomes_4 : decode prog_14_method_8_code 4 = .ok (.iload_n 1, 1) := by decide +kernel
theorem d_Mod_becomes_5 : decode prog_14_method_8_code 5 = .ok (.iaload, 1) := by decide +kernel
theorem d_Mod_becomes_6 : decode prog_14_method_8_code 6 = .ok (.istore_n 3, 1) := by decide +kernel
theorem d_Mod_becomes_7 : decode prog_14_method_8_code 7 = .ok (.aload_n 0, 1) := by decide +kernel
theorem d_Mod_becomes_8 : decode prog_14_method_8_code 8 = .ok (.getfield 13, 3) := by decide +kernel
theorem d_Mod_becomes_11 : decode prog_14_method_8_code 11 = .ok (.iload_n 1, 1) := by decide +kernel
theorem d_Mod_becomes_12 : decode prog_14_method_8_code 12 = .ok (.iload_n 2, 1) := by decide +kernel
theorem d_Mod_becomes_13 : decode prog_14_method_8_code 13 = .ok (.iastore, 1) := by decide +kernel
theorem d_Mod_becomes_14 : decode prog_14_method_8_code 14 = .ok (.iload_n 3, 1) := by decide +kernel
theorem d_Mod_becomes_15 : decode prog_14_method_8_code 15 = .ok (.ireturn, 1) := by decide +kernel
theorem d_Mod_feed_0 : decode prog_14_method_9_code 0 = .ok (.iload_n 1, 1) := by decide +kernel
theorem d_Mod_feed_1 : decode prog_14_method_9_code 1 = .ok (.iconst 1, 1) := by decide +kernel
theorem d_Mod_feed_2 : decode prog_14_method_9_code 2 = .ok (.if_icmp .ge 10, 3) := by decide +kernel
theorem d_Mod_feed_5 : decode prog_14_method_9_code 5 = .ok (.aload_n 0, 1) := by decide +kernel
theorem d_Mod_feed_6 : decode prog_14_method_9_code 6 = .ok (.bipush (-4), 2) := by decide +kernel
theorem d_Mod_feed_8 : decode prog_14_method_9_code 8 = .ok (.invokevirtual 29, 3) := by decide +kernel
theorem d_Mod_feed_11 : decode prog_14_method_9_code 11 = .ok (.ireturn, 1) := by decide +kernel
theorem d_Mod_feed_12 : decode prog_14_method_9_code 12 = .ok (.iload_n 1, 1) := by decide +kernel
theorem d_Mod_feed_13 : decode prog_14_method_9_code 13 = .ok (.bipush 8, 2) := by decide +kernel
theorem d_Mod_feed_15 : decode prog_14_method_9_code 15 = .ok (.if_icmp .gt 14, 3) := by decide +kernel
theorem d_Mod_feed_18 : decode prog_14_method_9_code 18 = .ok (.aload_n 0, 1) := by decide +kernel
theorem d_Mod_feed_19 : decode prog_14_method_9_code 19 = .ok (.getfield 33, 3) := by decide +kernel
theorem d_Mod_feed_22 : decode prog_14_method_9_code 22 = .ok (.iload_n 1, 1) := by decide +kernel
theorem d_Mod_feed_23 : decode prog_14_method_9_code 23 = .ok (.iadd, 1) := by decide +kernel
theorem d_Mod_feed_24 : decode prog_14_method_9_code 24 = .ok (.bipush 24, 2) := by decide +kernel
theorem d_Mod_feed_26 : decode prog_14_method_9_code 26 = .ok (.if_icmp .le 10, 3) := by decide +kernel
theorem d_Mod_feed_29 : decode prog_14_method_9_code 29 = .ok (.aload_n 0, 1) := by decide +kernel
theorem d_Mod_feed_30 : decode prog_14_method_9_code 30 = .ok (.bipush (-6), 2) := by decide +kernel
theorem d_Mod_feed_32 : decode prog_14_method_9_code 32 = .ok (.invokevirtual 29, 3) := by decide +kernel
theorem d_Mod_feed_35 : decode prog_14_method_9_code 35 = .ok (.ireturn, 1) := by decide +kernel
theorem d_Mod_feed_36 : decode prog_14_method_9_code 36 = .ok (.iconst 0, 1) := by decide +kernel
theorem d_Mod_feed_37 : decode prog_14_method_9_code 37 = .ok (.istore 4, 2) := by decide +kernel
theorem d_Mod_feed_39 : decode prog_14_method_9_code 39 = .ok (.iload 4, 2) := by decide +kernel
theorem d_Mod_feed_41 : decode prog_14_method_9_code 41 = .ok (.iload_n 1, 1) := by decide +kernel
theorem d_Mod_feed_42 : decode prog_14_method_9_code 42 = .ok (.if_icmp .ge 40, 3) := by decide +kernel
theorem d_Mod_feed_45 : decode prog_14_method_9_code 45 = .ok (.aload_n 0, 1) := by decide +kernel
theorem d_Mod_feed_46 : decode prog_14_method_9_code 46 = .ok (.getfield 19, 3) := by decide +kernel
theorem d_Mod_feed_49 : decode prog_14_method_9_code 49 = .ok (.aload_n 0, 1) := by decide +kernel
theorem d_Mod_feed_50 : decode prog_14_method_9_code 50 = .ok (.getfield 33, 3) := by decide +kernel
theorem d_Mod_feed_53 : decode prog_14_method_9_code 53 = .ok (.lload_n 2, 1) := by decide +kernel
theorem d_Mod_feed_54 : decode prog_14_method_9_code 54 = .ok (.bipush 8, 2) := by decide +kernel
theorem d_Mod_feed_56 : decode prog_14_method_9_code 56 = .ok (.iload 4, 2) := by decide +kernel
theorem d_Mod_feed_58 : decode prog_14_method_9_code 58 = .ok (.imul, 1) := by decide +kernel
theorem d_Mod_feed_59 : decode prog_14_method_9_code 59 = .ok (.lshr, 1) := by decide +kernel
theorem d_Mod_feed_60 : decode prog_14_method_9_code 60 = .ok (.ldc2_w 37, 3) := by decide +kernel
theorem d_Mod_feed_63 : decode prog_14_method_9_code 63 = .ok (.land, 1) := by decide +kernel
theorem d_Mod_feed_64 : decode prog_14_method_9_code 64 = .ok (.l2i, 1) := by decide +kernel
theorem d_Mod_feed_65 : decode prog_14_method_9_code 65 = .ok (.iastore, 1) := by decide +kernel
theorem d_Mod_feed_66 : decode prog_14_method_9_code 66 = .ok (.aload_n 0, 1) := by decide +kernel
theorem d_Mod_feed_67 : decode prog_14_method_9_code 67 = .ok (.dup, 1) := by decide +kernel
theorem d_Mod_feed_68 : decode prog_14_method_9_code 68 = .ok (.getfield 33, 3) := by decide +kernel
theorem d_Mod_feed_71 : decode prog_14_method_9_code 71 = .ok (.iconst 1, 1) := by decide +kernel
theorem d_Mod_feed_72 : decode prog_14_method_9_code 72 = .ok (.iadd, 1) := by decide +kernel
theorem d_Mod_feed_73 : decode prog_14_method_9_code 73 = .ok (.putfield 33, 3) := by decide +kernel
theorem d_Mod_feed_76 : decode prog_14_method_9_code 76 = .ok (.iinc 4 1, 3) := by decide +kernel
theorem d_Mod_feed_79 : decode prog_14_method_9_code 79 = .ok (.goto (-40), 3) := by decide +kernel
theorem d_Mod_feed_82 : decode prog_14_method_9_code 82 = .ok (.aload_n 0, 1) := by decide +kernel
theorem d_Mod_feed_83 : decode prog_14_method_9_code 83 = .ok (.getfield 33, 3) := by decide +kernel
theorem d_Mod_feed_86 : decode prog_14_method_9_code 86 = .ok (.ireturn, 1) := by decide +kernel
theorem d_Mod_sign_0 : decode prog_14_method_10_code 0 = .ok (.aload_n 0, 1) := by decide +kernel
theorem d_Mod_sign_1 : decode prog_14_method_10_code 1 = .ok (.getfield 39, 3) := by decide +kernel
theorem d_Mod_sign_4 : decode prog_14_method_10_code 4 = .ok (.aload_n 0, 1) := by decide +kernel
theorem d_Mod_sign_5 : decode prog_14_method_10_code 5 = .ok (.getfield 33, 3) := by decide +kernel
theorem d_Mod_sign_8 : decode prog_14_method_10_code 8 = .ok (.if_icmp .lt 7, 3) := by decide +kernel
theorem d_Mod_sign_11 : decode prog_14_method_10_code 11 = .ok (.iconst (-1), 1) := by decide +kernel
theorem d_Mod_sign_12 : decode prog_14_method_10_code 12 = .ok (.goto 12, 3) := by decide +kernel
theorem d_Mod_sign_15 : decode prog_14_method_10_code 15 = .ok (.aload_n 0, 1) := by decide +kernel
theorem d_Mod_sign_16 : decode prog_14_method_10_code 16 = .ok (.getfield 19, 3) := by decide +kernel
theorem d_Mod_sign_19 : decode prog_14_method_10_code 19 = .ok (.aload_n 0, 1) := by decide +kernel
theorem d_Mod_sign_20 : decode prog_14_method_10_code 20 = .ok (.getfield 39, 3) := by decide +kernel
theorem d_Mod_sign_23 : decode prog_14_method_10_code 23 = .ok (.iaload, 1) := by decide +kernel
theorem d_Mod_sign_24 : decode prog_14_method_10_code 24 = .ok (.ireturn, 1) := by decide +kernel
theorem d_Mod_isDigit_0 : decode prog_14_method_11_code 0 = .ok (.aload_n 0, 1) := by decide +kernel
theorem d_Mod_isDigit_1 : decode prog_14_method_11_code 1 = .ok (.invokevirtual 42, 3) := by decide +kernel
theorem d_Mod_isDigit_4 : decode prog_14_method_11_code 4 = .ok (.bipush 48, 2) := by decide +kernel
theorem d_Mod_isDigit_6 : decode prog_14_method_11_code 6 = .ok (.if_icmp .lt 16, 3) := by decide +kernel
theorem d_Mod_isDigit_9 : decode prog_14_method_11_code 9 = .ok (.aload_n 0, 1) := by decide +kernel
theorem d_Mod_isDigit_10 : decode prog_14_method_11_code 10 = .ok (.invokevirtual 42, 3) := by decide +kernel
theorem d_Mod_isDigit_13 : decode prog_14_method_11_code 13 = .ok (.bipush 57, 2) := by decide +kernel
theorem d_Mod_isDigit_15 : decode prog_14_method_11_code 15 = .ok (.if_icmp .gt 7, 3) := by decide +kernel
theorem d_Mod_isDigit_18 : decode prog_14_method_11_code 18 = .ok (.iconst 1, 1) := by decide +kernel
theorem d_Mod_isDigit_19 : decode prog_14_method_11_code 19 = .ok (.goto 4, 3) := by decide +kernel
theorem d_Mod_isDigit_22 : decode prog_14_method_11_code 22 = .ok (.iconst 0, 1) := by decide +kernel
theorem d_Mod_isDigit_23 : decode prog_14_method_11_code 23 = .ok (.ireturn, 1) := by decide +kernel
theorem d_Mod_readsNumber_0 : decode prog_14_method_12_code 0 = .ok (.aload_n 0, 1) := by decide +kernel
theorem d_Mod_readsNumber_1 : decode prog_14_method_12_code 1 = .ok (.invokevirtual 46, 3) := by decide +kernel
theorem d_Mod_readsNumber_4 : decode prog_14_method_12_code 4 = .ok (.ifCond .ne 5, 3) := by decide +kernel
theorem d_Mod_readsNumber_7 : decode prog_14_method_12_code 7 = .ok (.iconst 0, 1) := by decide +kernel
theorem d_Mod_readsNumber_8 : decode prog_14_method_12_code 8 = .ok (.ireturn, 1) := by decide +kernel
theorem d_Mod_readsNumber_9 : decode prog_14_method_12_code 9 = .ok (.aload_n 0, 1) := by decide +kernel
theorem d_Mod_readsNumber_10 : decode prog_14_method_12_code 10 = .ok (.getfield 22, 3) := by decide +kernel
theorem d_Mod_readsNumber_13 : decode prog_14_method_12_code 13 = .ok (.iload_n 1, 1) := by decide +kernel
theorem d_Mod_readsNumber_14 : decode prog_14_method_12_code 14 = .ok (.iconst 0, 1) := by decide +kernel
theorem d_Mod_readsNumber_15 : decode prog_14_method_12_code 15 = .ok (.iastore, 1) := by decide +kernel
theorem d_Mod_readsNumber_16 : decode prog_14_method_12_code 16 = .ok (.iconst 0, 1) := by decide +kernel
theorem d_Mod_readsNumber_17 : decode prog_14_method_12_code 17 = .ok (.istore_n 3, 1) := by decide +kernel
theorem d_Mod_readsNumber_18 : decode prog_14_method_12_code 18 = .ok (.iload_n 3, 1) := by decide +kernel
theorem d_Mod_readsNumber_19 : decode prog_14_method_12_code 19 = .ok (.iload_n 2, 1) := by decide +kernel
theorem d_Mod_readsNumber_20 : decode prog_14_method_12_code 20 = .ok (.if_icmp .ge 49, 3) := by decide +kernel
theorem d_Mod_readsNumber_23 : decode prog_14_method_12_code 23 = .ok (.aload_n 0, 1) := by decide +kernel
theorem d_Mod_readsNumber_24 : decode prog_14_method_12_code 24 = .ok (.invokevirtual 46, 3) := by decide +kernel
theorem d_Mod_readsNumber_27 : decode prog_14_method_12_code 27 = .ok (.ifCond .eq 42, 3) := by decide +kernel
theorem d_Mod_readsNumber_30 : decode prog_14_method_12_code 30 = .ok (.aload_n 0, 1) := by decide +kernel
theorem d_Mod_readsNumber_31 : decode prog_14_method_12_code 31 = .ok (.getfield 22, 3) := by decide +kernel
theorem d_Mod_readsNumber_34 : decode prog_14_method_12_code 34 = .ok (.iload_n 1, 1) := by decide +kernel
theorem d_Mod_readsNumber_35 : decode prog_14_method_12_code 35 = .ok (.bipush 10, 2) := by decide +kernel
theorem d_Mod_readsNumber_37 : decode prog_14_method_12_code 37 = .ok (.aload_n 0, 1) := by decide +kernel
theorem d_Mod_readsNumber_38 : decode prog_14_method_12_code 38 = .ok (.getfield 22, 3) := by decide +kernel
theorem d_Mod_readsNumber_41 : decode prog_14_method_12_code 41 = .ok (.iload_n 1, 1) := by decide +kernel
theorem d_Mod_readsNumber_42 : decode prog_14_method_12_code 42 = .ok (.iaload, 1) := by decide +kernel
theorem d_Mod_readsNumber_43 : decode prog_14_method_12_code 43 = .ok (.imul, 1) := by decide +kernel
theorem d_Mod_readsNumber_44 : decode prog_14_method_12_code 44 = .ok (.aload_n 0, 1) := by decide +kernel
theorem d_Mod_readsNumber_45 : decode prog_14_method_12_code 45 = .ok (.invokevirtual 42, 3) := by decide +kernel
theorem d_Mod_readsNumber_48 : decode prog_14_method_12_code 48 = .ok (.iadd, 1) := by decide +kernel
theorem d_Mod_readsNumber_49 : decode prog_14_method_12_code 49 = .ok (.bipush 48, 2) := by decide +kernel
theorem d_Mod_readsNumber_51 : decode prog_14_method_12_code 51 = .ok (.isub, 1) := by decide +kernel
theorem d_Mod_readsNumber_52 : decode prog_14_method_12_code 52 = .ok (.iastore, 1) := by decide +kernel
theorem d_Mod_readsNumber_53 : decode prog_14_method_12_code 53 = .ok (.aload_n 0, 1) := by decide +kernel
theorem d_Mod_readsNumber_54 : decode prog_14_method_12_code 54 = .ok (.dup, 1) := by decide +kernel
theorem d_Mod_readsNumber_55 : decode prog_14_method_12_code 55 = .ok (.getfield 39, 3) := by decide +kernel
theorem d_Mod_readsNumber_58 : decode prog_14_method_12_code 58 = .ok (.iconst 1, 1) := by decide +kernel
theorem d_Mod_readsNumber_59 : decode prog_14_method_12_code 59 = .ok (.iadd, 1) := by decide +kernel
theorem d_Mod_readsNumber_60 : decode prog_14_method_12_code 60 = .ok (.putfield 39, 3) := by decide +kernel
theorem d_Mod_readsNumber_63 : decode prog_14_method_12_code 63 = .ok (.iinc 3 1, 3) := by decide +kernel
theorem d_Mod_readsNumber_66 : decode prog_14_method_12_code 66 = .ok (.goto (-48), 3) := by decide +kernel
theorem d_Mod_readsNumber_69 : decode prog_14_method_12_code 69 = .ok (.iconst 1, 1) := by decide +kernel
theorem d_Mod_readsNumber_70 : decode prog_14_method_12_code 70 = .ok (.ireturn, 1) := by decide +kernel
theorem d_Mod_markOf_0 : decode prog_14_method_13_code 0 = .ok (.iload_n 0, 1) := by decide +kernel
theorem d_Mod_markOf_1 : decode prog_14_method_13_code 1 = .ok (.tableswitch 121 98 119 #[103, 121, 121, 121, 121, 121, 105, 121, 121, 121, 121, 113, 111, 115, 118, 121, 121, 121, 121, 107, 121, 109], 103) := by decide +kernel
theorem d_Mod_markOf_104 : decode prog_14_method_13_code 104 = .ok (.iconst 0, 1) := by decide +kernel
theorem d_Mod_markOf_105 : decode prog_14_method_13_code 105 = .ok (.ireturn, 1) := by decide +kernel
theorem d_Mod_markOf_106 : decode prog_14_method_13_code 106 = .ok (.iconst 1, 1) := by decide +kernel
theorem d_Mod_markOf_107 : decode prog_14_method_13_code 107 = .ok (.ireturn, 1) := by decide +kernel
theorem d_Mod_markOf_108 : decode prog_14_method_13_code 108 = .ok (.iconst 2, 1) := by decide +kernel
theorem d_Mod_markOf_109 : decode prog_14_method_13_code 109 = .ok (.ireturn, 1) := by decide +kernel
theorem d_Mod_markOf_110 : decode prog_14_method_13_code 110 = .ok (.iconst 3, 1) := by decide +kernel
theorem d_Mod_markOf_111 : decode prog_14_method_13_code 111 = .ok (.ireturn, 1) := by decide +kernel
theorem d_Mod_markOf_112 : decode prog_14_method_13_code 112 = .ok (.iconst 4, 1) := by decide +kernel
theorem d_Mod_markOf_113 : decode prog_14_method_13_code 113 = .ok (.ireturn, 1) := by decide +kernel
theorem d_Mod_markOf_114 : decode prog_14_method_13_code 114 = .ok (.iconst 5, 1) := by decide +kernel
theorem d_Mod_markOf_115 : decode prog_14_method_13_code 115 = .ok (.ireturn, 1) := by decide +kernel
theorem d_Mod_markOf_116 : decode prog_14_method_13_code 116 = .ok (.bipush 6, 2) := by decide +kernel
theorem d_Mod_markOf_118 : decode prog_14_method_13_code 118 = .ok (.ireturn, 1) := by decide +kernel
theorem d_Mod_markOf_119 : decode prog_14_method_13_code 119 = .ok (.bipush 7, 2) := by decide +kernel
theorem d_Mod_markOf_121 : decode prog_14_method_13_code 121 = .ok (.ireturn, 1) := by decide +kernel
theorem d_Mod_markOf_122 : decode prog_14_method_13_code 122 = .ok (.bipush (-9), 2) := by decide +kernel
theorem d_Mod_markOf_124 : decode prog_14_method_13_code 124 = .ok (.ireturn, 1) := by decide +kernel
theorem d_Mod_takes_0 : decode prog_14_method_14_code 0 = .ok (.aload_n 0, 1) := by decide +kernel
theorem d_Mod_takes_1 : decode prog_14_method_14_code 1 = .ok (.invokevirtual 42, 3) := by decide +kernel
theorem d_Mod_takes_4 : decode prog_14_method_14_code 4 = .ok (.iload_n 1, 1) := by decide +kernel
theorem d_Mod_takes_5 : decode prog_14_method_14_code 5 = .ok (.if_icmp .eq 5, 3) := by decide +kernel
theorem d_Mod_takes_8 : decode prog_14_method_14_code 8 = .ok (.iconst 0, 1) := by decide +kernel
theorem d_Mod_takes_9 : decode prog_14_method_14_code 9 = .ok (.ireturn, 1) := by decide +kernel
theorem d_Mod_takes_10 : decode prog_14_method_14_code 10 = .ok (.aload_n 0, 1) := by decide +kernel
theorem d_Mod_takes_11 : decode prog_14_method_14_code 11 = .ok (.dup, 1) := by decide +kernel
theorem d_Mod_takes_12 : decode prog_14_method_14_code 12 = .ok (.getfield 39, 3) := by decide +kernel
theorem d_Mod_takes_15 : decode prog_14_method_14_code 15 = .ok (.iconst 1, 1) := by decide +kernel
theorem d_Mod_takes_16 : decode prog_14_method_14_code 16 = .ok (.iadd, 1) := by decide +kernel
theorem d_Mod_takes_17 : decode prog_14_method_14_code 17 = .ok (.putfield 39, 3) := by decide +kernel
theorem d_Mod_takes_20 : decode prog_14_method_14_code 20 = .ok (.iconst 1, 1) := by decide +kernel
theorem d_Mod_takes_21 : decode prog_14_method_14_code 21 = .ok (.ireturn, 1) := by decide +kernel
theorem d_Mod_reads_0 : decode prog_14_method_15_code 0 = .ok (.aload_n 0, 1) := by decide +kernel
theorem d_Mod_reads_1 : decode prog_14_method_15_code 1 = .ok (.iconst 0, 1) := by decide +kernel
theorem d_Mod_reads_2 : decode prog_14_method_15_code 2 = .ok (.putfield 39, 3) := by decide +kernel
theorem d_Mod_reads_5 : decode prog_14_method_15_code 5 = .ok (.iconst 0, 1) := by decide +kernel
theorem d_Mod_reads_6 : decode prog_14_method_15_code 6 = .ok (.istore_n 1, 1) := by decide +kernel
theorem d_Mod_reads_7 : decode prog_14_method_15_code 7 = .ok (.iload_n 1, 1) := by decide +kernel
theorem d_Mod_reads_8 : decode prog_14_method_15_code 8 = .ok (.iconst 3, 1) := by decide +kernel
theorem d_Mod_reads_9 : decode prog_14_method_15_code 9 = .ok (.if_icmp .ge 17, 3) := by decide +kernel
theorem d_Mod_reads_12 : decode prog_14_method_15_code 12 = .ok (.aload_n 0, 1) := by decide +kernel
theorem d_Mod_reads_13 : decode prog_14_method_15_code 13 = .ok (.getfield 22, 3) := by decide +kernel
theorem d_Mod_reads_16 : decode prog_14_method_15_code 16 = .ok (.iload_n 1, 1) := by decide +kernel
theorem d_Mod_reads_17 : decode prog_14_method_15_code 17 = .ok (.bipush (-9), 2) := by decide +kernel
theorem d_Mod_reads_19 : decode prog_14_method_15_code 19 = .ok (.iastore, 1) := by decide +kernel
theorem d_Mod_reads_20 : decode prog_14_method_15_code 20 = .ok (.iinc 1 1, 3) := by decide +kernel
theorem d_Mod_reads_23 : decode prog_14_method_15_code 23 = .ok (.goto (-16), 3) := by decide +kernel
theorem d_Mod_reads_26 : decode prog_14_method_15_code 26 = .ok (.iconst 3, 1) := by decide +kernel
theorem d_Mod_reads_27 : decode prog_14_method_15_code 27 = .ok (.istore_n 1, 1) := by decide +kernel
theorem d_Mod_reads_28 : decode prog_14_method_15_code 28 = .ok (.iload_n 1, 1) := by decide +kernel
theorem d_Mod_reads_29 : decode prog_14_method_15_code 29 = .ok (.bipush 6, 2) := by decide +kernel
theorem d_Mod_reads_31 : decode prog_14_method_15_code 31 = .ok (.if_icmp .ge 16, 3) := by decide +kernel
theorem d_Mod_reads_34 : decode prog_14_method_15_code 34 = .ok (.aload_n 0, 1) := by decide +kernel
theorem d_Mod_reads_35 : decode prog_14_method_15_code 35 = .ok (.getfield 22, 3) := by decide +kernel
theorem d_Mod_reads_38 : decode prog_14_method_15_code 38 = .ok (.iload_n 1, 1) := by decide +kernel
theorem d_Mod_reads_39 : decode prog_14_method_15_code 39 = .ok (.iconst 0, 1) := by decide +kernel
theorem d_Mod_reads_40 : decode prog_14_method_15_code 40 = .ok (.iastore, 1) := by decide +kernel
theorem d_Mod_reads_41 : decode prog_14_method_15_code 41 = .ok (.iinc 1 1, 3) := by decide +kernel
theorem d_Mod_reads_44 : decode prog_14_method_15_code 44 = .ok (.goto (-16), 3) := by decide +kernel
theorem d_Mod_reads_47 : decode prog_14_method_15_code 47 = .ok (.aload_n 0, 1) := by decide +kernel
theorem d_Mod_reads_48 : decode prog_14_method_15_code 48 = .ok (.bipush 115, 2) := by decide +kernel
theorem d_Mod_reads_50 : decode prog_14_method_15_code 50 = .ok (.invokevirtual 50, 3) := by decide +kernel
theorem d_Mod_reads_53 : decode prog_14_method_15_code 53 = .ok (.ifCond .eq 14, 3) := by decide +kernel
theorem d_Mod_reads_56 : decode prog_14_method_15_code 56 = .ok (.aload_n 0, 1) := by decide +kernel
theorem d_Mod_reads_57 : decode prog_14_method_15_code 57 = .ok (.iconst 0, 1) := by decide +kernel
theorem d_Mod_reads_58 : decode prog_14_method_15_code 58 = .ok (.iconst 3, 1) := by decide +kernel
theorem d_Mod_reads_59 : decode prog_14_method_15_code 59 = .ok (.invokevirtual 54, 3) := by decide +kernel
theorem d_Mod_reads_62 : decode prog_14_method_15_code 62 = .ok (.ifCond .ne 5, 3) := by decide +kernel
theorem d_Mod_reads_65 : decode prog_14_method_15_code 65 = .ok (.iconst 0, 1) := by decide +kernel
theorem d_Mod_reads_66 : decode prog_14_method_15_code 66 = .ok (.ireturn, 1) := by decide +kernel
theorem d_Mod_reads_67 : decode prog_14_method_15_code 67 = .ok (.aload_n 0, 1) := by decide +kernel
theorem d_Mod_reads_68 : decode prog_14_method_15_code 68 = .ok (.bipush 116, 2) := by decide +kernel
theorem d_Mod_reads_70 : decode prog_14_method_15_code 70 = .ok (.invokevirtual 50, 3) := by decide +kernel
theorem d_Mod_reads_73 : decode prog_14_method_15_code 73 = .ok (.ifCond .eq 14, 3) := by decide +kernel
theorem d_Mod_reads_76 : decode prog_14_method_15_code 76 = .ok (.aload_n 0, 1) := by decide +kernel
theorem d_Mod_reads_77 : decode prog_14_method_15_code 77 = .ok (.iconst 1, 1) := by decide +kernel
theorem d_Mod_reads_78 : decode prog_14_method_15_code 78 = .ok (.iconst 3, 1) := by decide +kernel
theorem d_Mod_reads_79 : decode prog_14_method_15_code 79 = .ok (.invokevirtual 54, 3) := by decide +kernel
theorem d_Mod_reads_82 : decode prog_14_method_15_code 82 = .ok (.ifCond .ne 5, 3) := by decide +kernel
theorem d_Mod_reads_85 : decode prog_14_method_15_code 85 = .ok (.iconst 0, 1) := by decide +kernel
theorem d_Mod_reads_86 : decode prog_14_method_15_code 86 = .ok (.ireturn, 1) := by decide +kernel
theorem d_Mod_reads_87 : decode prog_14_method_15_code 87 = .ok (.aload_n 0, 1) := by decide +kernel
theorem d_Mod_reads_88 : decode prog_14_method_15_code 88 = .ok (.bipush 99, 2) := by decide +kernel
theorem d_Mod_reads_90 : decode prog_14_method_15_code 90 = .ok (.invokevirtual 50, 3) := by decide +kernel
theorem d_Mod_reads_93 : decode prog_14_method_15_code 93 = .ok (.ifCond .eq 46, 3) := by decide +kernel
theorem d_Mod_reads_96 : decode prog_14_method_15_code 96 = .ok (.aload_n 0, 1) := by decide +kernel
theorem d_Mod_reads_97 : decode prog_14_method_15_code 97 = .ok (.invokevirtual 42, 3) := by decide +kernel
theorem d_Mod_reads_100 : decode prog_14_method_15_code 100 = .ok (.bipush 48, 2) := by decide +kernel
theorem d_Mod_reads_102 : decode prog_14_method_15_code 102 = .ok (.if_icmp .lt 12, 3) := by decide +kernel
theorem d_Mod_reads_105 : decode prog_14_method_15_code 105 = .ok (.aload_n 0, 1) := by decide +kernel
theorem d_Mod_reads_106 : decode prog_14_method_15_code 106 = .ok (.invokevirtual 42, 3) := by decide +kernel
theorem d_Mod_reads_109 : decode prog_14_method_15_code 109 = .ok (.bipush 55, 2) := by decide +kernel
theorem d_Mod_reads_111 : decode prog_14_method_15_code 111 = .ok (.if_icmp .le 5, 3) := by decide +kernel
theorem d_Mod_reads_114 : decode prog_14_method_15_code 114 = .ok (.iconst 0, 1) := by decide +kernel
theorem d_Mod_reads_115 : decode prog_14_method_15_code 115 = .ok (.ireturn, 1) := by decide +kernel
theorem d_Mod_reads_116 : decode prog_14_method_15_code 116 = .ok (.aload_n 0, 1) := by decide +kernel
theorem d_Mod_reads_117 : decode prog_14_method_15_code 117 = .ok (.getfield 22, 3) := by decide +kernel
theorem d_Mod_reads_120 : decode prog_14_method_15_code 120 = .ok (.iconst 2, 1) := by decide +kernel
theorem d_Mod_reads_121 : decode prog_14_method_15_code 121 = .ok (.aload_n 0, 1) := by decide +kernel
theorem d_Mod_reads_122 : decode prog_14_method_15_code 122 = .ok (.invokevirtual 42, 3) := by decide +kernel
theorem d_Mod_reads_125 : decode prog_14_method_15_code 125 = .ok (.bipush 48, 2) := by decide +kernel
theorem d_Mod_reads_127 : decode prog_14_method_15_code 127 = .ok (.isub, 1) := by decide +kernel
theorem d_Mod_reads_128 : decode prog_14_method_15_code 128 = .ok (.iastore, 1) := by decide +kernel
theorem d_Mod_reads_129 : decode prog_14_method_15_code 129 = .ok (.aload_n 0, 1) := by decide +kernel
theorem d_Mod_reads_130 : decode prog_14_method_15_code 130 = .ok (.dup, 1) := by decide +kernel
theorem d_Mod_reads_131 : decode prog_14_method_15_code 131 = .ok (.getfield 39, 3) := by decide +kernel
theorem d_Mod_reads_134 : decode prog_14_method_15_code 134 = .ok (.iconst 1, 1) := by decide +kernel
theorem d_Mod_reads_135 : decode prog_14_method_15_code 135 = .ok (.iadd, 1) := by decide +kernel
theorem d_Mod_reads_136 : decode prog_14_method_15_code 136 = .ok (.putfield 39, 3) := by decide +kernel
theorem d_Mod_reads_139 : decode prog_14_method_15_code 139 = .ok (.iconst (-1), 1) := by decide +kernel
theorem d_Mod_reads_140 : decode prog_14_method_15_code 140 = .ok (.istore_n 1, 1) := by decide +kernel
theorem d_Mod_reads_141 : decode prog_14_method_15_code 141 = .ok (.aload_n 0, 1) := by decide +kernel
theorem d_Mod_reads_142 : decode prog_14_method_15_code 142 = .ok (.invokevirtual 42, 3) := by decide +kernel
theorem d_Mod_reads_145 : decode prog_14_method_15_code 145 = .ok (.invokestatic 57, 3) := by decide +kernel
theorem d_Mod_reads_148 : decode prog_14_method_15_code 148 = .ok (.iload_n 1, 1) := by decide +kernel
theorem d_Mod_reads_149 : decode prog_14_method_15_code 149 = .ok (.if_icmp .le 36, 3) := by decide +kernel
theorem d_Mod_reads_152 : decode prog_14_method_15_code 152 = .ok (.aload_n 0, 1) := by decide +kernel
theorem d_Mod_reads_153 : decode prog_14_method_15_code 153 = .ok (.invokevirtual 42, 3) := by decide +kernel
theorem d_Mod_reads_156 : decode prog_14_method_15_code 156 = .ok (.invokestatic 57, 3) := by decide +kernel
theorem d_Mod_reads_159 : decode prog_14_method_15_code 159 = .ok (.istore_n 1, 1) := by decide +kernel
theorem d_Mod_reads_160 : decode prog_14_method_15_code 160 = .ok (.aload_n 0, 1) := by decide +kernel
theorem d_Mod_reads_161 : decode prog_14_method_15_code 161 = .ok (.getfield 22, 3) := by decide +kernel
theorem d_Mod_reads_164 : decode prog_14_method_15_code 164 = .ok (.iconst 3, 1) := by decide +kernel
theorem d_Mod_reads_165 : decode prog_14_method_15_code 165 = .ok (.dup2, 1) := by decide +kernel
theorem d_Mod_reads_166 : decode prog_14_method_15_code 166 = .ok (.iaload, 1) := by decide +kernel
theorem d_Mod_reads_167 : decode prog_14_method_15_code 167 = .ok (.iconst 1, 1) := by decide +kernel
theorem d_Mod_reads_168 : decode prog_14_method_15_code 168 = .ok (.iload_n 1, 1) := by decide +kernel
theorem d_Mod_reads_169 : decode prog_14_method_15_code 169 = .ok (.ishl, 1) := by decide +kernel
theorem d_Mod_reads_170 : decode prog_14_method_15_code 170 = .ok (.ior, 1) := by decide +kernel
theorem d_Mod_reads_171 : decode prog_14_method_15_code 171 = .ok (.iastore, 1) := by decide +kernel
theorem d_Mod_reads_172 : decode prog_14_method_15_code 172 = .ok (.aload_n 0, 1) := by decide +kernel
theorem d_Mod_reads_173 : decode prog_14_method_15_code 173 = .ok (.dup, 1) := by decide +kernel
theorem d_Mod_reads_174 : decode prog_14_method_15_code 174 = .ok (.getfield 39, 3) := by decide +kernel
theorem d_Mod_reads_177 : decode prog_14_method_15_code 177 = .ok (.iconst 1, 1) := by decide +kernel
theorem d_Mod_reads_178 : decode prog_14_method_15_code 178 = .ok (.iadd, 1) := by decide +kernel
theorem d_Mod_reads_179 : decode prog_14_method_15_code 179 = .ok (.putfield 39, 3) := by decide +kernel
theorem d_Mod_reads_182 : decode prog_14_method_15_code 182 = .ok (.goto (-41), 3) := by decide +kernel
theorem d_Mod_reads_185 : decode prog_14_method_15_code 185 = .ok (.aload_n 0, 1) := by decide +kernel
theorem d_Mod_reads_186 : decode prog_14_method_15_code 186 = .ok (.bipush 64, 2) := by decide +kernel
theorem d_Mod_reads_188 : decode prog_14_method_15_code 188 = .ok (.invokevirtual 50, 3) := by decide +kernel
theorem d_Mod_reads_191 : decode prog_14_method_15_code 191 = .ok (.ifCond .eq 12, 3) := by decide +kernel
theorem d_Mod_reads_194 : decode prog_14_method_15_code 194 = .ok (.aload_n 0, 1) := by decide +kernel
theorem d_Mod_reads_195 : decode prog_14_method_15_code 195 = .ok (.iconst 4, 1) := by decide +kernel
theorem d_Mod_reads_196 : decode prog_14_method_15_code 196 = .ok (.iconst 2, 1) := by decide +kernel
theorem d_Mod_reads_197 : decode prog_14_method_15_code 197 = .ok (.invokevirtual 54, 3) := by decide +kernel
theorem d_Mod_reads_200 : decode prog_14_method_15_code 200 = .ok (.ifCond .ne 5, 3) := by decide +kernel
theorem d_Mod_reads_203 : decode prog_14_method_15_code 203 = .ok (.iconst 0, 1) := by decide +kernel
theorem d_Mod_reads_204 : decode prog_14_method_15_code 204 = .ok (.ireturn, 1) := by decide +kernel
theorem d_Mod_reads_205 : decode prog_14_method_15_code 205 = .ok (.aload_n 0, 1) := by decide +kernel
theorem d_Mod_reads_206 : decode prog_14_method_15_code 206 = .ok (.getfield 22, 3) := by decide +kernel
theorem d_Mod_reads_209 : decode prog_14_method_15_code 209 = .ok (.iconst 5, 1) := by decide +kernel
theorem d_Mod_reads_210 : decode prog_14_method_15_code 210 = .ok (.aload_n 0, 1) := by decide +kernel
theorem d_Mod_reads_211 : decode prog_14_method_15_code 211 = .ok (.bipush 63, 2) := by decide +kernel
theorem d_Mod_reads_213 : decode prog_14_method_15_code 213 = .ok (.invokevirtual 50, 3) := by decide +kernel
theorem d_Mod_reads_216 : decode prog_14_method_15_code 216 = .ok (.ifCond .eq 7, 3) := by decide +kernel
theorem d_Mod_reads_219 : decode prog_14_method_15_code 219 = .ok (.iconst 1, 1) := by decide +kernel
theorem d_Mod_reads_220 : decode prog_14_method_15_code 220 = .ok (.goto 4, 3) := by decide +kernel
theorem d_Mod_reads_223 : decode prog_14_method_15_code 223 = .ok (.iconst 0, 1) := by decide +kernel
theorem d_Mod_reads_224 : decode prog_14_method_15_code 224 = .ok (.iastore, 1) := by decide +kernel
theorem d_Mod_reads_225 : decode prog_14_method_15_code 225 = .ok (.aload_n 0, 1) := by decide +kernel
theorem d_Mod_reads_226 : decode prog_14_method_15_code 226 = .ok (.getfield 39, 3) := by decide +kernel
theorem d_Mod_reads_229 : decode prog_14_method_15_code 229 = .ok (.aload_n 0, 1) := by decide +kernel
theorem d_Mod_reads_230 : decode prog_14_method_15_code 230 = .ok (.getfield 33, 3) := by decide +kernel
theorem d_Mod_reads_233 : decode prog_14_method_15_code 233 = .ok (.if_icmp .ne 7, 3) := by decide +kernel
theorem d_Mod_reads_236 : decode prog_14_method_15_code 236 = .ok (.iconst 1, 1) := by decide +kernel
theorem d_Mod_reads_237 : decode prog_14_method_15_code 237 = .ok (.goto 4, 3) := by decide +kernel
theorem d_Mod_reads_240 : decode prog_14_method_15_code 240 = .ok (.iconst 0, 1) := by decide +kernel
theorem d_Mod_reads_241 : decode prog_14_method_15_code 241 = .ok (.ireturn, 1) := by decide +kernel
theorem d_Mod_telling_0 : decode prog_14_method_16_code 0 = .ok (.aload_n 0, 1) := by decide +kernel
theorem d_Mod_telling_1 : decode prog_14_method_16_code 1 = .ok (.getfield 13, 3) := by decide +kernel
theorem d_Mod_telling_4 : decode prog_14_method_16_code 4 = .ok (.iconst 0, 1) := by decide +kernel
theorem d_Mod_telling_5 : decode prog_14_method_16_code 5 = .ok (.iaload, 1) := by decide +kernel
theorem d_Mod_telling_6 : decode prog_14_method_16_code 6 = .ok (.bipush 30, 2) := by decide +kernel
theorem d_Mod_telling_8 : decode prog_14_method_16_code 8 = .ok (.if_icmp .ne 10, 3) := by decide +kernel
theorem d_Mod_telling_11 : decode prog_14_method_16_code 11 = .ok (.aload_n 0, 1) := by decide +kernel
theorem d_Mod_telling_12 : decode prog_14_method_16_code 12 = .ok (.bipush (-6), 2) := by decide +kernel
theorem d_Mod_telling_14 : decode prog_14_method_16_code 14 = .ok (.invokevirtual 29, 3) := by decide +kernel
theorem d_Mod_telling_17 : decode prog_14_method_16_code 17 = .ok (.ireturn, 1) := by decide +kernel
theorem d_Mod_telling_18 : decode prog_14_method_16_code 18 = .ok (.aload_n 0, 1) := by decide +kernel
theorem d_Mod_telling_19 : decode prog_14_method_16_code 19 = .ok (.invokevirtual 60, 3) := by decide +kernel
theorem d_Mod_telling_22 : decode prog_14_method_16_code 22 = .ok (.istore_n 1, 1) := by decide +kernel
theorem d_Mod_telling_23 : decode prog_14_method_16_code 23 = .ok (.aload_n 0, 1) := by decide +kernel
theorem d_Mod_telling_24 : decode prog_14_method_16_code 24 = .ok (.iconst 0, 1) := by decide +kernel
theorem d_Mod_telling_25 : decode prog_14_method_16_code 25 = .ok (.putfield 33, 3) := by decide +kernel
theorem d_Mod_telling_28 : decode prog_14_method_16_code 28 = .ok (.iload_n 1, 1) := by decide +kernel
theorem d_Mod_telling_29 : decode prog_14_method_16_code 29 = .ok (.ifCond .ne 11, 3) := by decide +kernel
theorem d_Mod_telling_32 : decode prog_14_method_16_code 32 = .ok (.bipush (-20), 2) := by decide +kernel
theorem d_Mod_telling_34 : decode prog_14_method_16_code 34 = .ok (.aload_n 0, 1) := by decide +kernel
theorem d_Mod_telling_35 : decode prog_14_method_16_code 35 = .ok (.getfield 39, 3) := by decide +kernel
theorem d_Mod_telling_38 : decode prog_14_method_16_code 38 = .ok (.isub, 1) := by decide +kernel
theorem d_Mod_telling_39 : decode prog_14_method_16_code 39 = .ok (.ireturn, 1) := by decide +kernel
theorem d_Mod_telling_40 : decode prog_14_method_16_code 40 = .ok (.iconst 0, 1) := by decide +kernel
theorem d_Mod_telling_41 : decode prog_14_method_16_code 41 = .ok (.istore_n 2, 1) := by decide +kernel
theorem d_Mod_telling_42 : decode prog_14_method_16_code 42 = .ok (.iload_n 2, 1) := by decide +kernel
theorem d_Mod_telling_43 : decode prog_14_method_16_code 43 = .ok (.bipush 6, 2) := by decide +kernel
theorem d_Mod_telling_45 : decode prog_14_method_16_code 45 = .ok (.if_icmp .ge 34, 3) := by decide +kernel
theorem d_Mod_telling_48 : decode prog_14_method_16_code 48 = .ok (.aload_n 0, 1) := by decide +kernel
theorem d_Mod_telling_49 : decode prog_14_method_16_code 49 = .ok (.getfield 13, 3) := by decide +kernel
theorem d_Mod_telling_52 : decode prog_14_method_16_code 52 = .ok (.bipush 6, 2) := by decide +kernel
theorem d_Mod_telling_54 : decode prog_14_method_16_code 54 = .ok (.bipush 6, 2) := by decide +kernel
theorem d_Mod_telling_56 : decode prog_14_method_16_code 56 = .ok (.aload_n 0, 1) := by decide +kernel
theorem d_Mod_telling_57 : decode prog_14_method_16_code 57 = .ok (.getfield 13, 3) := by decide +kernel
theorem d_Mod_telling_60 : decode prog_14_method_16_code 60 = .ok (.iconst 0, 1) := by decide +kernel
theorem d_Mod_telling_61 : decode prog_14_method_16_code 61 = .ok (.iaload, 1) := by decide +kernel
theorem d_Mod_telling_62 : decode prog_14_method_16_code 62 = .ok (.imul, 1) := by decide +kernel
theorem d_Mod_telling_63 : decode prog_14_method_16_code 63 = .ok (.iadd, 1) := by decide +kernel
theorem d_Mod_telling_64 : decode prog_14_method_16_code 64 = .ok (.iload_n 2, 1) := by decide +kernel
theorem d_Mod_telling_65 : decode prog_14_method_16_code 65 = .ok (.iadd, 1) := by decide +kernel
theorem d_Mod_telling_66 : decode prog_14_method_16_code 66 = .ok (.aload_n 0, 1) := by decide +kernel
theorem d_Mod_telling_67 : decode prog_14_method_16_code 67 = .ok (.getfield 22, 3) := by decide +kernel
theorem d_Mod_telling_70 : decode prog_14_method_16_code 70 = .ok (.iload_n 2, 1) := by decide +kernel
theorem d_Mod_telling_71 : decode prog_14_method_16_code 71 = .ok (.iaload, 1) := by decide +kernel
theorem d_Mod_telling_72 : decode prog_14_method_16_code 72 = .ok (.iastore, 1) := by decide +kernel
theorem d_Mod_telling_73 : decode prog_14_method_16_code 73 = .ok (.iinc 2 1, 3) := by decide +kernel
theorem d_Mod_telling_76 : decode prog_14_method_16_code 76 = .ok (.goto (-34), 3) := by decide +kernel
theorem d_Mod_telling_79 : decode prog_14_method_16_code 79 = .ok (.aload_n 0, 1) := by decide +kernel
theorem d_Mod_telling_80 : decode prog_14_method_16_code 80 = .ok (.getfield 13, 3) := by decide +kernel
theorem d_Mod_telling_83 : decode prog_14_method_16_code 83 = .ok (.iconst 0, 1) := by decide +kernel
theorem d_Mod_telling_84 : decode prog_14_method_16_code 84 = .ok (.dup2, 1) := by decide +kernel
theorem d_Mod_telling_85 : decode prog_14_method_16_code 85 = .ok (.iaload, 1) := by decide +kernel
theorem d_Mod_telling_86 : decode prog_14_method_16_code 86 = .ok (.iconst 1, 1) := by decide +kernel
theorem d_Mod_telling_87 : decode prog_14_method_16_code 87 = .ok (.iadd, 1) := by decide +kernel
theorem d_Mod_telling_88 : decode prog_14_method_16_code 88 = .ok (.iastore, 1) := by decide +kernel
theorem d_Mod_telling_89 : decode prog_14_method_16_code 89 = .ok (.aload_n 0, 1) := by decide +kernel
theorem d_Mod_telling_90 : decode prog_14_method_16_code 90 = .ok (.getfield 13, 3) := by decide +kernel
theorem d_Mod_telling_93 : decode prog_14_method_16_code 93 = .ok (.iconst 0, 1) := by decide +kernel
theorem d_Mod_telling_94 : decode prog_14_method_16_code 94 = .ok (.iaload, 1) := by decide +kernel
theorem d_Mod_telling_95 : decode prog_14_method_16_code 95 = .ok (.iconst 1, 1) := by decide +kernel
theorem d_Mod_telling_96 : decode prog_14_method_16_code 96 = .ok (.isub, 1) := by decide +kernel
theorem d_Mod_telling_97 : decode prog_14_method_16_code 97 = .ok (.ireturn, 1) := by decide +kernel
theorem d_Mod_tellingOf_0 : decode prog_14_method_17_code 0 = .ok (.aload_n 0, 1) := by decide +kernel
theorem d_Mod_tellingOf_1 : decode prog_14_method_17_code 1 = .ok (.iload_n 1, 1) := by decide +kernel
theorem d_Mod_tellingOf_2 : decode prog_14_method_17_code 2 = .ok (.invokevirtual 63, 3) := by decide +kernel
theorem d_Mod_tellingOf_5 : decode prog_14_method_17_code 5 = .ok (.ifCond .ne 11, 3) := by decide +kernel
theorem d_Mod_tellingOf_8 : decode prog_14_method_17_code 8 = .ok (.aload_n 0, 1) := by decide +kernel
theorem d_Mod_tellingOf_9 : decode prog_14_method_17_code 9 = .ok (.iconst (-1), 1) := by decide +kernel
theorem d_Mod_tellingOf_10 : decode prog_14_method_17_code 10 = .ok (.invokevirtual 29, 3) := by decide +kernel
theorem d_Mod_tellingOf_13 : decode prog_14_method_17_code 13 = .ok (.goto 27, 3) := by decide +kernel
theorem d_Mod_tellingOf_16 : decode prog_14_method_17_code 16 = .ok (.iload_n 2, 1) := by decide +kernel
theorem d_Mod_tellingOf_17 : decode prog_14_method_17_code 17 = .ok (.bipush 6, 2) := by decide +kernel
theorem d_Mod_tellingOf_19 : decode prog_14_method_17_code 19 = .ok (.invokestatic 25, 3) := by decide +kernel
theorem d_Mod_tellingOf_22 : decode prog_14_method_17_code 22 = .ok (.ifCond .eq 12, 3) := by decide +kernel
theorem d_Mod_tellingOf_25 : decode prog_14_method_17_code 25 = .ok (.aload_n 0, 1) := by decide +kernel
theorem d_Mod_tellingOf_26 : decode prog_14_method_17_code 26 = .ok (.iload_n 1, 1) := by decide +kernel
theorem d_Mod_tellingOf_27 : decode prog_14_method_17_code 27 = .ok (.iload_n 2, 1) := by decide +kernel
theorem d_Mod_tellingOf_28 : decode prog_14_method_17_code 28 = .ok (.invokevirtual 66, 3) := by decide +kernel
theorem d_Mod_tellingOf_31 : decode prog_14_method_17_code 31 = .ok (.goto 9, 3) := by decide +kernel
theorem d_Mod_tellingOf_34 : decode prog_14_method_17_code 34 = .ok (.aload_n 0, 1) := by decide +kernel
theorem d_Mod_tellingOf_35 : decode prog_14_method_17_code 35 = .ok (.bipush (-2), 2) := by decide +kernel
theorem d_Mod_tellingOf_37 : decode prog_14_method_17_code 37 = .ok (.invokevirtual 29, 3) := by decide +kernel
theorem d_Mod_tellingOf_40 : decode prog_14_method_17_code 40 = .ok (.ireturn, 1) := by decide +kernel
theorem d_Mod_isMarked_0 : decode prog_14_method_18_code 0 = .ok (.aload_n 0, 1) := by decide +kernel
theorem d_Mod_isMarked_1 : decode prog_14_method_18_code 1 = .ok (.iload_n 1, 1) := by decide +kernel
theorem d_Mod_isMarked_2 : decode prog_14_method_18_code 2 = .ok (.iconst 3, 1) := by decide +kernel
theorem d_Mod_isMarked_3 : decode prog_14_method_18_code 3 = .ok (.invokevirtual 66, 3) := by decide +kernel
theorem d_Mod_isMarked_6 : decode prog_14_method_18_code 6 = .ok (.iload_n 2, 1) := by decide +kernel
theorem d_Mod_isMarked_7 : decode prog_14_method_18_code 7 = .ok (.ishr, 1) := by decide +kernel
theorem d_Mod_isMarked_8 : decode prog_14_method_18_code 8 = .ok (.iconst 1, 1) := by decide +kernel
theorem d_Mod_isMarked_9 : decode prog_14_method_18_code 9 = .ok (.iand, 1) := by decide +kernel
theorem d_Mod_isMarked_10 : decode prog_14_method_18_code 10 = .ok (.iconst 1, 1) := by decide +kernel
theorem d_Mod_isMarked_11 : decode prog_14_method_18_code 11 = .ok (.if_icmp .ne 7, 3) := by decide +kernel
theorem d_Mod_isMarked_14 : decode prog_14_method_18_code 14 = .ok (.iconst 1, 1) := by decide +kernel
theorem d_Mod_isMarked_15 : decode prog_14_method_18_code 15 = .ok (.goto 4, 3) := by decide +kernel
theorem d_Mod_isMarked_18 : decode prog_14_method_18_code 18 = .ok (.iconst 0, 1) := by decide +kernel
theorem d_Mod_isMarked_19 : decode prog_14_method_18_code 19 = .ok (.ireturn, 1) := by decide +kernel
theorem d_Mod_kindOf_0 : decode prog_14_method_19_code 0 = .ok (.aload_n 0, 1) := by decide +kernel
theorem d_Mod_kindOf_1 : decode prog_14_method_19_code 1 = .ok (.iload_n 1, 1) := by decide +kernel
theorem d_Mod_kindOf_2 : decode prog_14_method_19_code 2 = .ok (.iconst 5, 1) := by decide +kernel
theorem d_Mod_kindOf_3 : decode prog_14_method_19_code 3 = .ok (.invokevirtual 66, 3) := by decide +kernel
theorem d_Mod_kindOf_6 : decode prog_14_method_19_code 6 = .ok (.iconst 1, 1) := by decide +kernel
theorem d_Mod_kindOf_7 : decode prog_14_method_19_code 7 = .ok (.if_icmp .ne 5, 3) := by decide +kernel
theorem d_Mod_kindOf_10 : decode prog_14_method_19_code 10 = .ok (.iconst 5, 1) := by decide +kernel
theorem d_Mod_kindOf_11 : decode prog_14_method_19_code 11 = .ok (.ireturn, 1) := by decide +kernel
theorem d_Mod_kindOf_12 : decode prog_14_method_19_code 12 = .ok (.aload_n 0, 1) := by decide +kernel
theorem d_Mod_kindOf_13 : decode prog_14_method_19_code 13 = .ok (.iload_n 1, 1) := by decide +kernel
theorem d_Mod_kindOf_14 : decode prog_14_method_19_code 14 = .ok (.iconst 5, 1) := by decide +kernel
theorem d_Mod_kindOf_15 : decode prog_14_method_19_code 15 = .ok (.invokevirtual 70, 3) := by decide +kernel
theorem d_Mod_kindOf_18 : decode prog_14_method_19_code 18 = .ok (.ifCond .eq 15, 3) := by decide +kernel
theorem d_Mod_kindOf_21 : decode prog_14_method_19_code 21 = .ok (.aload_n 0, 1) := by decide +kernel
theorem d_Mod_kindOf_22 : decode prog_14_method_19_code 22 = .ok (.iload_n 1, 1) := by decide +kernel
theorem d_Mod_kindOf_23 : decode prog_14_method_19_code 23 = .ok (.bipush 6, 2) := by decide +kernel
theorem d_Mod_kindOf_25 : decode prog_14_method_19_code 25 = .ok (.invokevirtual 70, 3) := by decide +kernel
theorem d_Mod_kindOf_28 : decode prog_14_method_19_code 28 = .ok (.ifCond .ne 5, 3) := by decide +kernel
theorem d_Mod_kindOf_31 : decode prog_14_method_19_code 31 = .ok (.iconst 3, 1) := by decide +kernel
theorem d_Mod_kindOf_32 : decode prog_14_method_19_code 32 = .ok (.ireturn, 1) := by decide +kernel
theorem d_Mod_kindOf_33 : decode prog_14_method_19_code 33 = .ok (.aload_n 0, 1) := by decide +kernel
theorem d_Mod_kindOf_34 : decode prog_14_method_19_code 34 = .ok (.iload_n 1, 1) := by decide +kernel
theorem d_Mod_kindOf_35 : decode prog_14_method_19_code 35 = .ok (.iconst 4, 1) := by decide +kernel
theorem d_Mod_kindOf_36 : decode prog_14_method_19_code 36 = .ok (.invokevirtual 70, 3) := by decide +kernel
theorem d_Mod_kindOf_39 : decode prog_14_method_19_code 39 = .ok (.ifCond .eq 18, 3) := by decide +kernel
theorem d_Mod_kindOf_42 : decode prog_14_method_19_code 42 = .ok (.aload_n 0, 1) := by decide +kernel
theorem d_Mod_kindOf_43 : decode prog_14_method_19_code 43 = .ok (.iload_n 1, 1) := by decide +kernel
theorem d_Mod_kindOf_44 : decode prog_14_method_19_code 44 = .ok (.iconst 3, 1) := by decide +kernel
theorem d_Mod_kindOf_45 : decode prog_14_method_19_code 45 = .ok (.invokevirtual 70, 3) := by decide +kernel
theorem d_Mod_kindOf_48 : decode prog_14_method_19_code 48 = .ok (.ifCond .eq 7, 3) := by decide +kernel
theorem d_Mod_kindOf_51 : decode prog_14_method_19_code 51 = .ok (.iconst 2, 1) := by decide +kernel
theorem d_Mod_kindOf_52 : decode prog_14_method_19_code 52 = .ok (.goto 4, 3) := by decide +kernel
theorem d_Mod_kindOf_55 : decode prog_14_method_19_code 55 = .ok (.iconst 1, 1) := by decide +kernel
theorem d_Mod_kindOf_56 : decode prog_14_method_19_code 56 = .ok (.ireturn, 1) := by decide +kernel
theorem d_Mod_kindOf_57 : decode prog_14_method_19_code 57 = .ok (.aload_n 0, 1) := by decide +kernel
theorem d_Mod_kindOf_58 : decode prog_14_method_19_code 58 = .ok (.iload_n 1, 1) := by decide +kernel
theorem d_Mod_kindOf_59 : decode prog_14_method_19_code 59 = .ok (.iconst 4, 1) := by decide +kernel
theorem d_Mod_kindOf_60 : decode prog_14_method_19_code 60 = .ok (.invokevirtual 66, 3) := by decide +kernel
theorem d_Mod_kindOf_63 : decode prog_14_method_19_code 63 = .ok (.bipush 20, 2) := by decide +kernel
theorem d_Mod_kindOf_65 : decode prog_14_method_19_code 65 = .ok (.if_icmp .lt 7, 3) := by decide +kernel
theorem d_Mod_kindOf_68 : decode prog_14_method_19_code 68 = .ok (.iconst 4, 1) := by decide +kernel
theorem d_Mod_kindOf_69 : decode prog_14_method_19_code 69 = .ok (.goto 4, 3) := by decide +kernel
theorem d_Mod_kindOf_72 : decode prog_14_method_19_code 72 = .ok (.iconst 0, 1) := by decide +kernel
theorem d_Mod_kindOf_73 : decode prog_14_method_19_code 73 = .ok (.ireturn, 1) := by decide +kernel
theorem d_Mod_kind_0 : decode prog_14_method_20_code 0 = .ok (.aload_n 0, 1) := by decide +kernel
theorem d_Mod_kind_1 : decode prog_14_method_20_code 1 = .ok (.iload_n 1, 1) := by decide +kernel
theorem d_Mod_kind_2 : decode prog_14_method_20_code 2 = .ok (.invokevirtual 63, 3) := by decide +kernel
theorem d_Mod_kind_5 : decode prog_14_method_20_code 5 = .ok (.ifCond .eq 11, 3) := by decide +kernel
theorem d_Mod_kind_8 : decode prog_14_method_20_code 8 = .ok (.aload_n 0, 1) := by decide +kernel
theorem d_Mod_kind_9 : decode prog_14_method_20_code 9 = .ok (.iload_n 1, 1) := by decide +kernel
theorem d_Mod_kind_10 : decode prog_14_method_20_code 10 = .ok (.invokevirtual 73, 3) := by decide +kernel
theorem d_Mod_kind_13 : decode prog_14_method_20_code 13 = .ok (.goto 8, 3) := by decide +kernel
theorem d_Mod_kind_16 : decode prog_14_method_20_code 16 = .ok (.aload_n 0, 1) := by decide +kernel
theorem d_Mod_kind_17 : decode prog_14_method_20_code 17 = .ok (.iconst (-1), 1) := by decide +kernel
theorem d_Mod_kind_18 : decode prog_14_method_20_code 18 = .ok (.invokevirtual 29, 3) := by decide +kernel
theorem d_Mod_kind_21 : decode prog_14_method_20_code 21 = .ok (.ireturn, 1) := by decide +kernel
theorem d_Mod_weightOf_0 : decode prog_14_method_21_code 0 = .ok (.aload_n 0, 1) := by decide +kernel
theorem d_Mod_weightOf_1 : decode prog_14_method_21_code 1 = .ok (.iload_n 1, 1) := by decide +kernel
theorem d_Mod_weightOf_2 : decode prog_14_method_21_code 2 = .ok (.invokevirtual 73, 3) := by decide +kernel
theorem d_Mod_weightOf_5 : decode prog_14_method_21_code 5 = .ok (.tableswitch 78 1 5 #[35, 38, 61, 63, 76], 35) := by decide +kernel
theorem d_Mod_weightOf_40 : decode prog_14_method_21_code 40 = .ok (.bipush 15, 2) := by decide +kernel
theorem d_Mod_weightOf_42 : decode prog_14_method_21_code 42 = .ok (.ireturn, 1) := by decide +kernel
theorem d_Mod_weightOf_43 : decode prog_14_method_21_code 43 = .ok (.bipush 15, 2) := by decide +kernel
theorem d_Mod_weightOf_45 : decode prog_14_method_21_code 45 = .ok (.aload_n 0, 1) := by decide +kernel
theorem d_Mod_weightOf_46 : decode prog_14_method_21_code 46 = .ok (.iload_n 1, 1) := by decide +kernel
theorem d_Mod_weightOf_47 : decode prog_14_method_21_code 47 = .ok (.iconst 1, 1) := by decide +kernel
theorem d_Mod_weightOf_48 : decode prog_14_method_21_code 48 = .ok (.invokevirtual 66, 3) := by decide +kernel
theorem d_Mod_weightOf_51 : decode prog_14_method_21_code 51 = .ok (.ifCond .ge 7, 3) := by decide +kernel
theorem d_Mod_weightOf_54 : decode prog_14_method_21_code 54 = .ok (.iconst 0, 1) := by decide +kernel
theorem d_Mod_weightOf_55 : decode prog_14_method_21_code 55 = .ok (.goto 9, 3) := by decide +kernel
theorem d_Mod_weightOf_58 : decode prog_14_method_21_code 58 = .ok (.aload_n 0, 1) := by decide +kernel
theorem d_Mod_weightOf_59 : decode prog_14_method_21_code 59 = .ok (.iload_n 1, 1) := by decide +kernel
theorem d_Mod_weightOf_60 : decode prog_14_method_21_code 60 = .ok (.iconst 1, 1) := by decide +kernel
theorem d_Mod_weightOf_61 : decode prog_14_method_21_code 61 = .ok (.invokevirtual 66, 3) := by decide +kernel
theorem d_Mod_weightOf_64 : decode prog_14_method_21_code 64 = .ok (.iadd, 1) := by decide +kernel
theorem d_Mod_weightOf_65 : decode prog_14_method_21_code 65 = .ok (.ireturn, 1) := by decide +kernel
theorem d_Mod_weightOf_66 : decode prog_14_method_21_code 66 = .ok (.iconst 5, 1) := by decide +kernel
theorem d_Mod_weightOf_67 : decode prog_14_method_21_code 67 = .ok (.ireturn, 1) := by decide +kernel
theorem d_Mod_weightOf_68 : decode prog_14_method_21_code 68 = .ok (.bipush 8, 2) := by decide +kernel
theorem d_Mod_weightOf_70 : decode prog_14_method_21_code 70 = .ok (.aload_n 0, 1) := by decide +kernel
theorem d_Mod_weightOf_71 : decode prog_14_method_21_code 71 = .ok (.iload_n 1, 1) := by decide +kernel
theorem d_Mod_weightOf_72 : decode prog_14_method_21_code 72 = .ok (.iconst 4, 1) := by decide +kernel
theorem d_Mod_weightOf_73 : decode prog_14_method_21_code 73 = .ok (.invokevirtual 66, 3) := by decide +kernel
theorem d_Mod_weightOf_76 : decode prog_14_method_21_code 76 = .ok (.bipush 20, 2) := by decide +kernel
theorem d_Mod_weightOf_78 : decode prog_14_method_21_code 78 = .ok (.idiv, 1) := by decide +kernel
theorem d_Mod_weightOf_79 : decode prog_14_method_21_code 79 = .ok (.isub, 1) := by decide +kernel
theorem d_Mod_weightOf_80 : decode prog_14_method_21_code 80 = .ok (.ireturn, 1) := by decide +kernel
theorem d_Mod_weightOf_81 : decode prog_14_method_21_code 81 = .ok (.iconst 1, 1) := by decide +kernel
theorem d_Mod_weightOf_82 : decode prog_14_method_21_code 82 = .ok (.ireturn, 1) := by decide +kernel
theorem d_Mod_weightOf_83 : decode prog_14_method_21_code 83 = .ok (.bipush 8, 2) := by decide +kernel
theorem d_Mod_weightOf_85 : decode prog_14_method_21_code 85 = .ok (.ireturn, 1) := by decide +kernel
theorem d_Mod_weight_0 : decode prog_14_method_22_code 0 = .ok (.aload_n 0, 1) := by decide +kernel
theorem d_Mod_weight_1 : decode prog_14_method_22_code 1 = .ok (.iload_n 1, 1) := by decide +kernel
theorem d_Mod_weight_2 : decode prog_14_method_22_code 2 = .ok (.invokevirtual 63, 3) := by decide +kernel
theorem d_Mod_weight_5 : decode prog_14_method_22_code 5 = .ok (.ifCond .eq 11, 3) := by decide +kernel
theorem d_Mod_weight_8 : decode prog_14_method_22_code 8 = .ok (.aload_n 0, 1) := by decide +kernel
theorem d_Mod_weight_9 : decode prog_14_method_22_code 9 = .ok (.iload_n 1, 1) := by decide +kernel
theorem d_Mod_weight_10 : decode prog_14_method_22_code 10 = .ok (.invokevirtual 76, 3) := by decide +kernel
theorem d_Mod_weight_13 : decode prog_14_method_22_code 13 = .ok (.goto 8, 3) := by decide +kernel
theorem d_Mod_weight_16 : decode prog_14_method_22_code 16 = .ok (.aload_n 0, 1) := by decide +kernel
theorem d_Mod_weight_17 : decode prog_14_method_22_code 17 = .ok (.iconst (-1), 1) := by decide +kernel
theorem d_Mod_weight_18 : decode prog_14_method_22_code 18 = .ok (.invokevirtual 29, 3) := by decide +kernel
theorem d_Mod_weight_21 : decode prog_14_method_22_code 21 = .ok (.ireturn, 1) := by decide +kernel
theorem d_Mod_law_0 : decode prog_14_method_23_code 0 = .ok (.iload_n 1, 1) := by decide +kernel
theorem d_Mod_law_1 : decode prog_14_method_23_code 1 = .ok (.invokestatic 79, 3) := by decide +kernel
theorem d_Mod_law_4 : decode prog_14_method_23_code 4 = .ok (.ifCond .ne 9, 3) := by decide +kernel
theorem d_Mod_law_7 : decode prog_14_method_23_code 7 = .ok (.aload_n 0, 1) := by decide +kernel
theorem d_Mod_law_8 : decode prog_14_method_23_code 8 = .ok (.iconst (-1), 1) := by decide +kernel
theorem d_Mod_law_9 : decode prog_14_method_23_code 9 = .ok (.invokevirtual 29, 3) := by decide +kernel
theorem d_Mod_law_12 : decode prog_14_method_23_code 12 = .ok (.ireturn, 1) := by decide +kernel
theorem d_Mod_law_13 : decode prog_14_method_23_code 13 = .ok (.iload_n 2, 1) := by decide +kernel
theorem d_Mod_law_14 : decode prog_14_method_23_code 14 = .ok (.bipush 7, 2) := by decide +kernel
theorem d_Mod_law_16 : decode prog_14_method_23_code 16 = .ok (.invokestatic 25, 3) := by decide +kernel
theorem d_Mod_law_19 : decode prog_14_method_23_code 19 = .ok (.ifCond .ne 10, 3) := by decide +kernel
theorem d_Mod_law_22 : decode prog_14_method_23_code 22 = .ok (.aload_n 0, 1) := by decide +kernel
theorem d_Mod_law_23 : decode prog_14_method_23_code 23 = .ok (.bipush (-2), 2) := by decide +kernel
theorem d_Mod_law_25 : decode prog_14_method_23_code 25 = .ok (.invokevirtual 29, 3) := by decide +kernel
theorem d_Mod_law_28 : decode prog_14_method_23_code 28 = .ok (.ireturn, 1) := by decide +kernel
theorem d_Mod_law_29 : decode prog_14_method_23_code 29 = .ok (.iload_n 3, 1) := by decide +kernel
theorem d_Mod_law_30 : decode prog_14_method_23_code 30 = .ok (.iconst 0, 1) := by decide +kernel
theorem d_Mod_law_31 : decode prog_14_method_23_code 31 = .ok (.iload_n 2, 1) := by decide +kernel
theorem d_Mod_law_32 : decode prog_14_method_23_code 32 = .ok (.iconst 4, 1) := by decide +kernel
theorem d_Mod_law_33 : decode prog_14_method_23_code 33 = .ok (.if_icmp .ge 9, 3) := by decide +kernel
theorem d_Mod_law_36 : decode prog_14_method_23_code 36 = .ok (.sipush 999, 3) := by decide +kernel
theorem d_Mod_law_39 : decode prog_14_method_23_code 39 = .ok (.goto 6, 3) := by decide +kernel
theorem d_Mod_law_42 : decode prog_14_method_23_code 42 = .ok (.sipush 255, 3) := by decide +kernel
theorem d_Mod_law_45 : decode prog_14_method_23_code 45 = .ok (.invokestatic 82, 3) := by decide +kernel
theorem d_Mod_law_48 : decode prog_14_method_23_code 48 = .ok (.istore 4, 2) := by decide +kernel
theorem d_Mod_law_50 : decode prog_14_method_23_code 50 = .ok (.iload 4, 2) := by decide +kernel
theorem d_Mod_law_52 : decode prog_14_method_23_code 52 = .ok (.ifCond .eq 12, 3) := by decide +kernel
theorem d_Mod_law_55 : decode prog_14_method_23_code 55 = .ok (.aload_n 0, 1) := by decide +kernel
theorem d_Mod_law_56 : decode prog_14_method_23_code 56 = .ok (.iload 4, 2) := by decide +kernel
theorem d_Mod_law_58 : decode prog_14_method_23_code 58 = .ok (.invokevirtual 29, 3) := by decide +kernel
theorem d_Mod_law_61 : decode prog_14_method_23_code 61 = .ok (.goto 18, 3) := by decide +kernel
theorem d_Mod_law_64 : decode prog_14_method_23_code 64 = .ok (.aload_n 0, 1) := by decide +kernel
theorem d_Mod_law_65 : decode prog_14_method_23_code 65 = .ok (.sipush 186, 3) := by decide +kernel
theorem d_Mod_law_68 : decode prog_14_method_23_code 68 = .ok (.bipush 8, 2) := by decide +kernel
theorem d_Mod_law_70 : decode prog_14_method_23_code 70 = .ok (.iload_n 1, 1) := by decide +kernel
theorem d_Mod_law_71 : decode prog_14_method_23_code 71 = .ok (.imul, 1) := by decide +kernel
theorem d_Mod_law_72 : decode prog_14_method_23_code 72 = .ok (.iadd, 1) := by decide +kernel
theorem d_Mod_law_73 : decode prog_14_method_23_code 73 = .ok (.iload_n 2, 1) := by decide +kernel
theorem d_Mod_law_74 : decode prog_14_method_23_code 74 = .ok (.iadd, 1) := by decide +kernel
theorem d_Mod_law_75 : decode prog_14_method_23_code 75 = .ok (.iload_n 3, 1) := by decide +kernel
theorem d_Mod_law_76 : decode prog_14_method_23_code 76 = .ok (.invokevirtual 86, 3) := by decide +kernel
theorem d_Mod_law_79 : decode prog_14_method_23_code 79 = .ok (.ireturn, 1) := by decide +kernel
theorem d_Mod_right_0 : decode prog_14_method_24_code 0 = .ok (.aload_n 0, 1) := by decide +kernel
theorem d_Mod_right_1 : decode prog_14_method_24_code 1 = .ok (.iconst 2, 1) := by decide +kernel
theorem d_Mod_right_2 : decode prog_14_method_24_code 2 = .ok (.iload_n 1, 1) := by decide +kernel
theorem d_Mod_right_3 : decode prog_14_method_24_code 3 = .ok (.ifCond .eq 7, 3) := by decide +kernel
theorem d_Mod_right_6 : decode prog_14_method_24_code 6 = .ok (.iconst 1, 1) := by decide +kernel
theorem d_Mod_right_7 : decode prog_14_method_24_code 7 = .ok (.goto 4, 3) := by decide +kernel
theorem d_Mod_right_10 : decode prog_14_method_24_code 10 = .ok (.iconst 0, 1) := by decide +kernel
theorem d_Mod_right_11 : decode prog_14_method_24_code 11 = .ok (.invokevirtual 86, 3) := by decide +kernel
theorem d_Mod_right_14 : decode prog_14_method_24_code 14 = .ok (.istore_n 2, 1) := by decide +kernel
theorem d_Mod_right_15 : decode prog_14_method_24_code 15 = .ok (.iload_n 2, 1) := by decide +kernel
theorem d_Mod_right_16 : decode prog_14_method_24_code 16 = .ok (.iload_n 1, 1) := by decide +kernel
theorem d_Mod_right_17 : decode prog_14_method_24_code 17 = .ok (.ifCond .eq 7, 3) := by decide +kernel
theorem d_Mod_right_20 : decode prog_14_method_24_code 20 = .ok (.iconst 1, 1) := by decide +kernel
theorem d_Mod_right_21 : decode prog_14_method_24_code 21 = .ok (.goto 4, 3) := by decide +kernel
theorem d_Mod_right_24 : decode prog_14_method_24_code 24 = .ok (.iconst 0, 1) := by decide +kernel
theorem d_Mod_right_25 : decode prog_14_method_24_code 25 = .ok (.if_icmp .ne 7, 3) := by decide +kernel
theorem d_Mod_right_28 : decode prog_14_method_24_code 28 = .ok (.iconst 0, 1) := by decide +kernel
theorem d_Mod_right_29 : decode prog_14_method_24_code 29 = .ok (.goto 4, 3) := by decide +kernel
theorem d_Mod_right_32 : decode prog_14_method_24_code 32 = .ok (.iconst 1, 1) := by decide +kernel
theorem d_Mod_right_33 : decode prog_14_method_24_code 33 = .ok (.ireturn, 1) := by decide +kernel
theorem d_Mod_growth_0 : decode prog_14_method_25_code 0 = .ok (.iload_n 1, 1) := by decide +kernel
theorem d_Mod_growth_1 : decode prog_14_method_25_code 1 = .ok (.iconst 2, 1) := by decide +kernel
theorem d_Mod_growth_2 : decode prog_14_method_25_code 2 = .ok (.invokestatic 25, 3) := by decide +kernel
theorem d_Mod_growth_5 : decode prog_14_method_25_code 5 = .ok (.ifCond .ne 10, 3) := by decide +kernel
theorem d_Mod_growth_8 : decode prog_14_method_25_code 8 = .ok (.aload_n 0, 1) := by decide +kernel
theorem d_Mod_growth_9 : decode prog_14_method_25_code 9 = .ok (.bipush (-2), 2) := by decide +kernel
theorem d_Mod_growth_11 : decode prog_14_method_25_code 11 = .ok (.invokevirtual 29, 3) := by decide +kernel
theorem d_Mod_growth_14 : decode prog_14_method_25_code 14 = .ok (.ireturn, 1) := by decide +kernel
theorem d_Mod_growth_15 : decode prog_14_method_25_code 15 = .ok (.iload_n 2, 1) := by decide +kernel
theorem d_Mod_growth_16 : decode prog_14_method_25_code 16 = .ok (.iconst 0, 1) := by decide +kernel
theorem d_Mod_growth_17 : decode prog_14_method_25_code 17 = .ok (.bipush 50, 2) := by decide +kernel
theorem d_Mod_growth_19 : decode prog_14_method_25_code 19 = .ok (.invokestatic 82, 3) := by decide +kernel
theorem d_Mod_growth_22 : decode prog_14_method_25_code 22 = .ok (.istore_n 3, 1) := by decide +kernel
theorem d_Mod_growth_23 : decode prog_14_method_25_code 23 = .ok (.iload_n 3, 1) := by decide +kernel
theorem d_Mod_growth_24 : decode prog_14_method_25_code 24 = .ok (.ifCond .eq 11, 3) := by decide +kernel
theorem d_Mod_growth_27 : decode prog_14_method_25_code 27 = .ok (.aload_n 0, 1) := by decide +kernel
theorem d_Mod_growth_28 : decode prog_14_method_25_code 28 = .ok (.iload_n 3, 1) := by decide +kernel
theorem d_Mod_growth_29 : decode prog_14_method_25_code 29 = .ok (.invokevirtual 29, 3) := by decide +kernel
theorem d_Mod_growth_32 : decode prog_14_method_25_code 32 = .ok (.goto 11, 3) := by decide +kernel
theorem d_Mod_growth_35 : decode prog_14_method_25_code 35 = .ok (.aload_n 0, 1) := by decide +kernel
theorem d_Mod_growth_36 : decode prog_14_method_25_code 36 = .ok (.iconst 4, 1) := by decide +kernel
theorem d_Mod_growth_37 : decode prog_14_method_25_code 37 = .ok (.iload_n 1, 1) := by decide +kernel
theorem d_Mod_growth_38 : decode prog_14_method_25_code 38 = .ok (.iadd, 1) := by decide +kernel
theorem d_Mod_growth_39 : decode prog_14_method_25_code 39 = .ok (.iload_n 2, 1) := by decide +kernel
theorem d_Mod_growth_40 : decode prog_14_method_25_code 40 = .ok (.invokevirtual 86, 3) := by decide +kernel
theorem d_Mod_growth_43 : decode prog_14_method_25_code 43 = .ok (.ireturn, 1) := by decide +kernel
theorem d_Mod_rightOf_0 : decode prog_14_method_26_code 0 = .ok (.aload_n 0, 1) := by decide +kernel
theorem d_Mod_rightOf_1 : decode prog_14_method_26_code 1 = .ok (.iload_n 1, 1) := by decide +kernel
theorem d_Mod_rightOf_2 : decode prog_14_method_26_code 2 = .ok (.iload_n 2, 1) := by decide +kernel
theorem d_Mod_rightOf_3 : decode prog_14_method_26_code 3 = .ok (.invokevirtual 66, 3) := by decide +kernel
theorem d_Mod_rightOf_6 : decode prog_14_method_26_code 6 = .ok (.ifCond .ge 8, 3) := by decide +kernel
theorem d_Mod_rightOf_9 : decode prog_14_method_26_code 9 = .ok (.bipush (-9), 2) := by decide +kernel
theorem d_Mod_rightOf_11 : decode prog_14_method_26_code 11 = .ok (.goto 31, 3) := by decide +kernel
theorem d_Mod_rightOf_14 : decode prog_14_method_26_code 14 = .ok (.bipush 100, 2) := by decide +kernel
theorem d_Mod_rightOf_16 : decode prog_14_method_26_code 16 = .ok (.aload_n 0, 1) := by decide +kernel
theorem d_Mod_rightOf_17 : decode prog_14_method_26_code 17 = .ok (.iload_n 1, 1) := by decide +kernel
theorem d_Mod_rightOf_18 : decode prog_14_method_26_code 18 = .ok (.iload_n 2, 1) := by decide +kernel
theorem d_Mod_rightOf_19 : decode prog_14_method_26_code 19 = .ok (.invokevirtual 66, 3) := by decide +kernel
theorem d_Mod_rightOf_22 : decode prog_14_method_26_code 22 = .ok (.imul, 1) := by decide +kernel
theorem d_Mod_rightOf_23 : decode prog_14_method_26_code 23 = .ok (.bipush 100, 2) := by decide +kernel
theorem d_Mod_rightOf_25 : decode prog_14_method_26_code 25 = .ok (.aload_n 0, 1) := by decide +kernel
theorem d_Mod_rightOf_26 : decode prog_14_method_26_code 26 = .ok (.getfield 13, 3) := by decide +kernel
theorem d_Mod_rightOf_29 : decode prog_14_method_26_code 29 = .ok (.iconst 4, 1) := by decide +kernel
theorem d_Mod_rightOf_30 : decode prog_14_method_26_code 30 = .ok (.iload_n 2, 1) := by decide +kernel
theorem d_Mod_rightOf_31 : decode prog_14_method_26_code 31 = .ok (.iadd, 1) := by decide +kernel
theorem d_Mod_rightOf_32 : decode prog_14_method_26_code 32 = .ok (.iaload, 1) := by decide +kernel
theorem d_Mod_rightOf_33 : decode prog_14_method_26_code 33 = .ok (.aload_n 0, 1) := by decide +kernel
theorem d_Mod_rightOf_34 : decode prog_14_method_26_code 34 = .ok (.iload_n 1, 1) := by decide +kernel
theorem d_Mod_rightOf_35 : decode prog_14_method_26_code 35 = .ok (.iconst 4, 1) := by decide +kernel
theorem d_Mod_rightOf_36 : decode prog_14_method_26_code 36 = .ok (.invokevirtual 66, 3) := by decide +kernel
theorem d_Mod_rightOf_39 : decode prog_14_method_26_code 39 = .ok (.imul, 1) := by decide +kernel
theorem d_Mod_rightOf_40 : decode prog_14_method_26_code 40 = .ok (.iadd, 1) := by decide +kernel
theorem d_Mod_rightOf_41 : decode prog_14_method_26_code 41 = .ok (.idiv, 1) := by decide +kernel
theorem d_Mod_rightOf_42 : decode prog_14_method_26_code 42 = .ok (.ireturn, 1) := by decide +kernel
theorem d_Mod_put_0 : decode prog_14_method_27_code 0 = .ok (.aload_n 0, 1) := by decide +kernel
theorem d_Mod_put_1 : decode prog_14_method_27_code 1 = .ok (.iload_n 1, 1) := by decide +kernel
theorem d_Mod_put_2 : decode prog_14_method_27_code 2 = .ok (.invokevirtual 63, 3) := by decide +kernel
theorem d_Mod_put_5 : decode prog_14_method_27_code 5 = .ok (.ifCond .ne 11, 3) := by decide +kernel
theorem d_Mod_put_8 : decode prog_14_method_27_code 8 = .ok (.aload_n 0, 1) := by decide +kernel
theorem d_Mod_put_9 : decode prog_14_method_27_code 9 = .ok (.iconst (-1), 1) := by decide +kernel
theorem d_Mod_put_10 : decode prog_14_method_27_code 10 = .ok (.invokevirtual 29, 3) := by decide +kernel
theorem d_Mod_put_13 : decode prog_14_method_27_code 13 = .ok (.goto 26, 3) := by decide +kernel
theorem d_Mod_put_16 : decode prog_14_method_27_code 16 = .ok (.iload_n 2, 1) := by decide +kernel
theorem d_Mod_put_17 : decode prog_14_method_27_code 17 = .ok (.iconst 2, 1) := by decide +kernel
theorem d_Mod_put_18 : decode prog_14_method_27_code 18 = .ok (.invokestatic 25, 3) := by decide +kernel
theorem d_Mod_put_21 : decode prog_14_method_27_code 21 = .ok (.ifCond .eq 12, 3) := by decide +kernel
theorem d_Mod_put_24 : decode prog_14_method_27_code 24 = .ok (.aload_n 0, 1) := by decide +kernel
theorem d_Mod_put_25 : decode prog_14_method_27_code 25 = .ok (.iload_n 1, 1) := by decide +kernel
theorem d_Mod_put_26 : decode prog_14_method_27_code 26 = .ok (.iload_n 2, 1) := by decide +kernel
theorem d_Mod_put_27 : decode prog_14_method_27_code 27 = .ok (.invokevirtual 89, 3) := by decide +kernel
theorem d_Mod_put_30 : decode prog_14_method_27_code 30 = .ok (.goto 9, 3) := by decide +kernel
theorem d_Mod_put_33 : decode prog_14_method_27_code 33 = .ok (.aload_n 0, 1) := by decide +kernel
theorem d_Mod_put_34 : decode prog_14_method_27_code 34 = .ok (.bipush (-2), 2) := by decide +kernel
theorem d_Mod_put_36 : decode prog_14_method_27_code 36 = .ok (.invokevirtual 29, 3) := by decide +kernel
theorem d_Mod_put_39 : decode prog_14_method_27_code 39 = .ok (.ireturn, 1) := by decide +kernel
theorem d_Mod_meets_0 : decode prog_14_method_28_code 0 = .ok (.aload_n 0, 1) := by decide +kernel
theorem d_Mod_meets_1 : decode prog_14_method_28_code 1 = .ok (.getfield 13, 3) := by decide +kernel
theorem d_Mod_meets_4 : decode prog_14_method_28_code 4 = .ok (.sipush 186, 3) := by decide +kernel
theorem d_Mod_meets_7 : decode prog_14_method_28_code 7 = .ok (.bipush 8, 2) := by decide +kernel
theorem d_Mod_meets_9 : decode prog_14_method_28_code 9 = .ok (.iload_n 2, 1) := by decide +kernel
theorem d_Mod_meets_10 : decode prog_14_method_28_code 10 = .ok (.imul, 1) := by decide +kernel
theorem d_Mod_meets_11 : decode prog_14_method_28_code 11 = .ok (.iadd, 1) := by decide +kernel
theorem d_Mod_meets_12 : decode prog_14_method_28_code 12 = .ok (.iload_n 3, 1) := by decide +kernel
theorem d_Mod_meets_13 : decode prog_14_method_28_code 13 = .ok (.iadd, 1) := by decide +kernel
theorem d_Mod_meets_14 : decode prog_14_method_28_code 14 = .ok (.iaload, 1) := by decide +kernel
theorem d_Mod_meets_15 : decode prog_14_method_28_code 15 = .ok (.istore 4, 2) := by decide +kernel
theorem d_Mod_meets_17 : decode prog_14_method_28_code 17 = .ok (.iload_n 3, 1) := by decide +kernel
theorem d_Mod_meets_18 : decode prog_14_method_28_code 18 = .ok (.iconst 4, 1) := by decide +kernel
theorem d_Mod_meets_19 : decode prog_14_method_28_code 19 = .ok (.if_icmp .ge 90, 3) := by decide +kernel
theorem d_Mod_meets_22 : decode prog_14_method_28_code 22 = .ok (.iload_n 3, 1) := by decide +kernel
theorem d_Mod_meets_23 : decode prog_14_method_28_code 23 = .ok (.iconst 2, 1) := by decide +kernel
theorem d_Mod_meets_24 : decode prog_14_method_28_code 24 = .ok (.if_icmp .ge 7, 3) := by decide +kernel
theorem d_Mod_meets_27 : decode prog_14_method_28_code 27 = .ok (.iconst 0, 1) := by decide +kernel
theorem d_Mod_meets_28 : decode prog_14_method_28_code 28 = .ok (.goto 4, 3) := by decide +kernel
theorem d_Mod_meets_31 : decode prog_14_method_28_code 31 = .ok (.iconst 1, 1) := by decide +kernel
theorem d_Mod_meets_32 : decode prog_14_method_28_code 32 = .ok (.istore 5, 2) := by decide +kernel
theorem d_Mod_meets_34 : decode prog_14_method_28_code 34 = .ok (.aload_n 0, 1) := by decide +kernel
theorem d_Mod_meets_35 : decode prog_14_method_28_code 35 = .ok (.iload_n 1, 1) := by decide +kernel
theorem d_Mod_meets_36 : decode prog_14_method_28_code 36 = .ok (.iload 5, 2) := by decide +kernel
theorem d_Mod_meets_38 : decode prog_14_method_28_code 38 = .ok (.invokevirtual 66, 3) := by decide +kernel
theorem d_Mod_meets_41 : decode prog_14_method_28_code 41 = .ok (.ifCond .ge 5, 3) := by decide +kernel
theorem d_Mod_meets_44 : decode prog_14_method_28_code 44 = .ok (.iconst 1, 1) := by decide +kernel
theorem d_Mod_meets_45 : decode prog_14_method_28_code 45 = .ok (.ireturn, 1) := by decide +kernel
theorem d_Mod_meets_46 : decode prog_14_method_28_code 46 = .ok (.aload_n 0, 1) := by decide +kernel
theorem d_Mod_meets_47 : decode prog_14_method_28_code 47 = .ok (.getfield 13, 3) := by decide +kernel
theorem d_Mod_meets_50 : decode prog_14_method_28_code 50 = .ok (.iconst 2, 1) := by decide +kernel
theorem d_Mod_meets_51 : decode prog_14_method_28_code 51 = .ok (.iaload, 1) := by decide +kernel
theorem d_Mod_meets_52 : decode prog_14_method_28_code 52 = .ok (.iconst 1, 1) := by decide +kernel
theorem d_Mod_meets_53 : decode prog_14_method_28_code 53 = .ok (.if_icmp .ne 13, 3) := by decide +kernel
theorem d_Mod_meets_56 : decode prog_14_method_28_code 56 = .ok (.aload_n 0, 1) := by decide +kernel
theorem d_Mod_meets_57 : decode prog_14_method_28_code 57 = .ok (.iload_n 1, 1) := by decide +kernel
theorem d_Mod_meets_58 : decode prog_14_method_28_code 58 = .ok (.iload 5, 2) := by decide +kernel
theorem d_Mod_meets_60 : decode prog_14_method_28_code 60 = .ok (.invokevirtual 89, 3) := by decide +kernel
theorem d_Mod_meets_63 : decode prog_14_method_28_code 63 = .ok (.goto 10, 3) := by decide +kernel
theorem d_Mod_meets_66 : decode prog_14_method_28_code 66 = .ok (.aload_n 0, 1) := by decide +kernel
theorem d_Mod_meets_67 : decode prog_14_method_28_code 67 = .ok (.iload_n 1, 1) := by decide +kernel
theorem d_Mod_meets_68 : decode prog_14_method_28_code 68 = .ok (.iload 5, 2) := by decide +kernel
theorem d_Mod_meets_70 : decode prog_14_method_28_code 70 = .ok (.invokevirtual 66, 3) := by decide +kernel
theorem d_Mod_meets_73 : decode prog_14_method_28_code 73 = .ok (.istore 6, 2) := by decide +kernel
theorem d_Mod_meets_75 : decode prog_14_method_28_code 75 = .ok (.iload_n 3, 1) := by decide +kernel
theorem d_Mod_meets_76 : decode prog_14_method_28_code 76 = .ok (.iconst 2, 1) := by decide +kernel
theorem d_Mod_meets_77 : decode prog_14_method_28_code 77 = .ok (.irem, 1) := by decide +kernel
theorem d_Mod_meets_78 : decode prog_14_method_28_code 78 = .ok (.ifCond .ne 18, 3) := by decide +kernel
theorem d_Mod_meets_81 : decode prog_14_method_28_code 81 = .ok (.iload 6, 2) := by decide +kernel
theorem d_Mod_meets_83 : decode prog_14_method_28_code 83 = .ok (.iload 4, 2) := by decide +kernel
theorem d_Mod_meets_85 : decode prog_14_method_28_code 85 = .ok (.if_icmp .lt 7, 3) := by decide +kernel
theorem d_Mod_meets_88 : decode prog_14_method_28_code 88 = .ok (.iconst 1, 1) := by decide +kernel
theorem d_Mod_meets_89 : decode prog_14_method_28_code 89 = .ok (.goto 19, 3) := by decide +kernel
theorem d_Mod_meets_92 : decode prog_14_method_28_code 92 = .ok (.iconst 0, 1) := by decide +kernel
theorem d_Mod_meets_93 : decode prog_14_method_28_code 93 = .ok (.goto 15, 3) := by decide +kernel
theorem d_Mod_meets_96 : decode prog_14_method_28_code 96 = .ok (.iload 6, 2) := by decide +kernel
theorem d_Mod_meets_98 : decode prog_14_method_28_code 98 = .ok (.iload 4, 2) := by decide +kernel
theorem d_Mod_meets_100 : decode prog_14_method_28_code 100 = .ok (.if_icmp .gt 7, 3) := by decide +kernel
theorem d_Mod_meets_103 : decode prog_14_method_28_code 103 = .ok (.iconst 1, 1) := by decide +kernel
theorem d_Mod_meets_104 : decode prog_14_method_28_code 104 = .ok (.goto 4, 3) := by decide +kernel
theorem d_Mod_meets_107 : decode prog_14_method_28_code 107 = .ok (.iconst 0, 1) := by decide +kernel
theorem d_Mod_meets_108 : decode prog_14_method_28_code 108 = .ok (.ireturn, 1) := by decide +kernel
theorem d_Mod_meets_109 : decode prog_14_method_28_code 109 = .ok (.iload_n 3, 1) := by decide +kernel
theorem d_Mod_meets_110 : decode prog_14_method_28_code 110 = .ok (.iconst 4, 1) := by decide +kernel
theorem d_Mod_meets_111 : decode prog_14_method_28_code 111 = .ok (.if_icmp .ne 33, 3) := by decide +kernel
theorem d_Mod_meets_114 : decode prog_14_method_28_code 114 = .ok (.aload_n 0, 1) := by decide +kernel
theorem d_Mod_meets_115 : decode prog_14_method_28_code 115 = .ok (.iload_n 1, 1) := by decide +kernel
theorem d_Mod_meets_116 : decode prog_14_method_28_code 116 = .ok (.iconst 2, 1) := by decide +kernel
theorem d_Mod_meets_117 : decode prog_14_method_28_code 117 = .ok (.invokevirtual 66, 3) := by decide +kernel
theorem d_Mod_meets_120 : decode prog_14_method_28_code 120 = .ok (.ifCond .lt 18, 3) := by decide +kernel
theorem d_Mod_meets_123 : decode prog_14_method_28_code 123 = .ok (.iload 4, 2) := by decide +kernel
theorem d_Mod_meets_125 : decode prog_14_method_28_code 125 = .ok (.aload_n 0, 1) := by decide +kernel
theorem d_Mod_meets_126 : decode prog_14_method_28_code 126 = .ok (.iload_n 1, 1) := by decide +kernel
theorem d_Mod_meets_127 : decode prog_14_method_28_code 127 = .ok (.iconst 2, 1) := by decide +kernel
theorem d_Mod_meets_128 : decode prog_14_method_28_code 128 = .ok (.invokevirtual 66, 3) := by decide +kernel
theorem d_Mod_meets_131 : decode prog_14_method_28_code 131 = .ok (.ishr, 1) := by decide +kernel
theorem d_Mod_meets_132 : decode prog_14_method_28_code 132 = .ok (.iconst 1, 1) := by decide +kernel
theorem d_Mod_meets_133 : decode prog_14_method_28_code 133 = .ok (.iand, 1) := by decide +kernel
theorem d_Mod_meets_134 : decode prog_14_method_28_code 134 = .ok (.iconst 1, 1) := by decide +kernel
theorem d_Mod_meets_135 : decode prog_14_method_28_code 135 = .ok (.if_icmp .ne 7, 3) := by decide +kernel
theorem d_Mod_meets_138 : decode prog_14_method_28_code 138 = .ok (.iconst 1, 1) := by decide +kernel
theorem d_Mod_meets_139 : decode prog_14_method_28_code 139 = .ok (.goto 4, 3) := by decide +kernel
theorem d_Mod_meets_142 : decode prog_14_method_28_code 142 = .ok (.iconst 0, 1) := by decide +kernel
theorem d_Mod_meets_143 : decode prog_14_method_28_code 143 = .ok (.ireturn, 1) := by decide +kernel
theorem d_Mod_meets_144 : decode prog_14_method_28_code 144 = .ok (.iload_n 3, 1) := by decide +kernel
theorem d_Mod_meets_145 : decode prog_14_method_28_code 145 = .ok (.iconst 5, 1) := by decide +kernel
theorem d_Mod_meets_146 : decode prog_14_method_28_code 146 = .ok (.if_icmp .ne 25, 3) := by decide +kernel
theorem d_Mod_meets_149 : decode prog_14_method_28_code 149 = .ok (.iload 4, 2) := by decide +kernel
theorem d_Mod_meets_151 : decode prog_14_method_28_code 151 = .ok (.aload_n 0, 1) := by decide +kernel
theorem d_Mod_meets_152 : decode prog_14_method_28_code 152 = .ok (.iload_n 1, 1) := by decide +kernel
theorem d_Mod_meets_153 : decode prog_14_method_28_code 153 = .ok (.iconst 3, 1) := by decide +kernel
theorem d_Mod_meets_154 : decode prog_14_method_28_code 154 = .ok (.invokevirtual 66, 3) := by decide +kernel
theorem d_Mod_meets_157 : decode prog_14_method_28_code 157 = .ok (.iconst (-1), 1) := by decide +kernel
theorem d_Mod_meets_158 : decode prog_14_method_28_code 158 = .ok (.ixor, 1) := by decide +kernel
theorem d_Mod_meets_159 : decode prog_14_method_28_code 159 = .ok (.iand, 1) := by decide +kernel
theorem d_Mod_meets_160 : decode prog_14_method_28_code 160 = .ok (.ifCond .ne 7, 3) := by decide +kernel
theorem d_Mod_meets_163 : decode prog_14_method_28_code 163 = .ok (.iconst 1, 1) := by decide +kernel
theorem d_Mod_meets_164 : decode prog_14_method_28_code 164 = .ok (.goto 24, 3) := by decide +kernel
theorem d_Mod_meets_167 : decode prog_14_method_28_code 167 = .ok (.iconst 0, 1) := by decide +kernel
theorem d_Mod_meets_168 : decode prog_14_method_28_code 168 = .ok (.goto 20, 3) := by decide +kernel
theorem d_Mod_meets_171 : decode prog_14_method_28_code 171 = .ok (.iload 4, 2) := by decide +kernel
theorem d_Mod_meets_173 : decode prog_14_method_28_code 173 = .ok (.aload_n 0, 1) := by decide +kernel
theorem d_Mod_meets_174 : decode prog_14_method_28_code 174 = .ok (.iload_n 1, 1) := by decide +kernel
theorem d_Mod_meets_175 : decode prog_14_method_28_code 175 = .ok (.iconst 3, 1) := by decide +kernel
theorem d_Mod_meets_176 : decode prog_14_method_28_code 176 = .ok (.invokevirtual 66, 3) := by decide +kernel
theorem d_Mod_meets_179 : decode prog_14_method_28_code 179 = .ok (.iand, 1) := by decide +kernel
theorem d_Mod_meets_180 : decode prog_14_method_28_code 180 = .ok (.ifCond .ne 7, 3) := by decide +kernel
theorem d_Mod_meets_183 : decode prog_14_method_28_code 183 = .ok (.iconst 1, 1) := by decide +kernel
theorem d_Mod_meets_184 : decode prog_14_method_28_code 184 = .ok (.goto 4, 3) := by decide +kernel
theorem d_Mod_meets_187 : decode prog_14_method_28_code 187 = .ok (.iconst 0, 1) := by decide +kernel
theorem d_Mod_meets_188 : decode prog_14_method_28_code 188 = .ok (.ireturn, 1) := by decide +kernel
theorem d_Mod_isFit_0 : decode prog_14_method_29_code 0 = .ok (.iconst 0, 1) := by decide +kernel
theorem d_Mod_isFit_1 : decode prog_14_method_29_code 1 = .ok (.istore 4, 2) := by decide +kernel
theorem d_Mod_isFit_3 : decode prog_14_method_29_code 3 = .ok (.iload 4, 2) := by decide +kernel
theorem d_Mod_isFit_5 : decode prog_14_method_29_code 5 = .ok (.bipush 7, 2) := by decide +kernel
theorem d_Mod_isFit_7 : decode prog_14_method_29_code 7 = .ok (.if_icmp .ge 31, 3) := by decide +kernel
theorem d_Mod_isFit_10 : decode prog_14_method_29_code 10 = .ok (.iload_n 3, 1) := by decide +kernel
theorem d_Mod_isFit_11 : decode prog_14_method_29_code 11 = .ok (.iload 4, 2) := by decide +kernel
theorem d_Mod_isFit_13 : decode prog_14_method_29_code 13 = .ok (.ishr, 1) := by decide +kernel
theorem d_Mod_isFit_14 : decode prog_14_method_29_code 14 = .ok (.iconst 1, 1) := by decide +kernel
theorem d_Mod_isFit_15 : decode prog_14_method_29_code 15 = .ok (.iand, 1) := by decide +kernel
theorem d_Mod_isFit_16 : decode prog_14_method_29_code 16 = .ok (.ifCond .ne 16, 3) := by decide +kernel
theorem d_Mod_isFit_19 : decode prog_14_method_29_code 19 = .ok (.aload_n 0, 1) := by decide +kernel
theorem d_Mod_isFit_20 : decode prog_14_method_29_code 20 = .ok (.iload_n 1, 1) := by decide +kernel
theorem d_Mod_isFit_21 : decode prog_14_method_29_code 21 = .ok (.iload_n 2, 1) := by decide +kernel
theorem d_Mod_isFit_22 : decode prog_14_method_29_code 22 = .ok (.iload 4, 2) := by decide +kernel
theorem d_Mod_isFit_24 : decode prog_14_method_29_code 24 = .ok (.invokevirtual 92, 3) := by decide +kernel
theorem d_Mod_isFit_27 : decode prog_14_method_29_code 27 = .ok (.ifCond .ne 5, 3) := by decide +kernel
theorem d_Mod_isFit_30 : decode prog_14_method_29_code 30 = .ok (.iconst 0, 1) := by decide +kernel
theorem d_Mod_isFit_31 : decode prog_14_method_29_code 31 = .ok (.ireturn, 1) := by decide +kernel
theorem d_Mod_isFit_32 : decode prog_14_method_29_code 32 = .ok (.iinc 4 1, 3) := by decide +kernel
theorem d_Mod_isFit_35 : decode prog_14_method_29_code 35 = .ok (.goto (-32), 3) := by decide +kernel
theorem d_Mod_isFit_38 : decode prog_14_method_29_code 38 = .ok (.iconst 1, 1) := by decide +kernel
theorem d_Mod_isFit_39 : decode prog_14_method_29_code 39 = .ok (.ireturn, 1) := by decide +kernel
theorem d_Mod_lawsOf_0 : decode prog_14_method_30_code 0 = .ok (.iconst 0, 1) := by decide +kernel
theorem d_Mod_lawsOf_1 : decode prog_14_method_30_code 1 = .ok (.istore_n 2, 1) := by decide +kernel
theorem d_Mod_lawsOf_2 : decode prog_14_method_30_code 2 = .ok (.iconst 0, 1) := by decide +kernel
theorem d_Mod_lawsOf_3 : decode prog_14_method_30_code 3 = .ok (.istore_n 3, 1) := by decide +kernel
theorem d_Mod_lawsOf_4 : decode prog_14_method_30_code 4 = .ok (.iload_n 3, 1) := by decide +kernel
theorem d_Mod_lawsOf_5 : decode prog_14_method_30_code 5 = .ok (.bipush 6, 2) := by decide +kernel
theorem d_Mod_lawsOf_7 : decode prog_14_method_30_code 7 = .ok (.if_icmp .ge 29, 3) := by decide +kernel
theorem d_Mod_lawsOf_10 : decode prog_14_method_30_code 10 = .ok (.iload_n 2, 1) := by decide +kernel
theorem d_Mod_lawsOf_11 : decode prog_14_method_30_code 11 = .ok (.aload_n 0, 1) := by decide +kernel
theorem d_Mod_lawsOf_12 : decode prog_14_method_30_code 12 = .ok (.iload_n 1, 1) := by decide +kernel
theorem d_Mod_lawsOf_13 : decode prog_14_method_30_code 13 = .ok (.iload_n 3, 1) := by decide +kernel
theorem d_Mod_lawsOf_14 : decode prog_14_method_30_code 14 = .ok (.iconst 0, 1) := by decide +kernel
theorem d_Mod_lawsOf_15 : decode prog_14_method_30_code 15 = .ok (.invokevirtual 96, 3) := by decide +kernel
theorem d_Mod_lawsOf_18 : decode prog_14_method_30_code 18 = .ok (.ifCond .eq 9, 3) := by decide +kernel
theorem d_Mod_lawsOf_21 : decode prog_14_method_30_code 21 = .ok (.iconst 1, 1) := by decide +kernel
theorem d_Mod_lawsOf_22 : decode prog_14_method_30_code 22 = .ok (.iload_n 3, 1) := by decide +kernel
theorem d_Mod_lawsOf_23 : decode prog_14_method_30_code 23 = .ok (.ishl, 1) := by decide +kernel
theorem d_Mod_lawsOf_24 : decode prog_14_method_30_code 24 = .ok (.goto 4, 3) := by decide +kernel
theorem d_Mod_lawsOf_27 : decode prog_14_method_30_code 27 = .ok (.iconst 0, 1) := by decide +kernel
theorem d_Mod_lawsOf_28 : decode prog_14_method_30_code 28 = .ok (.ior, 1) := by decide +kernel
theorem d_Mod_lawsOf_29 : decode prog_14_method_30_code 29 = .ok (.istore_n 2, 1) := by decide +kernel
theorem d_Mod_lawsOf_30 : decode prog_14_method_30_code 30 = .ok (.iinc 3 1, 3) := by decide +kernel
theorem d_Mod_lawsOf_33 : decode prog_14_method_30_code 33 = .ok (.goto (-29), 3) := by decide +kernel
theorem d_Mod_lawsOf_36 : decode prog_14_method_30_code 36 = .ok (.iload_n 2, 1) := by decide +kernel
theorem d_Mod_lawsOf_37 : decode prog_14_method_30_code 37 = .ok (.ireturn, 1) := by decide +kernel
theorem d_Mod_fits_0 : decode prog_14_method_31_code 0 = .ok (.aload_n 0, 1) := by decide +kernel
theorem d_Mod_fits_1 : decode prog_14_method_31_code 1 = .ok (.iload_n 1, 1) := by decide +kernel
theorem d_Mod_fits_2 : decode prog_14_method_31_code 2 = .ok (.invokevirtual 63, 3) := by decide +kernel
theorem d_Mod_fits_5 : decode prog_14_method_31_code 5 = .ok (.ifCond .eq 10, 3) := by decide +kernel
theorem d_Mod_fits_8 : decode prog_14_method_31_code 8 = .ok (.iload_n 2, 1) := by decide +kernel
theorem d_Mod_fits_9 : decode prog_14_method_31_code 9 = .ok (.invokestatic 79, 3) := by decide +kernel
theorem d_Mod_fits_12 : decode prog_14_method_31_code 12 = .ok (.ifCond .ne 11, 3) := by decide +kernel
theorem d_Mod_fits_15 : decode prog_14_method_31_code 15 = .ok (.aload_n 0, 1) := by decide +kernel
theorem d_Mod_fits_16 : decode prog_14_method_31_code 16 = .ok (.iconst (-1), 1) := by decide +kernel
theorem d_Mod_fits_17 : decode prog_14_method_31_code 17 = .ok (.invokevirtual 29, 3) := by decide +kernel
theorem d_Mod_fits_20 : decode prog_14_method_31_code 20 = .ok (.goto 18, 3) := by decide +kernel
theorem d_Mod_fits_23 : decode prog_14_method_31_code 23 = .ok (.aload_n 0, 1) := by decide +kernel
theorem d_Mod_fits_24 : decode prog_14_method_31_code 24 = .ok (.iload_n 1, 1) := by decide +kernel
theorem d_Mod_fits_25 : decode prog_14_method_31_code 25 = .ok (.iload_n 2, 1) := by decide +kernel
theorem d_Mod_fits_26 : decode prog_14_method_31_code 26 = .ok (.iconst 0, 1) := by decide +kernel
theorem d_Mod_fits_27 : decode prog_14_method_31_code 27 = .ok (.invokevirtual 96, 3) := by decide +kernel
theorem d_Mod_fits_30 : decode prog_14_method_31_code 30 = .ok (.ifCond .eq 7, 3) := by decide +kernel
theorem d_Mod_fits_33 : decode prog_14_method_31_code 33 = .ok (.iconst 1, 1) := by decide +kernel
theorem d_Mod_fits_34 : decode prog_14_method_31_code 34 = .ok (.goto 4, 3) := by decide +kernel
theorem d_Mod_fits_37 : decode prog_14_method_31_code 37 = .ok (.iconst 0, 1) := by decide +kernel
theorem d_Mod_fits_38 : decode prog_14_method_31_code 38 = .ok (.ireturn, 1) := by decide +kernel
theorem d_Mod_common_0 : decode prog_14_method_32_code 0 = .ok (.iload_n 1, 1) := by decide +kernel
theorem d_Mod_common_1 : decode prog_14_method_32_code 1 = .ok (.ifCond .ne 7, 3) := by decide +kernel
theorem d_Mod_common_4 : decode prog_14_method_32_code 4 = .ok (.iload_n 0, 1) := by decide +kernel
theorem d_Mod_common_5 : decode prog_14_method_32_code 5 = .ok (.goto 10, 3) := by decide +kernel
theorem d_Mod_common_8 : decode prog_14_method_32_code 8 = .ok (.iload_n 1, 1) := by decide +kernel
theorem d_Mod_common_9 : decode prog_14_method_32_code 9 = .ok (.iload_n 0, 1) := by decide +kernel
theorem d_Mod_common_10 : decode prog_14_method_32_code 10 = .ok (.iload_n 1, 1) := by decide +kernel
theorem d_Mod_common_11 : decode prog_14_method_32_code 11 = .ok (.irem, 1) := by decide +kernel
theorem d_Mod_common_12 : decode prog_14_method_32_code 12 = .ok (.invokestatic 99, 3) := by decide +kernel
theorem d_Mod_common_15 : decode prog_14_method_32_code 15 = .ok (.ireturn, 1) := by decide +kernel
theorem d_Mod_partOf_0 : decode prog_14_method_33_code 0 = .ok (.iload_n 0, 1) := by decide +kernel
theorem d_Mod_partOf_1 : decode prog_14_method_33_code 1 = .ok (.iload_n 1, 1) := by decide +kernel
theorem d_Mod_partOf_2 : decode prog_14_method_33_code 2 = .ok (.invokestatic 99, 3) := by decide +kernel
theorem d_Mod_partOf_5 : decode prog_14_method_33_code 5 = .ok (.istore_n 3, 1) := by decide +kernel
theorem d_Mod_partOf_6 : decode prog_14_method_33_code 6 = .ok (.iload_n 2, 1) := by decide +kernel
theorem d_Mod_partOf_7 : decode prog_14_method_33_code 7 = .ok (.ifCond .ne 9, 3) := by decide +kernel
theorem d_Mod_partOf_10 : decode prog_14_method_33_code 10 = .ok (.iload_n 0, 1) := by decide +kernel
theorem d_Mod_partOf_11 : decode prog_14_method_33_code 11 = .ok (.iload_n 3, 1) := by decide +kernel
theorem d_Mod_partOf_12 : decode prog_14_method_33_code 12 = .ok (.idiv, 1) := by decide +kernel
theorem d_Mod_partOf_13 : decode prog_14_method_33_code 13 = .ok (.goto 6, 3) := by decide +kernel
theorem d_Mod_partOf_16 : decode prog_14_method_33_code 16 = .ok (.iload_n 1, 1) := by decide +kernel
theorem d_Mod_partOf_17 : decode prog_14_method_33_code 17 = .ok (.iload_n 3, 1) := by decide +kernel
theorem d_Mod_partOf_18 : decode prog_14_method_33_code 18 = .ok (.idiv, 1) := by decide +kernel
theorem d_Mod_partOf_19 : decode prog_14_method_33_code 19 = .ok (.ireturn, 1) := by decide +kernel
theorem d_Mod_share_0 : decode prog_14_method_34_code 0 = .ok (.iload_n 1, 1) := by decide +kernel
theorem d_Mod_share_1 : decode prog_14_method_34_code 1 = .ok (.invokestatic 79, 3) := by decide +kernel
theorem d_Mod_share_4 : decode prog_14_method_34_code 4 = .ok (.ifCond .ne 12, 3) := by decide +kernel
theorem d_Mod_share_7 : decode prog_14_method_34_code 7 = .ok (.ldc 102, 2) := by decide +kernel
theorem d_Mod_share_9 : decode prog_14_method_34_code 9 = .ok (.aload_n 0, 1) := by decide +kernel
theorem d_Mod_share_10 : decode prog_14_method_34_code 10 = .ok (.iconst (-1), 1) := by decide +kernel
theorem d_Mod_share_11 : decode prog_14_method_34_code 11 = .ok (.invokevirtual 29, 3) := by decide +kernel
theorem d_Mod_share_14 : decode prog_14_method_34_code 14 = .ok (.isub, 1) := by decide +kernel
theorem d_Mod_share_15 : decode prog_14_method_34_code 15 = .ok (.ireturn, 1) := by decide +kernel
theorem d_Mod_share_16 : decode prog_14_method_34_code 16 = .ok (.iload_n 2, 1) := by decide +kernel
theorem d_Mod_share_17 : decode prog_14_method_34_code 17 = .ok (.iconst 2, 1) := by decide +kernel
theorem d_Mod_share_18 : decode prog_14_method_34_code 18 = .ok (.invokestatic 25, 3) := by decide +kernel
theorem d_Mod_share_21 : decode prog_14_method_34_code 21 = .ok (.ifCond .ne 13, 3) := by decide +kernel
theorem d_Mod_share_24 : decode prog_14_method_34_code 24 = .ok (.ldc 102, 2) := by decide +kernel
theorem d_Mod_share_26 : decode prog_14_method_34_code 26 = .ok (.aload_n 0, 1) := by decide +kernel
theorem d_Mod_share_27 : decode prog_14_method_34_code 27 = .ok (.bipush (-2), 2) := by decide +kernel
theorem d_Mod_share_29 : decode prog_14_method_34_code 29 = .ok (.invokevirtual 29, 3) := by decide +kernel
theorem d_Mod_share_32 : decode prog_14_method_34_code 32 = .ok (.isub, 1) := by decide +kernel
theorem d_Mod_share_33 : decode prog_14_method_34_code 33 = .ok (.ireturn, 1) := by decide +kernel
theorem d_Mod_share_34 : decode prog_14_method_34_code 34 = .ok (.iconst 0, 1) := by decide +kernel
theorem d_Mod_share_35 : decode prog_14_method_34_code 35 = .ok (.istore_n 3, 1) := by decide +kernel
theorem d_Mod_share_36 : decode prog_14_method_34_code 36 = .ok (.iconst 0, 1) := by decide +kernel
theorem d_Mod_share_37 : decode prog_14_method_34_code 37 = .ok (.istore 4, 2) := by decide +kernel
theorem d_Mod_share_39 : decode prog_14_method_34_code 39 = .ok (.iconst 0, 1) := by decide +kernel
theorem d_Mod_share_40 : decode prog_14_method_34_code 40 = .ok (.istore 5, 2) := by decide +kernel
theorem d_Mod_share_42 : decode prog_14_method_34_code 42 = .ok (.iload 5, 2) := by decide +kernel
theorem d_Mod_share_44 : decode prog_14_method_34_code 44 = .ok (.aload_n 0, 1) := by decide +kernel
theorem d_Mod_share_45 : decode prog_14_method_34_code 45 = .ok (.getfield 13, 3) := by decide +kernel
theorem d_Mod_share_48 : decode prog_14_method_34_code 48 = .ok (.iconst 0, 1) := by decide +kernel
theorem d_Mod_share_49 : decode prog_14_method_34_code 49 = .ok (.iaload, 1) := by decide +kernel
theorem d_Mod_share_50 : decode prog_14_method_34_code 50 = .ok (.if_icmp .ge 44, 3) := by decide +kernel
theorem d_Mod_share_53 : decode prog_14_method_34_code 53 = .ok (.iload_n 3, 1) := by decide +kernel
theorem d_Mod_share_54 : decode prog_14_method_34_code 54 = .ok (.aload_n 0, 1) := by decide +kernel
theorem d_Mod_share_55 : decode prog_14_method_34_code 55 = .ok (.iload 5, 2) := by decide +kernel
theorem d_Mod_share_57 : decode prog_14_method_34_code 57 = .ok (.invokevirtual 76, 3) := by decide +kernel
theorem d_Mod_share_60 : decode prog_14_method_34_code 60 = .ok (.iadd, 1) := by decide +kernel
theorem d_Mod_share_61 : decode prog_14_method_34_code 61 = .ok (.istore_n 3, 1) := by decide +kernel
theorem d_Mod_share_62 : decode prog_14_method_34_code 62 = .ok (.iload 4, 2) := by decide +kernel
theorem d_Mod_share_64 : decode prog_14_method_34_code 64 = .ok (.aload_n 0, 1) := by decide +kernel
theorem d_Mod_share_65 : decode prog_14_method_34_code 65 = .ok (.iload 5, 2) := by decide +kernel
theorem d_Mod_share_67 : decode prog_14_method_34_code 67 = .ok (.iload_n 1, 1) := by decide +kernel
theorem d_Mod_share_68 : decode prog_14_method_34_code 68 = .ok (.iconst 0, 1) := by decide +kernel
theorem d_Mod_share_69 : decode prog_14_method_34_code 69 = .ok (.invokevirtual 96, 3) := by decide +kernel
theorem d_Mod_share_72 : decode prog_14_method_34_code 72 = .ok (.ifCond .eq 12, 3) := by decide +kernel
theorem d_Mod_share_75 : decode prog_14_method_34_code 75 = .ok (.aload_n 0, 1) := by decide +kernel
theorem d_Mod_share_76 : decode prog_14_method_34_code 76 = .ok (.iload 5, 2) := by decide +kernel
theorem d_Mod_share_78 : decode prog_14_method_34_code 78 = .ok (.invokevirtual 76, 3) := by decide +kernel
theorem d_Mod_share_81 : decode prog_14_method_34_code 81 = .ok (.goto 4, 3) := by decide +kernel
theorem d_Mod_share_84 : decode prog_14_method_34_code 84 = .ok (.iconst 0, 1) := by decide +kernel
theorem d_Mod_share_85 : decode prog_14_method_34_code 85 = .ok (.iadd, 1) := by decide +kernel
theorem d_Mod_share_86 : decode prog_14_method_34_code 86 = .ok (.istore 4, 2) := by decide +kernel
theorem d_Mod_share_88 : decode prog_14_method_34_code 88 = .ok (.iinc 5 1, 3) := by decide +kernel
theorem d_Mod_share_91 : decode prog_14_method_34_code 91 = .ok (.goto (-49), 3) := by decide +kernel
theorem d_Mod_share_94 : decode prog_14_method_34_code 94 = .ok (.iload_n 3, 1) := by decide +kernel
theorem d_Mod_share_95 : decode prog_14_method_34_code 95 = .ok (.ifCond .ne 15, 3) := by decide +kernel
theorem d_Mod_share_98 : decode prog_14_method_34_code 98 = .ok (.ldc 102, 2) := by decide +kernel
theorem d_Mod_share_100 : decode prog_14_method_34_code 100 = .ok (.aload_n 0, 1) := by decide +kernel
theorem d_Mod_share_101 : decode prog_14_method_34_code 101 = .ok (.bipush (-3), 2) := by decide +kernel
theorem d_Mod_share_103 : decode prog_14_method_34_code 103 = .ok (.invokevirtual 29, 3) := by decide +kernel
theorem d_Mod_share_106 : decode prog_14_method_34_code 106 = .ok (.isub, 1) := by decide +kernel
theorem d_Mod_share_107 : decode prog_14_method_34_code 107 = .ok (.goto 10, 3) := by decide +kernel
theorem d_Mod_share_110 : decode prog_14_method_34_code 110 = .ok (.iload 4, 2) := by decide +kernel
theorem d_Mod_share_112 : decode prog_14_method_34_code 112 = .ok (.iload_n 3, 1) := by decide +kernel
theorem d_Mod_share_113 : decode prog_14_method_34_code 113 = .ok (.iload_n 2, 1) := by decide +kernel
theorem d_Mod_share_114 : decode prog_14_method_34_code 114 = .ok (.invokestatic 103, 3) := by decide +kernel
theorem d_Mod_share_117 : decode prog_14_method_34_code 117 = .ok (.ireturn, 1) := by decide +kernel
theorem d_Mod_only_0 : decode prog_14_method_35_code 0 = .ok (.iload_n 1, 1) := by decide +kernel
theorem d_Mod_only_1 : decode prog_14_method_35_code 1 = .ok (.invokestatic 79, 3) := by decide +kernel
theorem d_Mod_only_4 : decode prog_14_method_35_code 4 = .ok (.ifCond .ne 9, 3) := by decide +kernel
theorem d_Mod_only_7 : decode prog_14_method_35_code 7 = .ok (.aload_n 0, 1) := by decide +kernel
theorem d_Mod_only_8 : decode prog_14_method_35_code 8 = .ok (.iconst (-1), 1) := by decide +kernel
theorem d_Mod_only_9 : decode prog_14_method_35_code 9 = .ok (.invokevirtual 29, 3) := by decide +kernel
theorem d_Mod_only_12 : decode prog_14_method_35_code 12 = .ok (.ireturn, 1) := by decide +kernel
theorem d_Mod_only_13 : decode prog_14_method_35_code 13 = .ok (.iconst 0, 1) := by decide +kernel
theorem d_Mod_only_14 : decode prog_14_method_35_code 14 = .ok (.istore_n 2, 1) := by decide +kernel
theorem d_Mod_only_15 : decode prog_14_method_35_code 15 = .ok (.iconst 0, 1) := by decide +kernel
theorem d_Mod_only_16 : decode prog_14_method_35_code 16 = .ok (.istore_n 3, 1) := by decide +kernel
theorem d_Mod_only_17 : decode prog_14_method_35_code 17 = .ok (.iload_n 3, 1) := by decide +kernel
theorem d_Mod_only_18 : decode prog_14_method_35_code 18 = .ok (.aload_n 0, 1) := by decide +kernel
theorem d_Mod_only_19 : decode prog_14_method_35_code 19 = .ok (.getfield 13, 3) := by decide +kernel
theorem d_Mod_only_22 : decode prog_14_method_35_code 22 = .ok (.iconst 0, 1) := by decide +kernel
theorem d_Mod_only_23 : decode prog_14_method_35_code 23 = .ok (.iaload, 1) := by decide +kernel
theorem d_Mod_only_24 : decode prog_14_method_35_code 24 = .ok (.if_icmp .ge 28, 3) := by decide +kernel
theorem d_Mod_only_27 : decode prog_14_method_35_code 27 = .ok (.iload_n 2, 1) := by decide +kernel
theorem d_Mod_only_28 : decode prog_14_method_35_code 28 = .ok (.aload_n 0, 1) := by decide +kernel
theorem d_Mod_only_29 : decode prog_14_method_35_code 29 = .ok (.iload_n 3, 1) := by decide +kernel
theorem d_Mod_only_30 : decode prog_14_method_35_code 30 = .ok (.invokevirtual 106, 3) := by decide +kernel
theorem d_Mod_only_33 : decode prog_14_method_35_code 33 = .ok (.iconst 1, 1) := by decide +kernel
theorem d_Mod_only_34 : decode prog_14_method_35_code 34 = .ok (.iload_n 1, 1) := by decide +kernel
theorem d_Mod_only_35 : decode prog_14_method_35_code 35 = .ok (.ishl, 1) := by decide +kernel
theorem d_Mod_only_36 : decode prog_14_method_35_code 36 = .ok (.if_icmp .ne 7, 3) := by decide +kernel
theorem d_Mod_only_39 : decode prog_14_method_35_code 39 = .ok (.iconst 1, 1) := by decide +kernel
theorem d_Mod_only_40 : decode prog_14_method_35_code 40 = .ok (.goto 4, 3) := by decide +kernel
theorem d_Mod_only_43 : decode prog_14_method_35_code 43 = .ok (.iconst 0, 1) := by decide +kernel
theorem d_Mod_only_44 : decode prog_14_method_35_code 44 = .ok (.iadd, 1) := by decide +kernel
theorem d_Mod_only_45 : decode prog_14_method_35_code 45 = .ok (.istore_n 2, 1) := by decide +kernel
theorem d_Mod_only_46 : decode prog_14_method_35_code 46 = .ok (.iinc 3 1, 3) := by decide +kernel
theorem d_Mod_only_49 : decode prog_14_method_35_code 49 = .ok (.goto (-32), 3) := by decide +kernel
theorem d_Mod_only_52 : decode prog_14_method_35_code 52 = .ok (.iload_n 2, 1) := by decide +kernel
theorem d_Mod_only_53 : decode prog_14_method_35_code 53 = .ok (.ireturn, 1) := by decide +kernel
theorem d_Mod_bits_0 : decode prog_14_method_36_code 0 = .ok (.iconst 0, 1) := by decide +kernel
theorem d_Mod_bits_1 : decode prog_14_method_36_code 1 = .ok (.istore_n 1, 1) := by decide +kernel
theorem d_Mod_bits_2 : decode prog_14_method_36_code 2 = .ok (.iload_n 0, 1) := by decide +kernel
theorem d_Mod_bits_3 : decode prog_14_method_36_code 3 = .ok (.istore_n 2, 1) := by decide +kernel
theorem d_Mod_bits_4 : decode prog_14_method_36_code 4 = .ok (.iload_n 2, 1) := by decide +kernel
theorem d_Mod_bits_5 : decode prog_14_method_36_code 5 = .ok (.ifCond .le 16, 3) := by decide +kernel
theorem d_Mod_bits_8 : decode prog_14_method_36_code 8 = .ok (.iload_n 1, 1) := by decide +kernel
theorem d_Mod_bits_9 : decode prog_14_method_36_code 9 = .ok (.iload_n 2, 1) := by decide +kernel
theorem d_Mod_bits_10 : decode prog_14_method_36_code 10 = .ok (.iconst 1, 1) := by decide +kernel
theorem d_Mod_bits_11 : decode prog_14_method_36_code 11 = .ok (.iand, 1) := by decide +kernel
theorem d_Mod_bits_12 : decode prog_14_method_36_code 12 = .ok (.iadd, 1) := by decide +kernel
theorem d_Mod_bits_13 : decode prog_14_method_36_code 13 = .ok (.istore_n 1, 1) := by decide +kernel
theorem d_Mod_bits_14 : decode prog_14_method_36_code 14 = .ok (.iload_n 2, 1) := by decide +kernel
theorem d_Mod_bits_15 : decode prog_14_method_36_code 15 = .ok (.iconst 1, 1) := by decide +kernel
theorem d_Mod_bits_16 : decode prog_14_method_36_code 16 = .ok (.ishr, 1) := by decide +kernel
theorem d_Mod_bits_17 : decode prog_14_method_36_code 17 = .ok (.istore_n 2, 1) := by decide +kernel
theorem d_Mod_bits_18 : decode prog_14_method_36_code 18 = .ok (.goto (-14), 3) := by decide +kernel
theorem d_Mod_bits_21 : decode prog_14_method_36_code 21 = .ok (.iload_n 1, 1) := by decide +kernel
theorem d_Mod_bits_22 : decode prog_14_method_36_code 22 = .ok (.ireturn, 1) := by decide +kernel
theorem d_Mod_isCover_0 : decode prog_14_method_37_code 0 = .ok (.iconst 0, 1) := by decide +kernel
theorem d_Mod_isCover_1 : decode prog_14_method_37_code 1 = .ok (.istore_n 2, 1) := by decide +kernel
theorem d_Mod_isCover_2 : decode prog_14_method_37_code 2 = .ok (.iload_n 2, 1) := by decide +kernel
theorem d_Mod_isCover_3 : decode prog_14_method_37_code 3 = .ok (.aload_n 0, 1) := by decide +kernel
theorem d_Mod_isCover_4 : decode prog_14_method_37_code 4 = .ok (.getfield 13, 3) := by decide +kernel
theorem d_Mod_isCover_7 : decode prog_14_method_37_code 7 = .ok (.iconst 0, 1) := by decide +kernel
theorem d_Mod_isCover_8 : decode prog_14_method_37_code 8 = .ok (.iaload, 1) := by decide +kernel
theorem d_Mod_isCover_9 : decode prog_14_method_37_code 9 = .ok (.if_icmp .ge 29, 3) := by decide +kernel
theorem d_Mod_isCover_12 : decode prog_14_method_37_code 12 = .ok (.aload_n 0, 1) := by decide +kernel
theorem d_Mod_isCover_13 : decode prog_14_method_37_code 13 = .ok (.iload_n 2, 1) := by decide +kernel
theorem d_Mod_isCover_14 : decode prog_14_method_37_code 14 = .ok (.invokevirtual 106, 3) := by decide +kernel
theorem d_Mod_isCover_17 : decode prog_14_method_37_code 17 = .ok (.ifCond .eq 15, 3) := by decide +kernel
theorem d_Mod_isCover_20 : decode prog_14_method_37_code 20 = .ok (.aload_n 0, 1) := by decide +kernel
theorem d_Mod_isCover_21 : decode prog_14_method_37_code 21 = .ok (.iload_n 2, 1) := by decide +kernel
theorem d_Mod_isCover_22 : decode prog_14_method_37_code 22 = .ok (.invokevirtual 106, 3) := by decide +kernel
theorem d_Mod_isCover_25 : decode prog_14_method_37_code 25 = .ok (.iload_n 1, 1) := by decide +kernel
theorem d_Mod_isCover_26 : decode prog_14_method_37_code 26 = .ok (.iand, 1) := by decide +kernel
theorem d_Mod_isCover_27 : decode prog_14_method_37_code 27 = .ok (.ifCond .ne 5, 3) := by decide +kernel
theorem d_Mod_isCover_30 : decode prog_14_method_37_code 30 = .ok (.iconst 0, 1) := by decide +kernel
theorem d_Mod_isCover_31 : decode prog_14_method_37_code 31 = .ok (.ireturn, 1) := by decide +kernel
theorem d_Mod_isCover_32 : decode prog_14_method_37_code 32 = .ok (.iinc 2 1, 3) := by decide +kernel
theorem d_Mod_isCover_35 : decode prog_14_method_37_code 35 = .ok (.goto (-33), 3) := by decide +kernel
theorem d_Mod_isCover_38 : decode prog_14_method_37_code 38 = .ok (.iconst 1, 1) := by decide +kernel
theorem d_Mod_isCover_39 : decode prog_14_method_37_code 39 = .ok (.ireturn, 1) := by decide +kernel
theorem d_Mod_cover_0 : decode prog_14_method_38_code 0 = .ok (.iconst 0, 1) := by decide +kernel
theorem d_Mod_cover_1 : decode prog_14_method_38_code 1 = .ok (.istore_n 1, 1) := by decide +kernel
theorem d_Mod_cover_2 : decode prog_14_method_38_code 2 = .ok (.iload_n 1, 1) := by decide +kernel
theorem d_Mod_cover_3 : decode prog_14_method_38_code 3 = .ok (.bipush 6, 2) := by decide +kernel
theorem d_Mod_cover_5 : decode prog_14_method_38_code 5 = .ok (.if_icmp .ge 41, 3) := by decide +kernel
theorem d_Mod_cover_8 : decode prog_14_method_38_code 8 = .ok (.iconst 0, 1) := by decide +kernel
theorem d_Mod_cover_9 : decode prog_14_method_38_code 9 = .ok (.istore_n 2, 1) := by decide +kernel
theorem d_Mod_cover_10 : decode prog_14_method_38_code 10 = .ok (.iload_n 2, 1) := by decide +kernel
theorem d_Mod_cover_11 : decode prog_14_method_38_code 11 = .ok (.bipush 64, 2) := by decide +kernel
theorem d_Mod_cover_13 : decode prog_14_method_38_code 13 = .ok (.if_icmp .ge 27, 3) := by decide +kernel
theorem d_Mod_cover_16 : decode prog_14_method_38_code 16 = .ok (.iload_n 2, 1) := by decide +kernel
theorem d_Mod_cover_17 : decode prog_14_method_38_code 17 = .ok (.invokestatic 109, 3) := by decide +kernel
theorem d_Mod_cover_20 : decode prog_14_method_38_code 20 = .ok (.iload_n 1, 1) := by decide +kernel
theorem d_Mod_cover_21 : decode prog_14_method_38_code 21 = .ok (.if_icmp .ne 13, 3) := by decide +kernel
theorem d_Mod_cover_24 : decode prog_14_method_38_code 24 = .ok (.aload_n 0, 1) := by decide +kernel
theorem d_Mod_cover_25 : decode prog_14_method_38_code 25 = .ok (.iload_n 2, 1) := by decide +kernel
theorem d_Mod_cover_26 : decode prog_14_method_38_code 26 = .ok (.invokevirtual 112, 3) := by decide +kernel
theorem d_Mod_cover_29 : decode prog_14_method_38_code 29 = .ok (.ifCond .eq 5, 3) := by decide +kernel
theorem d_Mod_cover_32 : decode prog_14_method_38_code 32 = .ok (.iload_n 2, 1) := by decide +kernel
theorem d_Mod_cover_33 : decode prog_14_method_38_code 33 = .ok (.ireturn, 1) := by decide +kernel
theorem d_Mod_cover_34 : decode prog_14_method_38_code 34 = .ok (.iinc 2 1, 3) := by decide +kernel
theorem d_Mod_cover_37 : decode prog_14_method_38_code 37 = .ok (.goto (-27), 3) := by decide +kernel
theorem d_Mod_cover_40 : decode prog_14_method_38_code 40 = .ok (.iinc 1 1, 3) := by decide +kernel
theorem d_Mod_cover_43 : decode prog_14_method_38_code 43 = .ok (.goto (-41), 3) := by decide +kernel
theorem d_Mod_cover_46 : decode prog_14_method_38_code 46 = .ok (.bipush 63, 2) := by decide +kernel
theorem d_Mod_cover_48 : decode prog_14_method_38_code 48 = .ok (.ireturn, 1) := by decide +kernel
theorem d_Mod_half_0 : decode prog_14_method_39_code 0 = .ok (.iload_n 1, 1) := by decide +kernel
theorem d_Mod_half_1 : decode prog_14_method_39_code 1 = .ok (.invokestatic 79, 3) := by decide +kernel
theorem d_Mod_half_4 : decode prog_14_method_39_code 4 = .ok (.ifCond .ne 9, 3) := by decide +kernel
theorem d_Mod_half_7 : decode prog_14_method_39_code 7 = .ok (.aload_n 0, 1) := by decide +kernel
theorem d_Mod_half_8 : decode prog_14_method_39_code 8 = .ok (.iconst (-1), 1) := by decide +kernel
theorem d_Mod_half_9 : decode prog_14_method_39_code 9 = .ok (.invokevirtual 29, 3) := by decide +kernel
theorem d_Mod_half_12 : decode prog_14_method_39_code 12 = .ok (.ireturn, 1) := by decide +kernel
theorem d_Mod_half_13 : decode prog_14_method_39_code 13 = .ok (.bipush 127, 2) := by decide +kernel
theorem d_Mod_half_15 : decode prog_14_method_39_code 15 = .ok (.istore_n 2, 1) := by decide +kernel
theorem d_Mod_half_16 : decode prog_14_method_39_code 16 = .ok (.iconst 0, 1) := by decide +kernel
theorem d_Mod_half_17 : decode prog_14_method_39_code 17 = .ok (.istore_n 3, 1) := by decide +kernel
theorem d_Mod_half_18 : decode prog_14_method_39_code 18 = .ok (.iload_n 3, 1) := by decide +kernel
theorem d_Mod_half_19 : decode prog_14_method_39_code 19 = .ok (.sipush 128, 3) := by decide +kernel
theorem d_Mod_half_22 : decode prog_14_method_39_code 22 = .ok (.if_icmp .ge 83, 3) := by decide +kernel
theorem d_Mod_half_25 : decode prog_14_method_39_code 25 = .ok (.iconst 0, 1) := by decide +kernel
theorem d_Mod_half_26 : decode prog_14_method_39_code 26 = .ok (.istore 4, 2) := by decide +kernel
theorem d_Mod_half_28 : decode prog_14_method_39_code 28 = .ok (.iconst 0, 1) := by decide +kernel
theorem d_Mod_half_29 : decode prog_14_method_39_code 29 = .ok (.istore 5, 2) := by decide +kernel
theorem d_Mod_half_31 : decode prog_14_method_39_code 31 = .ok (.iload 5, 2) := by decide +kernel
theorem d_Mod_half_33 : decode prog_14_method_39_code 33 = .ok (.aload_n 0, 1) := by decide +kernel
theorem d_Mod_half_34 : decode prog_14_method_39_code 34 = .ok (.getfield 13, 3) := by decide +kernel
theorem d_Mod_half_37 : decode prog_14_method_39_code 37 = .ok (.iconst 0, 1) := by decide +kernel
theorem d_Mod_half_38 : decode prog_14_method_39_code 38 = .ok (.iaload, 1) := by decide +kernel
theorem d_Mod_half_39 : decode prog_14_method_39_code 39 = .ok (.if_icmp .ge 30, 3) := by decide +kernel
theorem d_Mod_half_42 : decode prog_14_method_39_code 42 = .ok (.iload 4, 2) := by decide +kernel
theorem d_Mod_half_44 : decode prog_14_method_39_code 44 = .ok (.aload_n 0, 1) := by decide +kernel
theorem d_Mod_half_45 : decode prog_14_method_39_code 45 = .ok (.iload 5, 2) := by decide +kernel
theorem d_Mod_half_47 : decode prog_14_method_39_code 47 = .ok (.iload_n 1, 1) := by decide +kernel
theorem d_Mod_half_48 : decode prog_14_method_39_code 48 = .ok (.iload_n 3, 1) := by decide +kernel
theorem d_Mod_half_49 : decode prog_14_method_39_code 49 = .ok (.invokevirtual 96, 3) := by decide +kernel
theorem d_Mod_half_52 : decode prog_14_method_39_code 52 = .ok (.ifCond .eq 7, 3) := by decide +kernel
theorem d_Mod_half_55 : decode prog_14_method_39_code 55 = .ok (.iconst 1, 1) := by decide +kernel
theorem d_Mod_half_56 : decode prog_14_method_39_code 56 = .ok (.goto 4, 3) := by decide +kernel
theorem d_Mod_half_59 : decode prog_14_method_39_code 59 = .ok (.iconst 0, 1) := by decide +kernel
theorem d_Mod_half_60 : decode prog_14_method_39_code 60 = .ok (.iadd, 1) := by decide +kernel
theorem d_Mod_half_61 : decode prog_14_method_39_code 61 = .ok (.istore 4, 2) := by decide +kernel
theorem d_Mod_half_63 : decode prog_14_method_39_code 63 = .ok (.iinc 5 1, 3) := by decide +kernel
theorem d_Mod_half_66 : decode prog_14_method_39_code 66 = .ok (.goto (-35), 3) := by decide +kernel
theorem d_Mod_half_69 : decode prog_14_method_39_code 69 = .ok (.iconst 2, 1) := by decide +kernel
theorem d_Mod_half_70 : decode prog_14_method_39_code 70 = .ok (.iload 4, 2) := by decide +kernel
theorem d_Mod_half_72 : decode prog_14_method_39_code 72 = .ok (.imul, 1) := by decide +kernel
theorem d_Mod_half_73 : decode prog_14_method_39_code 73 = .ok (.aload_n 0, 1) := by decide +kernel
theorem d_Mod_half_74 : decode prog_14_method_39_code 74 = .ok (.getfield 13, 3) := by decide +kernel
theorem d_Mod_half_77 : decode prog_14_method_39_code 77 = .ok (.iconst 0, 1) := by decide +kernel
theorem d_Mod_half_78 : decode prog_14_method_39_code 78 = .ok (.iaload, 1) := by decide +kernel
theorem d_Mod_half_79 : decode prog_14_method_39_code 79 = .ok (.if_icmp .lt 18, 3) := by decide +kernel
theorem d_Mod_half_82 : decode prog_14_method_39_code 82 = .ok (.iload_n 3, 1) := by decide +kernel
theorem d_Mod_half_83 : decode prog_14_method_39_code 83 = .ok (.invokestatic 109, 3) := by decide +kernel
theorem d_Mod_half_86 : decode prog_14_method_39_code 86 = .ok (.iload_n 2, 1) := by decide +kernel
theorem d_Mod_half_87 : decode prog_14_method_39_code 87 = .ok (.invokestatic 109, 3) := by decide +kernel
theorem d_Mod_half_90 : decode prog_14_method_39_code 90 = .ok (.if_icmp .ge 7, 3) := by decide +kernel
theorem d_Mod_half_93 : decode prog_14_method_39_code 93 = .ok (.iload_n 3, 1) := by decide +kernel
theorem d_Mod_half_94 : decode prog_14_method_39_code 94 = .ok (.goto 4, 3) := by decide +kernel
theorem d_Mod_half_97 : decode prog_14_method_39_code 97 = .ok (.iload_n 2, 1) := by decide +kernel
theorem d_Mod_half_98 : decode prog_14_method_39_code 98 = .ok (.istore_n 2, 1) := by decide +kernel
theorem d_Mod_half_99 : decode prog_14_method_39_code 99 = .ok (.iinc 3 1, 3) := by decide +kernel
theorem d_Mod_half_102 : decode prog_14_method_39_code 102 = .ok (.goto (-84), 3) := by decide +kernel
theorem d_Mod_half_105 : decode prog_14_method_39_code 105 = .ok (.iload_n 2, 1) := by decide +kernel
theorem d_Mod_half_106 : decode prog_14_method_39_code 106 = .ok (.ireturn, 1) := by decide +kernel
theorem d_Mod_sorts_0 : decode prog_14_method_40_code 0 = .ok (.iload_n 1, 1) := by decide +kernel
theorem d_Mod_sorts_1 : decode prog_14_method_40_code 1 = .ok (.iconst 2, 1) := by decide +kernel
theorem d_Mod_sorts_2 : decode prog_14_method_40_code 2 = .ok (.invokestatic 25, 3) := by decide +kernel
theorem d_Mod_sorts_5 : decode prog_14_method_40_code 5 = .ok (.ifCond .ne 10, 3) := by decide +kernel
theorem d_Mod_sorts_8 : decode prog_14_method_40_code 8 = .ok (.aload_n 0, 1) := by decide +kernel
theorem d_Mod_sorts_9 : decode prog_14_method_40_code 9 = .ok (.bipush (-2), 2) := by decide +kernel
theorem d_Mod_sorts_11 : decode prog_14_method_40_code 11 = .ok (.invokevirtual 29, 3) := by decide +kernel
theorem d_Mod_sorts_14 : decode prog_14_method_40_code 14 = .ok (.ireturn, 1) := by decide +kernel
theorem d_Mod_sorts_15 : decode prog_14_method_40_code 15 = .ok (.iconst 0, 1) := by decide +kernel
theorem d_Mod_sorts_16 : decode prog_14_method_40_code 16 = .ok (.istore_n 2, 1) := by decide +kernel
theorem d_Mod_sorts_17 : decode prog_14_method_40_code 17 = .ok (.iconst 0, 1) := by decide +kernel
theorem d_Mod_sorts_18 : decode prog_14_method_40_code 18 = .ok (.istore_n 3, 1) := by decide +kernel
theorem d_Mod_sorts_19 : decode prog_14_method_40_code 19 = .ok (.iconst 0, 1) := by decide +kernel
theorem d_Mod_sorts_20 : decode prog_14_method_40_code 20 = .ok (.istore 4, 2) := by decide +kernel
theorem d_Mod_sorts_22 : decode prog_14_method_40_code 22 = .ok (.iload 4, 2) := by decide +kernel
theorem d_Mod_sorts_24 : decode prog_14_method_40_code 24 = .ok (.bipush 64, 2) := by decide +kernel
theorem d_Mod_sorts_26 : decode prog_14_method_40_code 26 = .ok (.if_icmp .ge 79, 3) := by decide +kernel
theorem d_Mod_sorts_29 : decode prog_14_method_40_code 29 = .ok (.iconst 0, 1) := by decide +kernel
theorem d_Mod_sorts_30 : decode prog_14_method_40_code 30 = .ok (.istore 5, 2) := by decide +kernel
theorem d_Mod_sorts_32 : decode prog_14_method_40_code 32 = .ok (.iconst 0, 1) := by decide +kernel
theorem d_Mod_sorts_33 : decode prog_14_method_40_code 33 = .ok (.istore 6, 2) := by decide +kernel
theorem d_Mod_sorts_35 : decode prog_14_method_40_code 35 = .ok (.iload 6, 2) := by decide +kernel
theorem d_Mod_sorts_37 : decode prog_14_method_40_code 37 = .ok (.aload_n 0, 1) := by decide +kernel
theorem d_Mod_sorts_38 : decode prog_14_method_40_code 38 = .ok (.getfield 13, 3) := by decide +kernel
theorem d_Mod_sorts_41 : decode prog_14_method_40_code 41 = .ok (.iconst 0, 1) := by decide +kernel
theorem d_Mod_sorts_42 : decode prog_14_method_40_code 42 = .ok (.iaload, 1) := by decide +kernel
theorem d_Mod_sorts_43 : decode prog_14_method_40_code 43 = .ok (.if_icmp .ge 30, 3) := by decide +kernel
theorem d_Mod_sorts_46 : decode prog_14_method_40_code 46 = .ok (.iload 5, 2) := by decide +kernel
theorem d_Mod_sorts_48 : decode prog_14_method_40_code 48 = .ok (.aload_n 0, 1) := by decide +kernel
theorem d_Mod_sorts_49 : decode prog_14_method_40_code 49 = .ok (.iload 6, 2) := by decide +kernel
theorem d_Mod_sorts_51 : decode prog_14_method_40_code 51 = .ok (.invokevirtual 106, 3) := by decide +kernel
theorem d_Mod_sorts_54 : decode prog_14_method_40_code 54 = .ok (.iload 4, 2) := by decide +kernel
theorem d_Mod_sorts_56 : decode prog_14_method_40_code 56 = .ok (.if_icmp .ne 7, 3) := by decide +kernel
theorem d_Mod_sorts_59 : decode prog_14_method_40_code 59 = .ok (.iconst 1, 1) := by decide +kernel
theorem d_Mod_sorts_60 : decode prog_14_method_40_code 60 = .ok (.goto 4, 3) := by decide +kernel
theorem d_Mod_sorts_63 : decode prog_14_method_40_code 63 = .ok (.iconst 0, 1) := by decide +kernel
theorem d_Mod_sorts_64 : decode prog_14_method_40_code 64 = .ok (.iadd, 1) := by decide +kernel
theorem d_Mod_sorts_65 : decode prog_14_method_40_code 65 = .ok (.istore 5, 2) := by decide +kernel
theorem d_Mod_sorts_67 : decode prog_14_method_40_code 67 = .ok (.iinc 6 1, 3) := by decide +kernel
theorem d_Mod_sorts_70 : decode prog_14_method_40_code 70 = .ok (.goto (-35), 3) := by decide +kernel
theorem d_Mod_sorts_73 : decode prog_14_method_40_code 73 = .ok (.iload_n 2, 1) := by decide +kernel
theorem d_Mod_sorts_74 : decode prog_14_method_40_code 74 = .ok (.iload 5, 2) := by decide +kernel
theorem d_Mod_sorts_76 : decode prog_14_method_40_code 76 = .ok (.ifCond .le 7, 3) := by decide +kernel
theorem d_Mod_sorts_79 : decode prog_14_method_40_code 79 = .ok (.iconst 1, 1) := by decide +kernel
theorem d_Mod_sorts_80 : decode prog_14_method_40_code 80 = .ok (.goto 4, 3) := by decide +kernel
theorem d_Mod_sorts_83 : decode prog_14_method_40_code 83 = .ok (.iconst 0, 1) := by decide +kernel
theorem d_Mod_sorts_84 : decode prog_14_method_40_code 84 = .ok (.iadd, 1) := by decide +kernel
theorem d_Mod_sorts_85 : decode prog_14_method_40_code 85 = .ok (.istore_n 2, 1) := by decide +kernel
theorem d_Mod_sorts_86 : decode prog_14_method_40_code 86 = .ok (.iload 5, 2) := by decide +kernel
theorem d_Mod_sorts_88 : decode prog_14_method_40_code 88 = .ok (.iload_n 3, 1) := by decide +kernel
theorem d_Mod_sorts_89 : decode prog_14_method_40_code 89 = .ok (.if_icmp .le 8, 3) := by decide +kernel
theorem d_Mod_sorts_92 : decode prog_14_method_40_code 92 = .ok (.iload 5, 2) := by decide +kernel
theorem d_Mod_sorts_94 : decode prog_14_method_40_code 94 = .ok (.goto 4, 3) := by decide +kernel
theorem d_Mod_sorts_97 : decode prog_14_method_40_code 97 = .ok (.iload_n 3, 1) := by decide +kernel
theorem d_Mod_sorts_98 : decode prog_14_method_40_code 98 = .ok (.istore_n 3, 1) := by decide +kernel
theorem d_Mod_sorts_99 : decode prog_14_method_40_code 99 = .ok (.iinc 4 1, 3) := by decide +kernel
theorem d_Mod_sorts_102 : decode prog_14_method_40_code 102 = .ok (.goto (-80), 3) := by decide +kernel
theorem d_Mod_sorts_105 : decode prog_14_method_40_code 105 = .ok (.iload_n 1, 1) := by decide +kernel
theorem d_Mod_sorts_106 : decode prog_14_method_40_code 106 = .ok (.ifCond .ne 7, 3) := by decide +kernel
theorem d_Mod_sorts_109 : decode prog_14_method_40_code 109 = .ok (.iload_n 2, 1) := by decide +kernel
theorem d_Mod_sorts_110 : decode prog_14_method_40_code 110 = .ok (.goto 4, 3) := by decide +kernel
theorem d_Mod_sorts_113 : decode prog_14_method_40_code 113 = .ok (.iload_n 3, 1) := by decide +kernel
theorem d_Mod_sorts_114 : decode prog_14_method_40_code 114 = .ok (.ireturn, 1) := by decide +kernel
theorem d_Mod_alike_0 : decode prog_14_method_41_code 0 = .ok (.aload_n 0, 1) := by decide +kernel
theorem d_Mod_alike_1 : decode prog_14_method_41_code 1 = .ok (.iload_n 1, 1) := by decide +kernel
theorem d_Mod_alike_2 : decode prog_14_method_41_code 2 = .ok (.invokevirtual 63, 3) := by decide +kernel
theorem d_Mod_alike_5 : decode prog_14_method_41_code 5 = .ok (.ifCond .ne 9, 3) := by decide +kernel
theorem d_Mod_alike_8 : decode prog_14_method_41_code 8 = .ok (.aload_n 0, 1) := by decide +kernel
theorem d_Mod_alike_9 : decode prog_14_method_41_code 9 = .ok (.iconst (-1), 1) := by decide +kernel
theorem d_Mod_alike_10 : decode prog_14_method_41_code 10 = .ok (.invokevirtual 29, 3) := by decide +kernel
theorem d_Mod_alike_13 : decode prog_14_method_41_code 13 = .ok (.ireturn, 1) := by decide +kernel
theorem d_Mod_alike_14 : decode prog_14_method_41_code 14 = .ok (.iconst 0, 1) := by decide +kernel
theorem d_Mod_alike_15 : decode prog_14_method_41_code 15 = .ok (.istore_n 2, 1) := by decide +kernel
theorem d_Mod_alike_16 : decode prog_14_method_41_code 16 = .ok (.aload_n 0, 1) := by decide +kernel
theorem d_Mod_alike_17 : decode prog_14_method_41_code 17 = .ok (.iload_n 2, 1) := by decide +kernel
theorem d_Mod_alike_18 : decode prog_14_method_41_code 18 = .ok (.invokevirtual 106, 3) := by decide +kernel
theorem d_Mod_alike_21 : decode prog_14_method_41_code 21 = .ok (.aload_n 0, 1) := by decide +kernel
theorem d_Mod_alike_22 : decode prog_14_method_41_code 22 = .ok (.iload_n 1, 1) := by decide +kernel
theorem d_Mod_alike_23 : decode prog_14_method_41_code 23 = .ok (.invokevirtual 106, 3) := by decide +kernel
theorem d_Mod_alike_26 : decode prog_14_method_41_code 26 = .ok (.if_icmp .eq 9, 3) := by decide +kernel
theorem d_Mod_alike_29 : decode prog_14_method_41_code 29 = .ok (.iinc 2 1, 3) := by decide +kernel
theorem d_Mod_alike_32 : decode prog_14_method_41_code 32 = .ok (.goto (-16), 3) := by decide +kernel
theorem d_Mod_alike_35 : decode prog_14_method_41_code 35 = .ok (.iload_n 2, 1) := by decide +kernel
theorem d_Mod_alike_36 : decode prog_14_method_41_code 36 = .ok (.ireturn, 1) := by decide +kernel
theorem d_Mod_together_0 : decode prog_14_method_42_code 0 = .ok (.iload_n 1, 1) := by decide +kernel
theorem d_Mod_together_1 : decode prog_14_method_42_code 1 = .ok (.bipush 8, 2) := by decide +kernel
theorem d_Mod_together_3 : decode prog_14_method_42_code 3 = .ok (.invokestatic 25, 3) := by decide +kernel
theorem d_Mod_together_6 : decode prog_14_method_42_code 6 = .ok (.ifCond .eq 12, 3) := by decide +kernel
theorem d_Mod_together_9 : decode prog_14_method_42_code 9 = .ok (.iload_n 2, 1) := by decide +kernel
theorem d_Mod_together_10 : decode prog_14_method_42_code 10 = .ok (.bipush 8, 2) := by decide +kernel
theorem d_Mod_together_12 : decode prog_14_method_42_code 12 = .ok (.invokestatic 25, 3) := by decide +kernel
theorem d_Mod_together_15 : decode prog_14_method_42_code 15 = .ok (.ifCond .ne 12, 3) := by decide +kernel
theorem d_Mod_together_18 : decode prog_14_method_42_code 18 = .ok (.ldc 102, 2) := by decide +kernel
theorem d_Mod_together_20 : decode prog_14_method_42_code 20 = .ok (.aload_n 0, 1) := by decide +kernel
theorem d_Mod_together_21 : decode prog_14_method_42_code 21 = .ok (.iconst (-1), 1) := by decide +kernel
theorem d_Mod_together_22 : decode prog_14_method_42_code 22 = .ok (.invokevirtual 29, 3) := by decide +kernel
theorem d_Mod_together_25 : decode prog_14_method_42_code 25 = .ok (.isub, 1) := by decide +kernel
theorem d_Mod_together_26 : decode prog_14_method_42_code 26 = .ok (.ireturn, 1) := by decide +kernel
theorem d_Mod_together_27 : decode prog_14_method_42_code 27 = .ok (.iconst 0, 1) := by decide +kernel
theorem d_Mod_together_28 : decode prog_14_method_42_code 28 = .ok (.istore_n 3, 1) := by decide +kernel
theorem d_Mod_together_29 : decode prog_14_method_42_code 29 = .ok (.iconst 0, 1) := by decide +kernel
theorem d_Mod_together_30 : decode prog_14_method_42_code 30 = .ok (.istore 4, 2) := by decide +kernel
theorem d_Mod_together_32 : decode prog_14_method_42_code 32 = .ok (.iconst 0, 1) := by decide +kernel
theorem d_Mod_together_33 : decode prog_14_method_42_code 33 = .ok (.istore 5, 2) := by decide +kernel
theorem d_Mod_together_35 : decode prog_14_method_42_code 35 = .ok (.iconst 0, 1) := by decide +kernel
theorem d_Mod_together_36 : decode prog_14_method_42_code 36 = .ok (.istore 6, 2) := by decide +kernel
theorem d_Mod_together_38 : decode prog_14_method_42_code 38 = .ok (.iconst 0, 1) := by decide +kernel
theorem d_Mod_together_39 : decode prog_14_method_42_code 39 = .ok (.istore 7, 2) := by decide +kernel
theorem d_Mod_together_41 : decode prog_14_method_42_code 41 = .ok (.iload 7, 2) := by decide +kernel
theorem d_Mod_together_43 : decode prog_14_method_42_code 43 = .ok (.aload_n 0, 1) := by decide +kernel
theorem d_Mod_together_44 : decode prog_14_method_42_code 44 = .ok (.getfield 13, 3) := by decide +kernel
theorem d_Mod_together_47 : decode prog_14_method_42_code 47 = .ok (.iconst 0, 1) := by decide +kernel
theorem d_Mod_together_48 : decode prog_14_method_42_code 48 = .ok (.iaload, 1) := by decide +kernel
theorem d_Mod_together_49 : decode prog_14_method_42_code 49 = .ok (.if_icmp .ge 68, 3) := by decide +kernel
theorem d_Mod_together_52 : decode prog_14_method_42_code 52 = .ok (.aload_n 0, 1) := by decide +kernel
theorem d_Mod_together_53 : decode prog_14_method_42_code 53 = .ok (.iload 7, 2) := by decide +kernel
theorem d_Mod_together_55 : decode prog_14_method_42_code 55 = .ok (.iload_n 1, 1) := by decide +kernel
theorem d_Mod_together_56 : decode prog_14_method_42_code 56 = .ok (.invokevirtual 70, 3) := by decide +kernel
theorem d_Mod_together_59 : decode prog_14_method_42_code 59 = .ok (.ifCond .eq 29, 3) := by decide +kernel
theorem d_Mod_together_62 : decode prog_14_method_42_code 62 = .ok (.iinc 3 1, 3) := by decide +kernel
theorem d_Mod_together_65 : decode prog_14_method_42_code 65 = .ok (.iload 4, 2) := by decide +kernel
theorem d_Mod_together_67 : decode prog_14_method_42_code 67 = .ok (.aload_n 0, 1) := by decide +kernel
theorem d_Mod_together_68 : decode prog_14_method_42_code 68 = .ok (.iload 7, 2) := by decide +kernel
theorem d_Mod_together_70 : decode prog_14_method_42_code 70 = .ok (.iload_n 2, 1) := by decide +kernel
theorem d_Mod_together_71 : decode prog_14_method_42_code 71 = .ok (.invokevirtual 70, 3) := by decide +kernel
theorem d_Mod_together_74 : decode prog_14_method_42_code 74 = .ok (.ifCond .eq 7, 3) := by decide +kernel
theorem d_Mod_together_77 : decode prog_14_method_42_code 77 = .ok (.iconst 1, 1) := by decide +kernel
theorem d_Mod_together_78 : decode prog_14_method_42_code 78 = .ok (.goto 4, 3) := by decide +kernel
theorem d_Mod_together_81 : decode prog_14_method_42_code 81 = .ok (.iconst 0, 1) := by decide +kernel
theorem d_Mod_together_82 : decode prog_14_method_42_code 82 = .ok (.iadd, 1) := by decide +kernel
theorem d_Mod_together_83 : decode prog_14_method_42_code 83 = .ok (.istore 4, 2) := by decide +kernel
theorem d_Mod_together_85 : decode prog_14_method_42_code 85 = .ok (.goto 26, 3) := by decide +kernel
theorem d_Mod_together_88 : decode prog_14_method_42_code 88 = .ok (.iinc 5 1, 3) := by decide +kernel
theorem d_Mod_together_91 : decode prog_14_method_42_code 91 = .ok (.iload 6, 2) := by decide +kernel
theorem d_Mod_together_93 : decode prog_14_method_42_code 93 = .ok (.aload_n 0, 1) := by decide +kernel
theorem d_Mod_together_94 : decode prog_14_method_42_code 94 = .ok (.iload 7, 2) := by decide +kernel
theorem d_Mod_together_96 : decode prog_14_method_42_code 96 = .ok (.iload_n 2, 1) := by decide +kernel
theorem d_Mod_together_97 : decode prog_14_method_42_code 97 = .ok (.invokevirtual 70, 3) := by decide +kernel
theorem d_Mod_together_100 : decode prog_14_method_42_code 100 = .ok (.ifCond .eq 7, 3) := by decide +kernel
theorem d_Mod_together_103 : decode prog_14_method_42_code 103 = .ok (.iconst 1, 1) := by decide +kernel
theorem d_Mod_together_104 : decode prog_14_method_42_code 104 = .ok (.goto 4, 3) := by decide +kernel
theorem d_Mod_together_107 : decode prog_14_method_42_code 107 = .ok (.iconst 0, 1) := by decide +kernel
theorem d_Mod_together_108 : decode prog_14_method_42_code 108 = .ok (.iadd, 1) := by decide +kernel
theorem d_Mod_together_109 : decode prog_14_method_42_code 109 = .ok (.istore 6, 2) := by decide +kernel
theorem d_Mod_together_111 : decode prog_14_method_42_code 111 = .ok (.iinc 7 1, 3) := by decide +kernel
theorem d_Mod_together_114 : decode prog_14_method_42_code 114 = .ok (.goto (-73), 3) := by decide +kernel
theorem d_Mod_together_117 : decode prog_14_method_42_code 117 = .ok (.iload_n 3, 1) := by decide +kernel
theorem d_Mod_together_118 : decode prog_14_method_42_code 118 = .ok (.ifCond .eq 8, 3) := by decide +kernel
theorem d_Mod_together_121 : decode prog_14_method_42_code 121 = .ok (.iload 5, 2) := by decide +kernel
theorem d_Mod_together_123 : decode prog_14_method_42_code 123 = .ok (.ifCond .ne 15, 3) := by decide +kernel
theorem d_Mod_together_126 : decode prog_14_method_42_code 126 = .ok (.ldc 102, 2) := by decide +kernel
theorem d_Mod_together_128 : decode prog_14_method_42_code 128 = .ok (.aload_n 0, 1) := by decide +kernel
theorem d_Mod_together_129 : decode prog_14_method_42_code 129 = .ok (.bipush (-3), 2) := by decide +kernel
theorem d_Mod_together_131 : decode prog_14_method_42_code 131 = .ok (.invokevirtual 29, 3) := by decide +kernel
theorem d_Mod_together_134 : decode prog_14_method_42_code 134 = .ok (.isub, 1) := by decide +kernel
theorem d_Mod_together_135 : decode prog_14_method_42_code 135 = .ok (.goto 19, 3) := by decide +kernel
theorem d_Mod_together_138 : decode prog_14_method_42_code 138 = .ok (.bipush 100, 2) := by decide +kernel
theorem d_Mod_together_140 : decode prog_14_method_42_code 140 = .ok (.iload 4, 2) := by decide +kernel
theorem d_Mod_together_142 : decode prog_14_method_42_code 142 = .ok (.imul, 1) := by decide +kernel
theorem d_Mod_together_143 : decode prog_14_method_42_code 143 = .ok (.iload_n 3, 1) := by decide +kernel
theorem d_Mod_together_144 : decode prog_14_method_42_code 144 = .ok (.idiv, 1) := by decide +kernel
theorem d_Mod_together_145 : decode prog_14_method_42_code 145 = .ok (.bipush 100, 2) := by decide +kernel
theorem d_Mod_together_147 : decode prog_14_method_42_code 147 = .ok (.iload 6, 2) := by decide +kernel
theorem d_Mod_together_149 : decode prog_14_method_42_code 149 = .ok (.imul, 1) := by decide +kernel
theorem d_Mod_together_150 : decode prog_14_method_42_code 150 = .ok (.iload 5, 2) := by decide +kernel
theorem d_Mod_together_152 : decode prog_14_method_42_code 152 = .ok (.idiv, 1) := by decide +kernel
theorem d_Mod_together_153 : decode prog_14_method_42_code 153 = .ok (.isub, 1) := by decide +kernel
theorem d_Mod_together_154 : decode prog_14_method_42_code 154 = .ok (.ireturn, 1) := by decide +kernel
theorem d_Mod_twice_0 : decode prog_14_method_43_code 0 = .ok (.aload_n 0, 1) := by decide +kernel
theorem d_Mod_twice_1 : decode prog_14_method_43_code 1 = .ok (.iload_n 1, 1) := by decide +kernel
theorem d_Mod_twice_2 : decode prog_14_method_43_code 2 = .ok (.invokevirtual 63, 3) := by decide +kernel
theorem d_Mod_twice_5 : decode prog_14_method_43_code 5 = .ok (.ifCond .eq 11, 3) := by decide +kernel
theorem d_Mod_twice_8 : decode prog_14_method_43_code 8 = .ok (.aload_n 0, 1) := by decide +kernel
theorem d_Mod_twice_9 : decode prog_14_method_43_code 9 = .ok (.iload_n 2, 1) := by decide +kernel
theorem d_Mod_twice_10 : decode prog_14_method_43_code 10 = .ok (.invokevirtual 63, 3) := by decide +kernel
theorem d_Mod_twice_13 : decode prog_14_method_43_code 13 = .ok (.ifCond .ne 7, 3) := by decide +kernel
theorem d_Mod_twice_16 : decode prog_14_method_43_code 16 = .ok (.iconst (-1), 1) := by decide +kernel
theorem d_Mod_twice_17 : decode prog_14_method_43_code 17 = .ok (.goto 40, 3) := by decide +kernel
theorem d_Mod_twice_20 : decode prog_14_method_43_code 20 = .ok (.aload_n 0, 1) := by decide +kernel
theorem d_Mod_twice_21 : decode prog_14_method_43_code 21 = .ok (.iload_n 2, 1) := by decide +kernel
theorem d_Mod_twice_22 : decode prog_14_method_43_code 22 = .ok (.iconst 4, 1) := by decide +kernel
theorem d_Mod_twice_23 : decode prog_14_method_43_code 23 = .ok (.invokevirtual 66, 3) := by decide +kernel
theorem d_Mod_twice_26 : decode prog_14_method_43_code 26 = .ok (.aload_n 0, 1) := by decide +kernel
theorem d_Mod_twice_27 : decode prog_14_method_43_code 27 = .ok (.iload_n 1, 1) := by decide +kernel
theorem d_Mod_twice_28 : decode prog_14_method_43_code 28 = .ok (.iconst 4, 1) := by decide +kernel
theorem d_Mod_twice_29 : decode prog_14_method_43_code 29 = .ok (.invokevirtual 66, 3) := by decide +kernel
theorem d_Mod_twice_32 : decode prog_14_method_43_code 32 = .ok (.if_icmp .gt 8, 3) := by decide +kernel
theorem d_Mod_twice_35 : decode prog_14_method_43_code 35 = .ok (.bipush (-3), 2) := by decide +kernel
theorem d_Mod_twice_37 : decode prog_14_method_43_code 37 = .ok (.goto 20, 3) := by decide +kernel
theorem d_Mod_twice_40 : decode prog_14_method_43_code 40 = .ok (.aload_n 0, 1) := by decide +kernel
theorem d_Mod_twice_41 : decode prog_14_method_43_code 41 = .ok (.getfield 13, 3) := by decide +kernel
theorem d_Mod_twice_44 : decode prog_14_method_43_code 44 = .ok (.iconst 1, 1) := by decide +kernel
theorem d_Mod_twice_45 : decode prog_14_method_43_code 45 = .ok (.iaload, 1) := by decide +kernel
theorem d_Mod_twice_46 : decode prog_14_method_43_code 46 = .ok (.bipush 10, 2) := by decide +kernel
theorem d_Mod_twice_48 : decode prog_14_method_43_code 48 = .ok (.if_icmp .ne 8, 3) := by decide +kernel
theorem d_Mod_twice_51 : decode prog_14_method_43_code 51 = .ok (.bipush (-6), 2) := by decide +kernel
theorem d_Mod_twice_53 : decode prog_14_method_43_code 53 = .ok (.goto 4, 3) := by decide +kernel
theorem d_Mod_twice_56 : decode prog_14_method_43_code 56 = .ok (.iconst 0, 1) := by decide +kernel
theorem d_Mod_twice_57 : decode prog_14_method_43_code 57 = .ok (.istore_n 3, 1) := by decide +kernel
theorem d_Mod_twice_58 : decode prog_14_method_43_code 58 = .ok (.iload_n 3, 1) := by decide +kernel
theorem d_Mod_twice_59 : decode prog_14_method_43_code 59 = .ok (.ifCond .eq 9, 3) := by decide +kernel
theorem d_Mod_twice_62 : decode prog_14_method_43_code 62 = .ok (.aload_n 0, 1) := by decide +kernel
theorem d_Mod_twice_63 : decode prog_14_method_43_code 63 = .ok (.iload_n 3, 1) := by decide +kernel
theorem d_Mod_twice_64 : decode prog_14_method_43_code 64 = .ok (.invokevirtual 29, 3) := by decide +kernel
theorem d_Mod_twice_67 : decode prog_14_method_43_code 67 = .ok (.ireturn, 1) := by decide +kernel
theorem d_Mod_twice_68 : decode prog_14_method_43_code 68 = .ok (.aload_n 0, 1) := by decide +kernel
theorem d_Mod_twice_69 : decode prog_14_method_43_code 69 = .ok (.getfield 13, 3) := by decide +kernel
theorem d_Mod_twice_72 : decode prog_14_method_43_code 72 = .ok (.sipush 234, 3) := by decide +kernel
theorem d_Mod_twice_75 : decode prog_14_method_43_code 75 = .ok (.iconst 2, 1) := by decide +kernel
theorem d_Mod_twice_76 : decode prog_14_method_43_code 76 = .ok (.aload_n 0, 1) := by decide +kernel
theorem d_Mod_twice_77 : decode prog_14_method_43_code 77 = .ok (.getfield 13, 3) := by decide +kernel
theorem d_Mod_twice_80 : decode prog_14_method_43_code 80 = .ok (.iconst 1, 1) := by decide +kernel
theorem d_Mod_twice_81 : decode prog_14_method_43_code 81 = .ok (.iaload, 1) := by decide +kernel
theorem d_Mod_twice_82 : decode prog_14_method_43_code 82 = .ok (.imul, 1) := by decide +kernel
theorem d_Mod_twice_83 : decode prog_14_method_43_code 83 = .ok (.iadd, 1) := by decide +kernel
theorem d_Mod_twice_84 : decode prog_14_method_43_code 84 = .ok (.iload_n 1, 1) := by decide +kernel
theorem d_Mod_twice_85 : decode prog_14_method_43_code 85 = .ok (.iastore, 1) := by decide +kernel
theorem d_Mod_twice_86 : decode prog_14_method_43_code 86 = .ok (.aload_n 0, 1) := by decide +kernel
theorem d_Mod_twice_87 : decode prog_14_method_43_code 87 = .ok (.getfield 13, 3) := by decide +kernel
theorem d_Mod_twice_90 : decode prog_14_method_43_code 90 = .ok (.sipush 234, 3) := by decide +kernel
theorem d_Mod_twice_93 : decode prog_14_method_43_code 93 = .ok (.iconst 2, 1) := by decide +kernel
theorem d_Mod_twice_94 : decode prog_14_method_43_code 94 = .ok (.aload_n 0, 1) := by decide +kernel
theorem d_Mod_twice_95 : decode prog_14_method_43_code 95 = .ok (.getfield 13, 3) := by decide +kernel
theorem d_Mod_twice_98 : decode prog_14_method_43_code 98 = .ok (.iconst 1, 1) := by decide +kernel
theorem d_Mod_twice_99 : decode prog_14_method_43_code 99 = .ok (.iaload, 1) := by decide +kernel
theorem d_Mod_twice_100 : decode prog_14_method_43_code 100 = .ok (.imul, 1) := by decide +kernel
theorem d_Mod_twice_101 : decode prog_14_method_43_code 101 = .ok (.iadd, 1) := by decide +kernel
theorem d_Mod_twice_102 : decode prog_14_method_43_code 102 = .ok (.iconst 1, 1) := by decide +kernel
theorem d_Mod_twice_103 : decode prog_14_method_43_code 103 = .ok (.iadd, 1) := by decide +kernel
theorem d_Mod_twice_104 : decode prog_14_method_43_code 104 = .ok (.iload_n 2, 1) := by decide +kernel
theorem d_Mod_twice_105 : decode prog_14_method_43_code 105 = .ok (.iastore, 1) := by decide +kernel
theorem d_Mod_twice_106 : decode prog_14_method_43_code 106 = .ok (.aload_n 0, 1) := by decide +kernel
theorem d_Mod_twice_107 : decode prog_14_method_43_code 107 = .ok (.getfield 13, 3) := by decide +kernel
theorem d_Mod_twice_110 : decode prog_14_method_43_code 110 = .ok (.iconst 1, 1) := by decide +kernel
theorem d_Mod_twice_111 : decode prog_14_method_43_code 111 = .ok (.dup2, 1) := by decide +kernel
theorem d_Mod_twice_112 : decode prog_14_method_43_code 112 = .ok (.iaload, 1) := by decide +kernel
theorem d_Mod_twice_113 : decode prog_14_method_43_code 113 = .ok (.iconst 1, 1) := by decide +kernel
theorem d_Mod_twice_114 : decode prog_14_method_43_code 114 = .ok (.iadd, 1) := by decide +kernel
theorem d_Mod_twice_115 : decode prog_14_method_43_code 115 = .ok (.iastore, 1) := by decide +kernel
theorem d_Mod_twice_116 : decode prog_14_method_43_code 116 = .ok (.aload_n 0, 1) := by decide +kernel
theorem d_Mod_twice_117 : decode prog_14_method_43_code 117 = .ok (.getfield 13, 3) := by decide +kernel
theorem d_Mod_twice_120 : decode prog_14_method_43_code 120 = .ok (.iconst 1, 1) := by decide +kernel
theorem d_Mod_twice_121 : decode prog_14_method_43_code 121 = .ok (.iaload, 1) := by decide +kernel
theorem d_Mod_twice_122 : decode prog_14_method_43_code 122 = .ok (.ireturn, 1) := by decide +kernel
theorem d_Mod_grows_0 : decode prog_14_method_44_code 0 = .ok (.iload_n 1, 1) := by decide +kernel
theorem d_Mod_grows_1 : decode prog_14_method_44_code 1 = .ok (.iconst 2, 1) := by decide +kernel
theorem d_Mod_grows_2 : decode prog_14_method_44_code 2 = .ok (.invokestatic 25, 3) := by decide +kernel
theorem d_Mod_grows_5 : decode prog_14_method_44_code 5 = .ok (.ifCond .eq 11, 3) := by decide +kernel
theorem d_Mod_grows_8 : decode prog_14_method_44_code 8 = .ok (.iload_n 2, 1) := by decide +kernel
theorem d_Mod_grows_9 : decode prog_14_method_44_code 9 = .ok (.iconst 2, 1) := by decide +kernel
theorem d_Mod_grows_10 : decode prog_14_method_44_code 10 = .ok (.invokestatic 25, 3) := by decide +kernel
theorem d_Mod_grows_13 : decode prog_14_method_44_code 13 = .ok (.ifCond .ne 13, 3) := by decide +kernel
theorem d_Mod_grows_16 : decode prog_14_method_44_code 16 = .ok (.ldc 102, 2) := by decide +kernel
theorem d_Mod_grows_18 : decode prog_14_method_44_code 18 = .ok (.aload_n 0, 1) := by decide +kernel
theorem d_Mod_grows_19 : decode prog_14_method_44_code 19 = .ok (.bipush (-2), 2) := by decide +kernel
theorem d_Mod_grows_21 : decode prog_14_method_44_code 21 = .ok (.invokevirtual 29, 3) := by decide +kernel
theorem d_Mod_grows_24 : decode prog_14_method_44_code 24 = .ok (.isub, 1) := by decide +kernel
theorem d_Mod_grows_25 : decode prog_14_method_44_code 25 = .ok (.ireturn, 1) := by decide +kernel
theorem d_Mod_grows_26 : decode prog_14_method_44_code 26 = .ok (.iconst 0, 1) := by decide +kernel
theorem d_Mod_grows_27 : decode prog_14_method_44_code 27 = .ok (.istore_n 3, 1) := by decide +kernel
theorem d_Mod_grows_28 : decode prog_14_method_44_code 28 = .ok (.iconst 0, 1) := by decide +kernel
theorem d_Mod_grows_29 : decode prog_14_method_44_code 29 = .ok (.istore 4, 2) := by decide +kernel
theorem d_Mod_grows_31 : decode prog_14_method_44_code 31 = .ok (.iconst 0, 1) := by decide +kernel
theorem d_Mod_grows_32 : decode prog_14_method_44_code 32 = .ok (.istore 5, 2) := by decide +kernel
theorem d_Mod_grows_34 : decode prog_14_method_44_code 34 = .ok (.iload 5, 2) := by decide +kernel
theorem d_Mod_grows_36 : decode prog_14_method_44_code 36 = .ok (.aload_n 0, 1) := by decide +kernel
theorem d_Mod_grows_37 : decode prog_14_method_44_code 37 = .ok (.getfield 13, 3) := by decide +kernel
theorem d_Mod_grows_40 : decode prog_14_method_44_code 40 = .ok (.iconst 1, 1) := by decide +kernel
theorem d_Mod_grows_41 : decode prog_14_method_44_code 41 = .ok (.iaload, 1) := by decide +kernel
theorem d_Mod_grows_42 : decode prog_14_method_44_code 42 = .ok (.if_icmp .ge 76, 3) := by decide +kernel
theorem d_Mod_grows_45 : decode prog_14_method_44_code 45 = .ok (.aload_n 0, 1) := by decide +kernel
theorem d_Mod_grows_46 : decode prog_14_method_44_code 46 = .ok (.aload_n 0, 1) := by decide +kernel
theorem d_Mod_grows_47 : decode prog_14_method_44_code 47 = .ok (.getfield 13, 3) := by decide +kernel
theorem d_Mod_grows_50 : decode prog_14_method_44_code 50 = .ok (.sipush 234, 3) := by decide +kernel
theorem d_Mod_grows_53 : decode prog_14_method_44_code 53 = .ok (.iconst 2, 1) := by decide +kernel
theorem d_Mod_grows_54 : decode prog_14_method_44_code 54 = .ok (.iload 5, 2) := by decide +kernel
theorem d_Mod_grows_56 : decode prog_14_method_44_code 56 = .ok (.imul, 1) := by decide +kernel
theorem d_Mod_grows_57 : decode prog_14_method_44_code 57 = .ok (.iadd, 1) := by decide +kernel
theorem d_Mod_grows_58 : decode prog_14_method_44_code 58 = .ok (.iaload, 1) := by decide +kernel
theorem d_Mod_grows_59 : decode prog_14_method_44_code 59 = .ok (.iload_n 1, 1) := by decide +kernel
theorem d_Mod_grows_60 : decode prog_14_method_44_code 60 = .ok (.invokevirtual 66, 3) := by decide +kernel
theorem d_Mod_grows_63 : decode prog_14_method_44_code 63 = .ok (.istore 6, 2) := by decide +kernel
theorem d_Mod_grows_65 : decode prog_14_method_44_code 65 = .ok (.aload_n 0, 1) := by decide +kernel
theorem d_Mod_grows_66 : decode prog_14_method_44_code 66 = .ok (.aload_n 0, 1) := by decide +kernel
theorem d_Mod_grows_67 : decode prog_14_method_44_code 67 = .ok (.getfield 13, 3) := by decide +kernel
theorem d_Mod_grows_70 : decode prog_14_method_44_code 70 = .ok (.sipush 234, 3) := by decide +kernel
theorem d_Mod_grows_73 : decode prog_14_method_44_code 73 = .ok (.iconst 2, 1) := by decide +kernel
theorem d_Mod_grows_74 : decode prog_14_method_44_code 74 = .ok (.iload 5, 2) := by decide +kernel
theorem d_Mod_grows_76 : decode prog_14_method_44_code 76 = .ok (.imul, 1) := by decide +kernel
theorem d_Mod_grows_77 : decode prog_14_method_44_code 77 = .ok (.iadd, 1) := by decide +kernel
theorem d_Mod_grows_78 : decode prog_14_method_44_code 78 = .ok (.iconst 1, 1) := by decide +kernel
theorem d_Mod_grows_79 : decode prog_14_method_44_code 79 = .ok (.iadd, 1) := by decide +kernel
theorem d_Mod_grows_80 : decode prog_14_method_44_code 80 = .ok (.iaload, 1) := by decide +kernel
theorem d_Mod_grows_81 : decode prog_14_method_44_code 81 = .ok (.iload_n 1, 1) := by decide +kernel
theorem d_Mod_grows_82 : decode prog_14_method_44_code 82 = .ok (.invokevirtual 66, 3) := by decide +kernel
theorem d_Mod_grows_85 : decode prog_14_method_44_code 85 = .ok (.istore 7, 2) := by decide +kernel
theorem d_Mod_grows_87 : decode prog_14_method_44_code 87 = .ok (.iload 6, 2) := by decide +kernel
theorem d_Mod_grows_89 : decode prog_14_method_44_code 89 = .ok (.ifCond .lt 23, 3) := by decide +kernel
theorem d_Mod_grows_92 : decode prog_14_method_44_code 92 = .ok (.iload 7, 2) := by decide +kernel
theorem d_Mod_grows_94 : decode prog_14_method_44_code 94 = .ok (.ifCond .ge 6, 3) := by decide +kernel
theorem d_Mod_grows_97 : decode prog_14_method_44_code 97 = .ok (.goto 15, 3) := by decide +kernel
theorem d_Mod_grows_100 : decode prog_14_method_44_code 100 = .ok (.iload_n 3, 1) := by decide +kernel
theorem d_Mod_grows_101 : decode prog_14_method_44_code 101 = .ok (.iload 6, 2) := by decide +kernel
theorem d_Mod_grows_103 : decode prog_14_method_44_code 103 = .ok (.iadd, 1) := by decide +kernel
theorem d_Mod_grows_104 : decode prog_14_method_44_code 104 = .ok (.istore_n 3, 1) := by decide +kernel
theorem d_Mod_grows_105 : decode prog_14_method_44_code 105 = .ok (.iload 4, 2) := by decide +kernel
theorem d_Mod_grows_107 : decode prog_14_method_44_code 107 = .ok (.iload 7, 2) := by decide +kernel
theorem d_Mod_grows_109 : decode prog_14_method_44_code 109 = .ok (.iadd, 1) := by decide +kernel
theorem d_Mod_grows_110 : decode prog_14_method_44_code 110 = .ok (.istore 4, 2) := by decide +kernel
theorem d_Mod_grows_112 : decode prog_14_method_44_code 112 = .ok (.iinc 5 1, 3) := by decide +kernel
theorem d_Mod_grows_115 : decode prog_14_method_44_code 115 = .ok (.goto (-81), 3) := by decide +kernel
theorem d_Mod_grows_118 : decode prog_14_method_44_code 118 = .ok (.iload_n 3, 1) := by decide +kernel
theorem d_Mod_grows_119 : decode prog_14_method_44_code 119 = .ok (.ifCond .ne 15, 3) := by decide +kernel
theorem d_Mod_grows_122 : decode prog_14_method_44_code 122 = .ok (.ldc 102, 2) := by decide +kernel
theorem d_Mod_grows_124 : decode prog_14_method_44_code 124 = .ok (.aload_n 0, 1) := by decide +kernel
theorem d_Mod_grows_125 : decode prog_14_method_44_code 125 = .ok (.bipush (-3), 2) := by decide +kernel
theorem d_Mod_grows_127 : decode prog_14_method_44_code 127 = .ok (.invokevirtual 29, 3) := by decide +kernel
theorem d_Mod_grows_130 : decode prog_14_method_44_code 130 = .ok (.isub, 1) := by decide +kernel
theorem d_Mod_grows_131 : decode prog_14_method_44_code 131 = .ok (.goto 10, 3) := by decide +kernel
theorem d_Mod_grows_134 : decode prog_14_method_44_code 134 = .ok (.iload 4, 2) := by decide +kernel
theorem d_Mod_grows_136 : decode prog_14_method_44_code 136 = .ok (.iload_n 3, 1) := by decide +kernel
theorem d_Mod_grows_137 : decode prog_14_method_44_code 137 = .ok (.iload_n 2, 1) := by decide +kernel
theorem d_Mod_grows_138 : decode prog_14_method_44_code 138 = .ok (.invokestatic 103, 3) := by decide +kernel
theorem d_Mod_grows_141 : decode prog_14_method_44_code 141 = .ok (.ireturn, 1) := by decide +kernel
theorem d_Mod_people_0 : decode prog_14_method_45_code 0 = .ok (.iload_n 1, 1) := by decide +kernel
theorem d_Mod_people_1 : decode prog_14_method_45_code 1 = .ok (.bipush 10, 2) := by decide +kernel
theorem d_Mod_people_3 : decode prog_14_method_45_code 3 = .ok (.invokestatic 25, 3) := by decide +kernel
theorem d_Mod_people_6 : decode prog_14_method_45_code 6 = .ok (.ifCond .eq 14, 3) := by decide +kernel
theorem d_Mod_people_9 : decode prog_14_method_45_code 9 = .ok (.iload_n 2, 1) := by decide +kernel
theorem d_Mod_people_10 : decode prog_14_method_45_code 10 = .ok (.iconst 0, 1) := by decide +kernel
theorem d_Mod_people_11 : decode prog_14_method_45_code 11 = .ok (.sipush 999, 3) := by decide +kernel
theorem d_Mod_people_14 : decode prog_14_method_45_code 14 = .ok (.invokestatic 82, 3) := by decide +kernel
theorem d_Mod_people_17 : decode prog_14_method_45_code 17 = .ok (.goto 4, 3) := by decide +kernel
theorem d_Mod_people_20 : decode prog_14_method_45_code 20 = .ok (.iconst (-1), 1) := by decide +kernel
theorem d_Mod_people_21 : decode prog_14_method_45_code 21 = .ok (.istore_n 3, 1) := by decide +kernel
theorem d_Mod_people_22 : decode prog_14_method_45_code 22 = .ok (.iload_n 3, 1) := by decide +kernel
theorem d_Mod_people_23 : decode prog_14_method_45_code 23 = .ok (.ifCond .eq 11, 3) := by decide +kernel
theorem d_Mod_people_26 : decode prog_14_method_45_code 26 = .ok (.aload_n 0, 1) := by decide +kernel
theorem d_Mod_people_27 : decode prog_14_method_45_code 27 = .ok (.iload_n 3, 1) := by decide +kernel
theorem d_Mod_people_28 : decode prog_14_method_45_code 28 = .ok (.invokevirtual 29, 3) := by decide +kernel
theorem d_Mod_people_31 : decode prog_14_method_45_code 31 = .ok (.goto 13, 3) := by decide +kernel
theorem d_Mod_people_34 : decode prog_14_method_45_code 34 = .ok (.aload_n 0, 1) := by decide +kernel
theorem d_Mod_people_35 : decode prog_14_method_45_code 35 = .ok (.sipush 254, 3) := by decide +kernel
theorem d_Mod_people_38 : decode prog_14_method_45_code 38 = .ok (.iload_n 1, 1) := by decide +kernel
theorem d_Mod_people_39 : decode prog_14_method_45_code 39 = .ok (.iadd, 1) := by decide +kernel
theorem d_Mod_people_40 : decode prog_14_method_45_code 40 = .ok (.iload_n 2, 1) := by decide +kernel
theorem d_Mod_people_41 : decode prog_14_method_45_code 41 = .ok (.invokevirtual 86, 3) := by decide +kernel
theorem d_Mod_people_44 : decode prog_14_method_45_code 44 = .ok (.ireturn, 1) := by decide +kernel
theorem d_Mod_strokes_0 : decode prog_14_method_46_code 0 = .ok (.iload_n 1, 1) := by decide +kernel
theorem d_Mod_strokes_1 : decode prog_14_method_46_code 1 = .ok (.iconst 0, 1) := by decide +kernel
theorem d_Mod_strokes_2 : decode prog_14_method_46_code 2 = .ok (.bipush 99, 2) := by decide +kernel
theorem d_Mod_strokes_4 : decode prog_14_method_46_code 4 = .ok (.invokestatic 82, 3) := by decide +kernel
theorem d_Mod_strokes_7 : decode prog_14_method_46_code 7 = .ok (.istore_n 2, 1) := by decide +kernel
theorem d_Mod_strokes_8 : decode prog_14_method_46_code 8 = .ok (.iload_n 2, 1) := by decide +kernel
theorem d_Mod_strokes_9 : decode prog_14_method_46_code 9 = .ok (.ifCond .eq 11, 3) := by decide +kernel
theorem d_Mod_strokes_12 : decode prog_14_method_46_code 12 = .ok (.aload_n 0, 1) := by decide +kernel
theorem d_Mod_strokes_13 : decode prog_14_method_46_code 13 = .ok (.iload_n 2, 1) := by decide +kernel
theorem d_Mod_strokes_14 : decode prog_14_method_46_code 14 = .ok (.invokevirtual 29, 3) := by decide +kernel
theorem d_Mod_strokes_17 : decode prog_14_method_46_code 17 = .ok (.goto 9, 3) := by decide +kernel
theorem d_Mod_strokes_20 : decode prog_14_method_46_code 20 = .ok (.aload_n 0, 1) := by decide +kernel
theorem d_Mod_strokes_21 : decode prog_14_method_46_code 21 = .ok (.iconst 3, 1) := by decide +kernel
theorem d_Mod_strokes_22 : decode prog_14_method_46_code 22 = .ok (.iload_n 1, 1) := by decide +kernel
theorem d_Mod_strokes_23 : decode prog_14_method_46_code 23 = .ok (.invokevirtual 86, 3) := by decide +kernel
theorem d_Mod_strokes_26 : decode prog_14_method_46_code 26 = .ok (.ireturn, 1) := by decide +kernel
theorem d_Mod_reach_0 : decode prog_14_method_47_code 0 = .ok (.iload_n 1, 1) := by decide +kernel
theorem d_Mod_reach_1 : decode prog_14_method_47_code 1 = .ok (.invokestatic 79, 3) := by decide +kernel
theorem d_Mod_reach_4 : decode prog_14_method_47_code 4 = .ok (.ifCond .eq 13, 3) := by decide +kernel
theorem d_Mod_reach_7 : decode prog_14_method_47_code 7 = .ok (.iload_n 2, 1) := by decide +kernel
theorem d_Mod_reach_8 : decode prog_14_method_47_code 8 = .ok (.iconst 0, 1) := by decide +kernel
theorem d_Mod_reach_9 : decode prog_14_method_47_code 9 = .ok (.bipush 10, 2) := by decide +kernel
theorem d_Mod_reach_11 : decode prog_14_method_47_code 11 = .ok (.invokestatic 82, 3) := by decide +kernel
theorem d_Mod_reach_14 : decode prog_14_method_47_code 14 = .ok (.goto 4, 3) := by decide +kernel
theorem d_Mod_reach_17 : decode prog_14_method_47_code 17 = .ok (.iconst (-1), 1) := by decide +kernel
theorem d_Mod_reach_18 : decode prog_14_method_47_code 18 = .ok (.istore_n 3, 1) := by decide +kernel
theorem d_Mod_reach_19 : decode prog_14_method_47_code 19 = .ok (.iload_n 3, 1) := by decide +kernel
theorem d_Mod_reach_20 : decode prog_14_method_47_code 20 = .ok (.ifCond .eq 11, 3) := by decide +kernel
theorem d_Mod_reach_23 : decode prog_14_method_47_code 23 = .ok (.aload_n 0, 1) := by decide +kernel
theorem d_Mod_reach_24 : decode prog_14_method_47_code 24 = .ok (.iload_n 3, 1) := by decide +kernel
theorem d_Mod_reach_25 : decode prog_14_method_47_code 25 = .ok (.invokevirtual 29, 3) := by decide +kernel
theorem d_Mod_reach_28 : decode prog_14_method_47_code 28 = .ok (.goto 19, 3) := by decide +kernel
theorem d_Mod_reach_31 : decode prog_14_method_47_code 31 = .ok (.aload_n 0, 1) := by decide +kernel
theorem d_Mod_reach_32 : decode prog_14_method_47_code 32 = .ok (.sipush 186, 3) := by decide +kernel
theorem d_Mod_reach_35 : decode prog_14_method_47_code 35 = .ok (.bipush 8, 2) := by decide +kernel
theorem d_Mod_reach_37 : decode prog_14_method_47_code 37 = .ok (.iload_n 1, 1) := by decide +kernel
theorem d_Mod_reach_38 : decode prog_14_method_47_code 38 = .ok (.imul, 1) := by decide +kernel
theorem d_Mod_reach_39 : decode prog_14_method_47_code 39 = .ok (.iadd, 1) := by decide +kernel
theorem d_Mod_reach_40 : decode prog_14_method_47_code 40 = .ok (.bipush 7, 2) := by decide +kernel
theorem d_Mod_reach_42 : decode prog_14_method_47_code 42 = .ok (.iadd, 1) := by decide +kernel
theorem d_Mod_reach_43 : decode prog_14_method_47_code 43 = .ok (.iload_n 2, 1) := by decide +kernel
theorem d_Mod_reach_44 : decode prog_14_method_47_code 44 = .ok (.invokevirtual 86, 3) := by decide +kernel
theorem d_Mod_reach_47 : decode prog_14_method_47_code 47 = .ok (.ireturn, 1) := by decide +kernel
theorem d_Mod_shouldOf_0 : decode prog_14_method_48_code 0 = .ok (.iconst 0, 1) := by decide +kernel
theorem d_Mod_shouldOf_1 : decode prog_14_method_48_code 1 = .ok (.istore_n 2, 1) := by decide +kernel
theorem d_Mod_shouldOf_2 : decode prog_14_method_48_code 2 = .ok (.iconst 0, 1) := by decide +kernel
theorem d_Mod_shouldOf_3 : decode prog_14_method_48_code 3 = .ok (.istore_n 3, 1) := by decide +kernel
theorem d_Mod_shouldOf_4 : decode prog_14_method_48_code 4 = .ok (.iload_n 3, 1) := by decide +kernel
theorem d_Mod_shouldOf_5 : decode prog_14_method_48_code 5 = .ok (.aload_n 0, 1) := by decide +kernel
theorem d_Mod_shouldOf_6 : decode prog_14_method_48_code 6 = .ok (.getfield 13, 3) := by decide +kernel
theorem d_Mod_shouldOf_9 : decode prog_14_method_48_code 9 = .ok (.sipush 186, 3) := by decide +kernel
theorem d_Mod_shouldOf_12 : decode prog_14_method_48_code 12 = .ok (.bipush 8, 2) := by decide +kernel
theorem d_Mod_shouldOf_14 : decode prog_14_method_48_code 14 = .ok (.iload_n 1, 1) := by decide +kernel
theorem d_Mod_shouldOf_15 : decode prog_14_method_48_code 15 = .ok (.imul, 1) := by decide +kernel
theorem d_Mod_shouldOf_16 : decode prog_14_method_48_code 16 = .ok (.iadd, 1) := by decide +kernel
theorem d_Mod_shouldOf_17 : decode prog_14_method_48_code 17 = .ok (.bipush 7, 2) := by decide +kernel
theorem d_Mod_shouldOf_19 : decode prog_14_method_48_code 19 = .ok (.iadd, 1) := by decide +kernel
theorem d_Mod_shouldOf_20 : decode prog_14_method_48_code 20 = .ok (.iaload, 1) := by decide +kernel
theorem d_Mod_shouldOf_21 : decode prog_14_method_48_code 21 = .ok (.if_icmp .ge 22, 3) := by decide +kernel
theorem d_Mod_shouldOf_24 : decode prog_14_method_48_code 24 = .ok (.iload_n 2, 1) := by decide +kernel
theorem d_Mod_shouldOf_25 : decode prog_14_method_48_code 25 = .ok (.aload_n 0, 1) := by decide +kernel
theorem d_Mod_shouldOf_26 : decode prog_14_method_48_code 26 = .ok (.getfield 13, 3) := by decide +kernel
theorem d_Mod_shouldOf_29 : decode prog_14_method_48_code 29 = .ok (.sipush 254, 3) := by decide +kernel
theorem d_Mod_shouldOf_32 : decode prog_14_method_48_code 32 = .ok (.iload_n 3, 1) := by decide +kernel
theorem d_Mod_shouldOf_33 : decode prog_14_method_48_code 33 = .ok (.iadd, 1) := by decide +kernel
theorem d_Mod_shouldOf_34 : decode prog_14_method_48_code 34 = .ok (.iaload, 1) := by decide +kernel
theorem d_Mod_shouldOf_35 : decode prog_14_method_48_code 35 = .ok (.iadd, 1) := by decide +kernel
theorem d_Mod_shouldOf_36 : decode prog_14_method_48_code 36 = .ok (.istore_n 2, 1) := by decide +kernel
theorem d_Mod_shouldOf_37 : decode prog_14_method_48_code 37 = .ok (.iinc 3 1, 3) := by decide +kernel
theorem d_Mod_shouldOf_40 : decode prog_14_method_48_code 40 = .ok (.goto (-36), 3) := by decide +kernel
theorem d_Mod_shouldOf_43 : decode prog_14_method_48_code 43 = .ok (.iload_n 2, 1) := by decide +kernel
theorem d_Mod_shouldOf_44 : decode prog_14_method_48_code 44 = .ok (.aload_n 0, 1) := by decide +kernel
theorem d_Mod_shouldOf_45 : decode prog_14_method_48_code 45 = .ok (.getfield 13, 3) := by decide +kernel
theorem d_Mod_shouldOf_48 : decode prog_14_method_48_code 48 = .ok (.iconst 3, 1) := by decide +kernel
theorem d_Mod_shouldOf_49 : decode prog_14_method_48_code 49 = .ok (.iaload, 1) := by decide +kernel
theorem d_Mod_shouldOf_50 : decode prog_14_method_48_code 50 = .ok (.imul, 1) := by decide +kernel
theorem d_Mod_shouldOf_51 : decode prog_14_method_48_code 51 = .ok (.ireturn, 1) := by decide +kernel
theorem d_Mod_should_0 : decode prog_14_method_49_code 0 = .ok (.iload_n 1, 1) := by decide +kernel
theorem d_Mod_should_1 : decode prog_14_method_49_code 1 = .ok (.invokestatic 79, 3) := by decide +kernel
theorem d_Mod_should_4 : decode prog_14_method_49_code 4 = .ok (.ifCond .eq 11, 3) := by decide +kernel
theorem d_Mod_should_7 : decode prog_14_method_49_code 7 = .ok (.aload_n 0, 1) := by decide +kernel
theorem d_Mod_should_8 : decode prog_14_method_49_code 8 = .ok (.iload_n 1, 1) := by decide +kernel
theorem d_Mod_should_9 : decode prog_14_method_49_code 9 = .ok (.invokevirtual 115, 3) := by decide +kernel
theorem d_Mod_should_12 : decode prog_14_method_49_code 12 = .ok (.goto 8, 3) := by decide +kernel
theorem d_Mod_should_15 : decode prog_14_method_49_code 15 = .ok (.aload_n 0, 1) := by decide +kernel
theorem d_Mod_should_16 : decode prog_14_method_49_code 16 = .ok (.iconst (-1), 1) := by decide +kernel
theorem d_Mod_should_17 : decode prog_14_method_49_code 17 = .ok (.invokevirtual 29, 3) := by decide +kernel
theorem d_Mod_should_20 : decode prog_14_method_49_code 20 = .ok (.ireturn, 1) := by decide +kernel
theorem d_Mod_seenOf_0 : decode prog_14_method_50_code 0 = .ok (.iconst 0, 1) := by decide +kernel
theorem d_Mod_seenOf_1 : decode prog_14_method_50_code 1 = .ok (.istore_n 2, 1) := by decide +kernel
theorem d_Mod_seenOf_2 : decode prog_14_method_50_code 2 = .ok (.iconst 0, 1) := by decide +kernel
theorem d_Mod_seenOf_3 : decode prog_14_method_50_code 3 = .ok (.istore_n 3, 1) := by decide +kernel
theorem d_Mod_seenOf_4 : decode prog_14_method_50_code 4 = .ok (.iload_n 3, 1) := by decide +kernel
theorem d_Mod_seenOf_5 : decode prog_14_method_50_code 5 = .ok (.aload_n 0, 1) := by decide +kernel
theorem d_Mod_seenOf_6 : decode prog_14_method_50_code 6 = .ok (.getfield 13, 3) := by decide +kernel
theorem d_Mod_seenOf_9 : decode prog_14_method_50_code 9 = .ok (.iconst 0, 1) := by decide +kernel
theorem d_Mod_seenOf_10 : decode prog_14_method_50_code 10 = .ok (.iaload, 1) := by decide +kernel
theorem d_Mod_seenOf_11 : decode prog_14_method_50_code 11 = .ok (.if_icmp .ge 27, 3) := by decide +kernel
theorem d_Mod_seenOf_14 : decode prog_14_method_50_code 14 = .ok (.iload_n 2, 1) := by decide +kernel
theorem d_Mod_seenOf_15 : decode prog_14_method_50_code 15 = .ok (.aload_n 0, 1) := by decide +kernel
theorem d_Mod_seenOf_16 : decode prog_14_method_50_code 16 = .ok (.iload_n 3, 1) := by decide +kernel
theorem d_Mod_seenOf_17 : decode prog_14_method_50_code 17 = .ok (.iload_n 1, 1) := by decide +kernel
theorem d_Mod_seenOf_18 : decode prog_14_method_50_code 18 = .ok (.iconst 0, 1) := by decide +kernel
theorem d_Mod_seenOf_19 : decode prog_14_method_50_code 19 = .ok (.invokevirtual 96, 3) := by decide +kernel
theorem d_Mod_seenOf_22 : decode prog_14_method_50_code 22 = .ok (.ifCond .eq 7, 3) := by decide +kernel
theorem d_Mod_seenOf_25 : decode prog_14_method_50_code 25 = .ok (.iconst 1, 1) := by decide +kernel
theorem d_Mod_seenOf_26 : decode prog_14_method_50_code 26 = .ok (.goto 4, 3) := by decide +kernel
theorem d_Mod_seenOf_29 : decode prog_14_method_50_code 29 = .ok (.iconst 0, 1) := by decide +kernel
theorem d_Mod_seenOf_30 : decode prog_14_method_50_code 30 = .ok (.iadd, 1) := by decide +kernel
theorem d_Mod_seenOf_31 : decode prog_14_method_50_code 31 = .ok (.istore_n 2, 1) := by decide +kernel
theorem d_Mod_seenOf_32 : decode prog_14_method_50_code 32 = .ok (.iinc 3 1, 3) := by decide +kernel
theorem d_Mod_seenOf_35 : decode prog_14_method_50_code 35 = .ok (.goto (-31), 3) := by decide +kernel
theorem d_Mod_seenOf_38 : decode prog_14_method_50_code 38 = .ok (.iload_n 2, 1) := by decide +kernel
theorem d_Mod_seenOf_39 : decode prog_14_method_50_code 39 = .ok (.ireturn, 1) := by decide +kernel
theorem d_Mod_seen_0 : decode prog_14_method_51_code 0 = .ok (.iload_n 1, 1) := by decide +kernel
theorem d_Mod_seen_1 : decode prog_14_method_51_code 1 = .ok (.invokestatic 79, 3) := by decide +kernel
theorem d_Mod_seen_4 : decode prog_14_method_51_code 4 = .ok (.ifCond .eq 11, 3) := by decide +kernel
theorem d_Mod_seen_7 : decode prog_14_method_51_code 7 = .ok (.aload_n 0, 1) := by decide +kernel
theorem d_Mod_seen_8 : decode prog_14_method_51_code 8 = .ok (.iload_n 1, 1) := by decide +kernel
theorem d_Mod_seen_9 : decode prog_14_method_51_code 9 = .ok (.invokevirtual 118, 3) := by decide +kernel
theorem d_Mod_seen_12 : decode prog_14_method_51_code 12 = .ok (.goto 8, 3) := by decide +kernel
theorem d_Mod_seen_15 : decode prog_14_method_51_code 15 = .ok (.aload_n 0, 1) := by decide +kernel
theorem d_Mod_seen_16 : decode prog_14_method_51_code 16 = .ok (.iconst (-1), 1) := by decide +kernel
theorem d_Mod_seen_17 : decode prog_14_method_51_code 17 = .ok (.invokevirtual 29, 3) := by decide +kernel
theorem d_Mod_seen_20 : decode prog_14_method_51_code 20 = .ok (.ireturn, 1) := by decide +kernel
theorem d_Mod_beyond_0 : decode prog_14_method_52_code 0 = .ok (.iload_n 1, 1) := by decide +kernel
theorem d_Mod_beyond_1 : decode prog_14_method_52_code 1 = .ok (.invokestatic 79, 3) := by decide +kernel
theorem d_Mod_beyond_4 : decode prog_14_method_52_code 4 = .ok (.ifCond .eq 14, 3) := by decide +kernel
theorem d_Mod_beyond_7 : decode prog_14_method_52_code 7 = .ok (.iload_n 2, 1) := by decide +kernel
theorem d_Mod_beyond_8 : decode prog_14_method_52_code 8 = .ok (.iconst 1, 1) := by decide +kernel
theorem d_Mod_beyond_9 : decode prog_14_method_52_code 9 = .ok (.sipush 999, 3) := by decide +kernel
theorem d_Mod_beyond_12 : decode prog_14_method_52_code 12 = .ok (.invokestatic 82, 3) := by decide +kernel
theorem d_Mod_beyond_15 : decode prog_14_method_52_code 15 = .ok (.goto 4, 3) := by decide +kernel
theorem d_Mod_beyond_18 : decode prog_14_method_52_code 18 = .ok (.iconst (-1), 1) := by decide +kernel
theorem d_Mod_beyond_19 : decode prog_14_method_52_code 19 = .ok (.istore_n 3, 1) := by decide +kernel
theorem d_Mod_beyond_20 : decode prog_14_method_52_code 20 = .ok (.iload_n 3, 1) := by decide +kernel
theorem d_Mod_beyond_21 : decode prog_14_method_52_code 21 = .ok (.ifCond .eq 14, 3) := by decide +kernel
theorem d_Mod_beyond_24 : decode prog_14_method_52_code 24 = .ok (.ldc 102, 2) := by decide +kernel
theorem d_Mod_beyond_26 : decode prog_14_method_52_code 26 = .ok (.aload_n 0, 1) := by decide +kernel
theorem d_Mod_beyond_27 : decode prog_14_method_52_code 27 = .ok (.iload_n 3, 1) := by decide +kernel
theorem d_Mod_beyond_28 : decode prog_14_method_52_code 28 = .ok (.invokevirtual 29, 3) := by decide +kernel
theorem d_Mod_beyond_31 : decode prog_14_method_52_code 31 = .ok (.isub, 1) := by decide +kernel
theorem d_Mod_beyond_32 : decode prog_14_method_52_code 32 = .ok (.goto 16, 3) := by decide +kernel
theorem d_Mod_beyond_35 : decode prog_14_method_52_code 35 = .ok (.aload_n 0, 1) := by decide +kernel
theorem d_Mod_beyond_36 : decode prog_14_method_52_code 36 = .ok (.iload_n 1, 1) := by decide +kernel
theorem d_Mod_beyond_37 : decode prog_14_method_52_code 37 = .ok (.invokevirtual 118, 3) := by decide +kernel
theorem d_Mod_beyond_40 : decode prog_14_method_52_code 40 = .ok (.iload_n 2, 1) := by decide +kernel
theorem d_Mod_beyond_41 : decode prog_14_method_52_code 41 = .ok (.imul, 1) := by decide +kernel
theorem d_Mod_beyond_42 : decode prog_14_method_52_code 42 = .ok (.aload_n 0, 1) := by decide +kernel
theorem d_Mod_beyond_43 : decode prog_14_method_52_code 43 = .ok (.iload_n 1, 1) := by decide +kernel
theorem d_Mod_beyond_44 : decode prog_14_method_52_code 44 = .ok (.invokevirtual 115, 3) := by decide +kernel
theorem d_Mod_beyond_47 : decode prog_14_method_52_code 47 = .ok (.isub, 1) := by decide +kernel
theorem d_Mod_beyond_48 : decode prog_14_method_52_code 48 = .ok (.ireturn, 1) := by decide +kernel
theorem d_Mod_leads_0 : decode prog_14_method_53_code 0 = .ok (.iconst 0, 1) := by decide +kernel
theorem d_Mod_leads_1 : decode prog_14_method_53_code 1 = .ok (.istore_n 1, 1) := by decide +kernel
theorem d_Mod_leads_2 : decode prog_14_method_53_code 2 = .ok (.iconst 0, 1) := by decide +kernel
theorem d_Mod_leads_3 : decode prog_14_method_53_code 3 = .ok (.istore_n 2, 1) := by decide +kernel
theorem d_Mod_leads_4 : decode prog_14_method_53_code 4 = .ok (.iload_n 2, 1) := by decide +kernel
theorem d_Mod_leads_5 : decode prog_14_method_53_code 5 = .ok (.aload_n 0, 1) := by decide +kernel
theorem d_Mod_leads_6 : decode prog_14_method_53_code 6 = .ok (.getfield 13, 3) := by decide +kernel
theorem d_Mod_leads_9 : decode prog_14_method_53_code 9 = .ok (.iconst 0, 1) := by decide +kernel
theorem d_Mod_leads_10 : decode prog_14_method_53_code 10 = .ok (.iaload, 1) := by decide +kernel
theorem d_Mod_leads_11 : decode prog_14_method_53_code 11 = .ok (.if_icmp .ge 18, 3) := by decide +kernel
theorem d_Mod_leads_14 : decode prog_14_method_53_code 14 = .ok (.iload_n 1, 1) := by decide +kernel
theorem d_Mod_leads_15 : decode prog_14_method_53_code 15 = .ok (.aload_n 0, 1) := by decide +kernel
theorem d_Mod_leads_16 : decode prog_14_method_53_code 16 = .ok (.iload_n 2, 1) := by decide +kernel
theorem d_Mod_leads_17 : decode prog_14_method_53_code 17 = .ok (.iconst 5, 1) := by decide +kernel
theorem d_Mod_leads_18 : decode prog_14_method_53_code 18 = .ok (.invokevirtual 66, 3) := by decide +kernel
theorem d_Mod_leads_21 : decode prog_14_method_53_code 21 = .ok (.iadd, 1) := by decide +kernel
theorem d_Mod_leads_22 : decode prog_14_method_53_code 22 = .ok (.istore_n 1, 1) := by decide +kernel
theorem d_Mod_leads_23 : decode prog_14_method_53_code 23 = .ok (.iinc 2 1, 3) := by decide +kernel
theorem d_Mod_leads_26 : decode prog_14_method_53_code 26 = .ok (.goto (-22), 3) := by decide +kernel
theorem d_Mod_leads_29 : decode prog_14_method_53_code 29 = .ok (.iload_n 1, 1) := by decide +kernel
theorem d_Mod_leads_30 : decode prog_14_method_53_code 30 = .ok (.ifCond .eq 13, 3) := by decide +kernel
theorem d_Mod_leads_33 : decode prog_14_method_53_code 33 = .ok (.iload_n 1, 1) := by decide +kernel
theorem d_Mod_leads_34 : decode prog_14_method_53_code 34 = .ok (.aload_n 0, 1) := by decide +kernel
theorem d_Mod_leads_35 : decode prog_14_method_53_code 35 = .ok (.getfield 13, 3) := by decide +kernel
theorem d_Mod_leads_38 : decode prog_14_method_53_code 38 = .ok (.iconst 0, 1) := by decide +kernel
theorem d_Mod_leads_39 : decode prog_14_method_53_code 39 = .ok (.iaload, 1) := by decide +kernel
theorem d_Mod_leads_40 : decode prog_14_method_53_code 40 = .ok (.if_icmp .ne 6, 3) := by decide +kernel
theorem d_Mod_leads_43 : decode prog_14_method_53_code 43 = .ok (.bipush (-9), 2) := by decide +kernel
theorem d_Mod_leads_45 : decode prog_14_method_53_code 45 = .ok (.ireturn, 1) := by decide +kernel
theorem d_Mod_leads_46 : decode prog_14_method_53_code 46 = .ok (.bipush (-9), 2) := by decide +kernel
theorem d_Mod_leads_48 : decode prog_14_method_53_code 48 = .ok (.istore_n 2, 1) := by decide +kernel
theorem d_Mod_leads_49 : decode prog_14_method_53_code 49 = .ok (.iconst 0, 1) := by decide +kernel
theorem d_Mod_leads_50 : decode prog_14_method_53_code 50 = .ok (.istore_n 3, 1) := by decide +kernel
theorem d_Mod_leads_51 : decode prog_14_method_53_code 51 = .ok (.iconst 0, 1) := by decide +kernel
theorem d_Mod_leads_52 : decode prog_14_method_53_code 52 = .ok (.istore 4, 2) := by decide +kernel
theorem d_Mod_leads_54 : decode prog_14_method_53_code 54 = .ok (.iload 4, 2) := by decide +kernel
theorem d_Mod_leads_56 : decode prog_14_method_53_code 56 = .ok (.bipush 6, 2) := by decide +kernel
theorem d_Mod_leads_58 : decode prog_14_method_53_code 58 = .ok (.if_icmp .ge 115, 3) := by decide +kernel
theorem d_Mod_leads_61 : decode prog_14_method_53_code 61 = .ok (.iconst 0, 1) := by decide +kernel
theorem d_Mod_leads_62 : decode prog_14_method_53_code 62 = .ok (.istore 5, 2) := by decide +kernel
theorem d_Mod_leads_64 : decode prog_14_method_53_code 64 = .ok (.iconst 0, 1) := by decide +kernel
theorem d_Mod_leads_65 : decode prog_14_method_53_code 65 = .ok (.istore 6, 2) := by decide +kernel
theorem d_Mod_leads_67 : decode prog_14_method_53_code 67 = .ok (.iload 6, 2) := by decide +kernel
theorem d_Mod_leads_69 : decode prog_14_method_53_code 69 = .ok (.aload_n 0, 1) := by decide +kernel
theorem d_Mod_leads_70 : decode prog_14_method_53_code 70 = .ok (.getfield 13, 3) := by decide +kernel
theorem d_Mod_leads_73 : decode prog_14_method_53_code 73 = .ok (.iconst 0, 1) := by decide +kernel
theorem d_Mod_leads_74 : decode prog_14_method_53_code 74 = .ok (.iaload, 1) := by decide +kernel
theorem d_Mod_leads_75 : decode prog_14_method_53_code 75 = .ok (.if_icmp .ge 42, 3) := by decide +kernel
theorem d_Mod_leads_78 : decode prog_14_method_53_code 78 = .ok (.iload 5, 2) := by decide +kernel
theorem d_Mod_leads_80 : decode prog_14_method_53_code 80 = .ok (.aload_n 0, 1) := by decide +kernel
theorem d_Mod_leads_81 : decode prog_14_method_53_code 81 = .ok (.iload 6, 2) := by decide +kernel
theorem d_Mod_leads_83 : decode prog_14_method_53_code 83 = .ok (.iconst 5, 1) := by decide +kernel
theorem d_Mod_leads_84 : decode prog_14_method_53_code 84 = .ok (.invokevirtual 66, 3) := by decide +kernel
theorem d_Mod_leads_87 : decode prog_14_method_53_code 87 = .ok (.iconst 1, 1) := by decide +kernel
theorem d_Mod_leads_88 : decode prog_14_method_53_code 88 = .ok (.if_icmp .ne 19, 3) := by decide +kernel
theorem d_Mod_leads_91 : decode prog_14_method_53_code 91 = .ok (.aload_n 0, 1) := by decide +kernel
theorem d_Mod_leads_92 : decode prog_14_method_53_code 92 = .ok (.iload 6, 2) := by decide +kernel
theorem d_Mod_leads_94 : decode prog_14_method_53_code 94 = .ok (.iload 4, 2) := by decide +kernel
theorem d_Mod_leads_96 : decode prog_14_method_53_code 96 = .ok (.iconst 0, 1) := by decide +kernel
theorem d_Mod_leads_97 : decode prog_14_method_53_code 97 = .ok (.invokevirtual 96, 3) := by decide +kernel
theorem d_Mod_leads_100 : decode prog_14_method_53_code 100 = .ok (.ifCond .eq 7, 3) := by decide +kernel
theorem d_Mod_leads_103 : decode prog_14_method_53_code 103 = .ok (.iconst 1, 1) := by decide +kernel
theorem d_Mod_leads_104 : decode prog_14_method_53_code 104 = .ok (.goto 4, 3) := by decide +kernel
theorem d_Mod_leads_107 : decode prog_14_method_53_code 107 = .ok (.iconst 0, 1) := by decide +kernel
theorem d_Mod_leads_108 : decode prog_14_method_53_code 108 = .ok (.iadd, 1) := by decide +kernel
theorem d_Mod_leads_109 : decode prog_14_method_53_code 109 = .ok (.istore 5, 2) := by decide +kernel
theorem d_Mod_leads_111 : decode prog_14_method_53_code 111 = .ok (.iinc 6 1, 3) := by decide +kernel
theorem d_Mod_leads_114 : decode prog_14_method_53_code 114 = .ok (.goto (-47), 3) := by decide +kernel
theorem d_Mod_leads_117 : decode prog_14_method_53_code 117 = .ok (.bipush 100, 2) := by decide +kernel
theorem d_Mod_leads_119 : decode prog_14_method_53_code 119 = .ok (.iload 5, 2) := by decide +kernel
theorem d_Mod_leads_121 : decode prog_14_method_53_code 121 = .ok (.imul, 1) := by decide +kernel
theorem d_Mod_leads_122 : decode prog_14_method_53_code 122 = .ok (.iload_n 1, 1) := by decide +kernel
theorem d_Mod_leads_123 : decode prog_14_method_53_code 123 = .ok (.idiv, 1) := by decide +kernel
theorem d_Mod_leads_124 : decode prog_14_method_53_code 124 = .ok (.bipush 100, 2) := by decide +kernel
theorem d_Mod_leads_126 : decode prog_14_method_53_code 126 = .ok (.aload_n 0, 1) := by decide +kernel
theorem d_Mod_leads_127 : decode prog_14_method_53_code 127 = .ok (.iload 4, 2) := by decide +kernel
theorem d_Mod_leads_129 : decode prog_14_method_53_code 129 = .ok (.invokevirtual 118, 3) := by decide +kernel
theorem d_Mod_leads_132 : decode prog_14_method_53_code 132 = .ok (.iload 5, 2) := by decide +kernel
theorem d_Mod_leads_134 : decode prog_14_method_53_code 134 = .ok (.isub, 1) := by decide +kernel
theorem d_Mod_leads_135 : decode prog_14_method_53_code 135 = .ok (.imul, 1) := by decide +kernel
theorem d_Mod_leads_136 : decode prog_14_method_53_code 136 = .ok (.aload_n 0, 1) := by decide +kernel
theorem d_Mod_leads_137 : decode prog_14_method_53_code 137 = .ok (.getfield 13, 3) := by decide +kernel
theorem d_Mod_leads_140 : decode prog_14_method_53_code 140 = .ok (.iconst 0, 1) := by decide +kernel
theorem d_Mod_leads_141 : decode prog_14_method_53_code 141 = .ok (.iaload, 1) := by decide +kernel
theorem d_Mod_leads_142 : decode prog_14_method_53_code 142 = .ok (.iload_n 1, 1) := by decide +kernel
theorem d_Mod_leads_143 : decode prog_14_method_53_code 143 = .ok (.isub, 1) := by decide +kernel
theorem d_Mod_leads_144 : decode prog_14_method_53_code 144 = .ok (.idiv, 1) := by decide +kernel
theorem d_Mod_leads_145 : decode prog_14_method_53_code 145 = .ok (.isub, 1) := by decide +kernel
theorem d_Mod_leads_146 : decode prog_14_method_53_code 146 = .ok (.istore 6, 2) := by decide +kernel
theorem d_Mod_leads_148 : decode prog_14_method_53_code 148 = .ok (.iload_n 2, 1) := by decide +kernel
theorem d_Mod_leads_149 : decode prog_14_method_53_code 149 = .ok (.ifCond .lt 12, 3) := by decide +kernel
theorem d_Mod_leads_152 : decode prog_14_method_53_code 152 = .ok (.iload 6, 2) := by decide +kernel
theorem d_Mod_leads_154 : decode prog_14_method_53_code 154 = .ok (.iload_n 3, 1) := by decide +kernel
theorem d_Mod_leads_155 : decode prog_14_method_53_code 155 = .ok (.if_icmp .gt 6, 3) := by decide +kernel
theorem d_Mod_leads_158 : decode prog_14_method_53_code 158 = .ok (.goto 9, 3) := by decide +kernel
theorem d_Mod_leads_161 : decode prog_14_method_53_code 161 = .ok (.iload 4, 2) := by decide +kernel
theorem d_Mod_leads_163 : decode prog_14_method_53_code 163 = .ok (.istore_n 2, 1) := by decide +kernel
theorem d_Mod_leads_164 : decode prog_14_method_53_code 164 = .ok (.iload 6, 2) := by decide +kernel
theorem d_Mod_leads_166 : decode prog_14_method_53_code 166 = .ok (.istore_n 3, 1) := by decide +kernel
theorem d_Mod_leads_167 : decode prog_14_method_53_code 167 = .ok (.iinc 4 1, 3) := by decide +kernel
theorem d_Mod_leads_170 : decode prog_14_method_53_code 170 = .ok (.goto (-116), 3) := by decide +kernel
theorem d_Mod_leads_173 : decode prog_14_method_53_code 173 = .ok (.iload_n 2, 1) := by decide +kernel
theorem d_Mod_leads_174 : decode prog_14_method_53_code 174 = .ok (.ireturn, 1) := by decide +kernel
theorem d_Mod_pictures_0 : decode prog_14_method_54_code 0 = .ok (.iload_n 1, 1) := by decide +kernel
theorem d_Mod_pictures_1 : decode prog_14_method_54_code 1 = .ok (.invokestatic 79, 3) := by decide +kernel
theorem d_Mod_pictures_4 : decode prog_14_method_54_code 4 = .ok (.ifCond .ne 9, 3) := by decide +kernel
theorem d_Mod_pictures_7 : decode prog_14_method_54_code 7 = .ok (.aload_n 0, 1) := by decide +kernel
theorem d_Mod_pictures_8 : decode prog_14_method_54_code 8 = .ok (.iconst (-1), 1) := by decide +kernel
theorem d_Mod_pictures_9 : decode prog_14_method_54_code 9 = .ok (.invokevirtual 29, 3) := by decide +kernel
theorem d_Mod_pictures_12 : decode prog_14_method_54_code 12 = .ok (.ireturn, 1) := by decide +kernel
theorem d_Mod_pictures_13 : decode prog_14_method_54_code 13 = .ok (.iconst 0, 1) := by decide +kernel
theorem d_Mod_pictures_14 : decode prog_14_method_54_code 14 = .ok (.istore_n 2, 1) := by decide +kernel
theorem d_Mod_pictures_15 : decode prog_14_method_54_code 15 = .ok (.iconst 0, 1) := by decide +kernel
theorem d_Mod_pictures_16 : decode prog_14_method_54_code 16 = .ok (.istore_n 3, 1) := by decide +kernel
theorem d_Mod_pictures_17 : decode prog_14_method_54_code 17 = .ok (.iload_n 3, 1) := by decide +kernel
theorem d_Mod_pictures_18 : decode prog_14_method_54_code 18 = .ok (.aload_n 0, 1) := by decide +kernel
theorem d_Mod_pictures_19 : decode prog_14_method_54_code 19 = .ok (.getfield 13, 3) := by decide +kernel
theorem d_Mod_pictures_22 : decode prog_14_method_54_code 22 = .ok (.iconst 0, 1) := by decide +kernel
theorem d_Mod_pictures_23 : decode prog_14_method_54_code 23 = .ok (.iaload, 1) := by decide +kernel
theorem d_Mod_pictures_24 : decode prog_14_method_54_code 24 = .ok (.if_icmp .ge 38, 3) := by decide +kernel
theorem d_Mod_pictures_27 : decode prog_14_method_54_code 27 = .ok (.iload_n 2, 1) := by decide +kernel
theorem d_Mod_pictures_28 : decode prog_14_method_54_code 28 = .ok (.aload_n 0, 1) := by decide +kernel
theorem d_Mod_pictures_29 : decode prog_14_method_54_code 29 = .ok (.iload_n 3, 1) := by decide +kernel
theorem d_Mod_pictures_30 : decode prog_14_method_54_code 30 = .ok (.bipush 7, 2) := by decide +kernel
theorem d_Mod_pictures_32 : decode prog_14_method_54_code 32 = .ok (.invokevirtual 70, 3) := by decide +kernel
theorem d_Mod_pictures_35 : decode prog_14_method_54_code 35 = .ok (.ifCond .eq 18, 3) := by decide +kernel
theorem d_Mod_pictures_38 : decode prog_14_method_54_code 38 = .ok (.aload_n 0, 1) := by decide +kernel
theorem d_Mod_pictures_39 : decode prog_14_method_54_code 39 = .ok (.iload_n 3, 1) := by decide +kernel
theorem d_Mod_pictures_40 : decode prog_14_method_54_code 40 = .ok (.invokevirtual 106, 3) := by decide +kernel
theorem d_Mod_pictures_43 : decode prog_14_method_54_code 43 = .ok (.iconst 1, 1) := by decide +kernel
theorem d_Mod_pictures_44 : decode prog_14_method_54_code 44 = .ok (.iload_n 1, 1) := by decide +kernel
theorem d_Mod_pictures_45 : decode prog_14_method_54_code 45 = .ok (.ishl, 1) := by decide +kernel
theorem d_Mod_pictures_46 : decode prog_14_method_54_code 46 = .ok (.if_icmp .ne 7, 3) := by decide +kernel
theorem d_Mod_pictures_49 : decode prog_14_method_54_code 49 = .ok (.iconst 1, 1) := by decide +kernel
theorem d_Mod_pictures_50 : decode prog_14_method_54_code 50 = .ok (.goto 4, 3) := by decide +kernel
theorem d_Mod_pictures_53 : decode prog_14_method_54_code 53 = .ok (.iconst 0, 1) := by decide +kernel
theorem d_Mod_pictures_54 : decode prog_14_method_54_code 54 = .ok (.iadd, 1) := by decide +kernel
theorem d_Mod_pictures_55 : decode prog_14_method_54_code 55 = .ok (.istore_n 2, 1) := by decide +kernel
theorem d_Mod_pictures_56 : decode prog_14_method_54_code 56 = .ok (.iinc 3 1, 3) := by decide +kernel
theorem d_Mod_pictures_59 : decode prog_14_method_54_code 59 = .ok (.goto (-42), 3) := by decide +kernel
theorem d_Mod_pictures_62 : decode prog_14_method_54_code 62 = .ok (.iload_n 2, 1) := by decide +kernel
theorem d_Mod_pictures_63 : decode prog_14_method_54_code 63 = .ok (.ireturn, 1) := by decide +kernel
theorem d_Mod_bench_0 : decode prog_14_method_55_code 0 = .ok (.iload_n 3, 1) := by decide +kernel
theorem d_Mod_bench_1 : decode prog_14_method_55_code 1 = .ok (.bipush 8, 2) := by decide +kernel
theorem d_Mod_bench_3 : decode prog_14_method_55_code 3 = .ok (.invokestatic 25, 3) := by decide +kernel
theorem d_Mod_bench_6 : decode prog_14_method_55_code 6 = .ok (.ifCond .eq 14, 3) := by decide +kernel
theorem d_Mod_bench_9 : decode prog_14_method_55_code 9 = .ok (.iload 4, 2) := by decide +kernel
theorem d_Mod_bench_11 : decode prog_14_method_55_code 11 = .ok (.sipush 256, 3) := by decide +kernel
theorem d_Mod_bench_14 : decode prog_14_method_55_code 14 = .ok (.invokestatic 25, 3) := by decide +kernel
theorem d_Mod_bench_17 : decode prog_14_method_55_code 17 = .ok (.ifCond .ne 7, 3) := by decide +kernel
theorem d_Mod_bench_20 : decode prog_14_method_55_code 20 = .ok (.iconst (-1), 1) := by decide +kernel
theorem d_Mod_bench_21 : decode prog_14_method_55_code 21 = .ok (.goto 36, 3) := by decide +kernel
theorem d_Mod_bench_24 : decode prog_14_method_55_code 24 = .ok (.iload_n 1, 1) := by decide +kernel
theorem d_Mod_bench_25 : decode prog_14_method_55_code 25 = .ok (.ifCond .lt 7, 3) := by decide +kernel
theorem d_Mod_bench_28 : decode prog_14_method_55_code 28 = .ok (.iload_n 2, 1) := by decide +kernel
theorem d_Mod_bench_29 : decode prog_14_method_55_code 29 = .ok (.ifCond .ge 8, 3) := by decide +kernel
theorem d_Mod_bench_32 : decode prog_14_method_55_code 32 = .ok (.bipush (-4), 2) := by decide +kernel
theorem d_Mod_bench_34 : decode prog_14_method_55_code 34 = .ok (.goto 23, 3) := by decide +kernel
theorem d_Mod_bench_37 : decode prog_14_method_55_code 37 = .ok (.iload_n 1, 1) := by decide +kernel
theorem d_Mod_bench_38 : decode prog_14_method_55_code 38 = .ok (.sipush 999, 3) := by decide +kernel
theorem d_Mod_bench_41 : decode prog_14_method_55_code 41 = .ok (.if_icmp .gt 10, 3) := by decide +kernel
theorem d_Mod_bench_44 : decode prog_14_method_55_code 44 = .ok (.iload_n 2, 1) := by decide +kernel
theorem d_Mod_bench_45 : decode prog_14_method_55_code 45 = .ok (.sipush 999, 3) := by decide +kernel
theorem d_Mod_bench_48 : decode prog_14_method_55_code 48 = .ok (.if_icmp .le 8, 3) := by decide +kernel
theorem d_Mod_bench_51 : decode prog_14_method_55_code 51 = .ok (.bipush (-6), 2) := by decide +kernel
theorem d_Mod_bench_53 : decode prog_14_method_55_code 53 = .ok (.goto 4, 3) := by decide +kernel
theorem d_Mod_bench_56 : decode prog_14_method_55_code 56 = .ok (.iconst 0, 1) := by decide +kernel
theorem d_Mod_bench_57 : decode prog_14_method_55_code 57 = .ok (.istore 5, 2) := by decide +kernel
theorem d_Mod_bench_59 : decode prog_14_method_55_code 59 = .ok (.iload 5, 2) := by decide +kernel
theorem d_Mod_bench_61 : decode prog_14_method_55_code 61 = .ok (.ifCond .eq 10, 3) := by decide +kernel
theorem d_Mod_bench_64 : decode prog_14_method_55_code 64 = .ok (.aload_n 0, 1) := by decide +kernel
theorem d_Mod_bench_65 : decode prog_14_method_55_code 65 = .ok (.iload 5, 2) := by decide +kernel
theorem d_Mod_bench_67 : decode prog_14_method_55_code 67 = .ok (.invokevirtual 29, 3) := by decide +kernel
theorem d_Mod_bench_70 : decode prog_14_method_55_code 70 = .ok (.ireturn, 1) := by decide +kernel
theorem d_Mod_bench_71 : decode prog_14_method_55_code 71 = .ok (.aload_n 0, 1) := by decide +kernel
theorem d_Mod_bench_72 : decode prog_14_method_55_code 72 = .ok (.getfield 13, 3) := by decide +kernel
theorem d_Mod_bench_75 : decode prog_14_method_55_code 75 = .ok (.sipush 264, 3) := by decide +kernel
theorem d_Mod_bench_78 : decode prog_14_method_55_code 78 = .ok (.iload_n 1, 1) := by decide +kernel
theorem d_Mod_bench_79 : decode prog_14_method_55_code 79 = .ok (.iastore, 1) := by decide +kernel
theorem d_Mod_bench_80 : decode prog_14_method_55_code 80 = .ok (.aload_n 0, 1) := by decide +kernel
theorem d_Mod_bench_81 : decode prog_14_method_55_code 81 = .ok (.getfield 13, 3) := by decide +kernel
theorem d_Mod_bench_84 : decode prog_14_method_55_code 84 = .ok (.sipush 265, 3) := by decide +kernel
theorem d_Mod_bench_87 : decode prog_14_method_55_code 87 = .ok (.iload_n 2, 1) := by decide +kernel
theorem d_Mod_bench_88 : decode prog_14_method_55_code 88 = .ok (.iastore, 1) := by decide +kernel
theorem d_Mod_bench_89 : decode prog_14_method_55_code 89 = .ok (.aload_n 0, 1) := by decide +kernel
theorem d_Mod_bench_90 : decode prog_14_method_55_code 90 = .ok (.getfield 13, 3) := by decide +kernel
theorem d_Mod_bench_93 : decode prog_14_method_55_code 93 = .ok (.sipush 266, 3) := by decide +kernel
theorem d_Mod_bench_96 : decode prog_14_method_55_code 96 = .ok (.iload_n 3, 1) := by decide +kernel
theorem d_Mod_bench_97 : decode prog_14_method_55_code 97 = .ok (.iastore, 1) := by decide +kernel
theorem d_Mod_bench_98 : decode prog_14_method_55_code 98 = .ok (.aload_n 0, 1) := by decide +kernel
theorem d_Mod_bench_99 : decode prog_14_method_55_code 99 = .ok (.getfield 13, 3) := by decide +kernel
theorem d_Mod_bench_102 : decode prog_14_method_55_code 102 = .ok (.sipush 267, 3) := by decide +kernel
theorem d_Mod_bench_105 : decode prog_14_method_55_code 105 = .ok (.iload 4, 2) := by decide +kernel
theorem d_Mod_bench_107 : decode prog_14_method_55_code 107 = .ok (.iastore, 1) := by decide +kernel
theorem d_Mod_bench_108 : decode prog_14_method_55_code 108 = .ok (.iconst 1, 1) := by decide +kernel
theorem d_Mod_bench_109 : decode prog_14_method_55_code 109 = .ok (.ireturn, 1) := by decide +kernel
theorem d_Mod_hasLine_0 : decode prog_14_method_56_code 0 = .ok (.iload_n 2, 1) := by decide +kernel
theorem d_Mod_hasLine_1 : decode prog_14_method_56_code 1 = .ok (.iconst 2, 1) := by decide +kernel
theorem d_Mod_hasLine_2 : decode prog_14_method_56_code 2 = .ok (.if_icmp .le 38, 3) := by decide +kernel
theorem d_Mod_hasLine_5 : decode prog_14_method_56_code 5 = .ok (.aload_n 0, 1) := by decide +kernel
theorem d_Mod_hasLine_6 : decode prog_14_method_56_code 6 = .ok (.iload_n 1, 1) := by decide +kernel
theorem d_Mod_hasLine_7 : decode prog_14_method_56_code 7 = .ok (.iload_n 2, 1) := by decide +kernel
theorem d_Mod_hasLine_8 : decode prog_14_method_56_code 8 = .ok (.iconst 3, 1) := by decide +kernel
theorem d_Mod_hasLine_9 : decode prog_14_method_56_code 9 = .ok (.isub, 1) := by decide +kernel
theorem d_Mod_hasLine_10 : decode prog_14_method_56_code 10 = .ok (.invokevirtual 70, 3) := by decide +kernel
theorem d_Mod_hasLine_13 : decode prog_14_method_56_code 13 = .ok (.ifCond .eq 21, 3) := by decide +kernel
theorem d_Mod_hasLine_16 : decode prog_14_method_56_code 16 = .ok (.aload_n 0, 1) := by decide +kernel
theorem d_Mod_hasLine_17 : decode prog_14_method_56_code 17 = .ok (.getfield 13, 3) := by decide +kernel
theorem d_Mod_hasLine_20 : decode prog_14_method_56_code 20 = .ok (.sipush 267, 3) := by decide +kernel
theorem d_Mod_hasLine_23 : decode prog_14_method_56_code 23 = .ok (.iaload, 1) := by decide +kernel
theorem d_Mod_hasLine_24 : decode prog_14_method_56_code 24 = .ok (.iload_n 2, 1) := by decide +kernel
theorem d_Mod_hasLine_25 : decode prog_14_method_56_code 25 = .ok (.iconst 3, 1) := by decide +kernel
theorem d_Mod_hasLine_26 : decode prog_14_method_56_code 26 = .ok (.isub, 1) := by decide +kernel
theorem d_Mod_hasLine_27 : decode prog_14_method_56_code 27 = .ok (.ishr, 1) := by decide +kernel
theorem d_Mod_hasLine_28 : decode prog_14_method_56_code 28 = .ok (.iconst 1, 1) := by decide +kernel
theorem d_Mod_hasLine_29 : decode prog_14_method_56_code 29 = .ok (.iand, 1) := by decide +kernel
theorem d_Mod_hasLine_30 : decode prog_14_method_56_code 30 = .ok (.iconst 1, 1) := by decide +kernel
theorem d_Mod_hasLine_31 : decode prog_14_method_56_code 31 = .ok (.if_icmp .ne 7, 3) := by decide +kernel
theorem d_Mod_hasLine_34 : decode prog_14_method_56_code 34 = .ok (.iconst 1, 1) := by decide +kernel
theorem d_Mod_hasLine_35 : decode prog_14_method_56_code 35 = .ok (.goto 4, 3) := by decide +kernel
theorem d_Mod_hasLine_38 : decode prog_14_method_56_code 38 = .ok (.iconst 0, 1) := by decide +kernel
theorem d_Mod_hasLine_39 : decode prog_14_method_56_code 39 = .ok (.ireturn, 1) := by decide +kernel
theorem d_Mod_hasLine_40 : decode prog_14_method_56_code 40 = .ok (.aload_n 0, 1) := by decide +kernel
theorem d_Mod_hasLine_41 : decode prog_14_method_56_code 41 = .ok (.iload_n 1, 1) := by decide +kernel
theorem d_Mod_hasLine_42 : decode prog_14_method_56_code 42 = .ok (.iload_n 2, 1) := by decide +kernel
theorem d_Mod_hasLine_43 : decode prog_14_method_56_code 43 = .ok (.invokevirtual 66, 3) := by decide +kernel
theorem d_Mod_hasLine_46 : decode prog_14_method_56_code 46 = .ok (.istore_n 3, 1) := by decide +kernel
theorem d_Mod_hasLine_47 : decode prog_14_method_56_code 47 = .ok (.iload_n 3, 1) := by decide +kernel
theorem d_Mod_hasLine_48 : decode prog_14_method_56_code 48 = .ok (.ifCond .lt 37, 3) := by decide +kernel
theorem d_Mod_hasLine_51 : decode prog_14_method_56_code 51 = .ok (.iload_n 2, 1) := by decide +kernel
theorem d_Mod_hasLine_52 : decode prog_14_method_56_code 52 = .ok (.iconst 2, 1) := by decide +kernel
theorem d_Mod_hasLine_53 : decode prog_14_method_56_code 53 = .ok (.if_icmp .ne 18, 3) := by decide +kernel
theorem d_Mod_hasLine_56 : decode prog_14_method_56_code 56 = .ok (.aload_n 0, 1) := by decide +kernel
theorem d_Mod_hasLine_57 : decode prog_14_method_56_code 57 = .ok (.getfield 13, 3) := by decide +kernel
theorem d_Mod_hasLine_60 : decode prog_14_method_56_code 60 = .ok (.sipush 266, 3) := by decide +kernel
theorem d_Mod_hasLine_63 : decode prog_14_method_56_code 63 = .ok (.iaload, 1) := by decide +kernel
theorem d_Mod_hasLine_64 : decode prog_14_method_56_code 64 = .ok (.iload_n 3, 1) := by decide +kernel
theorem d_Mod_hasLine_65 : decode prog_14_method_56_code 65 = .ok (.if_icmp .ne 24, 3) := by decide +kernel
theorem d_Mod_hasLine_68 : decode prog_14_method_56_code 68 = .ok (.goto 17, 3) := by decide +kernel
theorem d_Mod_hasLine_71 : decode prog_14_method_56_code 71 = .ok (.aload_n 0, 1) := by decide +kernel
theorem d_Mod_hasLine_72 : decode prog_14_method_56_code 72 = .ok (.getfield 13, 3) := by decide +kernel
theorem d_Mod_hasLine_75 : decode prog_14_method_56_code 75 = .ok (.sipush 264, 3) := by decide +kernel
theorem d_Mod_hasLine_78 : decode prog_14_method_56_code 78 = .ok (.iload_n 2, 1) := by decide +kernel
theorem d_Mod_hasLine_79 : decode prog_14_method_56_code 79 = .ok (.iadd, 1) := by decide +kernel
theorem d_Mod_hasLine_80 : decode prog_14_method_56_code 80 = .ok (.iaload, 1) := by decide +kernel
theorem d_Mod_hasLine_81 : decode prog_14_method_56_code 81 = .ok (.iload_n 3, 1) := by decide +kernel
theorem d_Mod_hasLine_82 : decode prog_14_method_56_code 82 = .ok (.if_icmp .lt 7, 3) := by decide +kernel
theorem d_Mod_hasLine_85 : decode prog_14_method_56_code 85 = .ok (.iconst 1, 1) := by decide +kernel
theorem d_Mod_hasLine_86 : decode prog_14_method_56_code 86 = .ok (.goto 4, 3) := by decide +kernel
theorem d_Mod_hasLine_89 : decode prog_14_method_56_code 89 = .ok (.iconst 0, 1) := by decide +kernel
theorem d_Mod_hasLine_90 : decode prog_14_method_56_code 90 = .ok (.ireturn, 1) := by decide +kernel
theorem d_Mod_lines_0 : decode prog_14_method_57_code 0 = .ok (.aload_n 0, 1) := by decide +kernel
theorem d_Mod_lines_1 : decode prog_14_method_57_code 1 = .ok (.iload_n 1, 1) := by decide +kernel
theorem d_Mod_lines_2 : decode prog_14_method_57_code 2 = .ok (.invokevirtual 63, 3) := by decide +kernel
theorem d_Mod_lines_5 : decode prog_14_method_57_code 5 = .ok (.ifCond .ne 9, 3) := by decide +kernel
theorem d_Mod_lines_8 : decode prog_14_method_57_code 8 = .ok (.aload_n 0, 1) := by decide +kernel
theorem d_Mod_lines_9 : decode prog_14_method_57_code 9 = .ok (.iconst (-1), 1) := by decide +kernel
theorem d_Mod_lines_10 : decode prog_14_method_57_code 10 = .ok (.invokevirtual 29, 3) := by decide +kernel
theorem d_Mod_lines_13 : decode prog_14_method_57_code 13 = .ok (.ireturn, 1) := by decide +kernel
theorem d_Mod_lines_14 : decode prog_14_method_57_code 14 = .ok (.iconst 0, 1) := by decide +kernel
theorem d_Mod_lines_15 : decode prog_14_method_57_code 15 = .ok (.istore_n 2, 1) := by decide +kernel
theorem d_Mod_lines_16 : decode prog_14_method_57_code 16 = .ok (.iconst 0, 1) := by decide +kernel
theorem d_Mod_lines_17 : decode prog_14_method_57_code 17 = .ok (.istore_n 3, 1) := by decide +kernel
theorem d_Mod_lines_18 : decode prog_14_method_57_code 18 = .ok (.iload_n 3, 1) := by decide +kernel
theorem d_Mod_lines_19 : decode prog_14_method_57_code 19 = .ok (.bipush 11, 2) := by decide +kernel
theorem d_Mod_lines_21 : decode prog_14_method_57_code 21 = .ok (.if_icmp .ge 26, 3) := by decide +kernel
theorem d_Mod_lines_24 : decode prog_14_method_57_code 24 = .ok (.iload_n 2, 1) := by decide +kernel
theorem d_Mod_lines_25 : decode prog_14_method_57_code 25 = .ok (.aload_n 0, 1) := by decide +kernel
theorem d_Mod_lines_26 : decode prog_14_method_57_code 26 = .ok (.iload_n 1, 1) := by decide +kernel
theorem d_Mod_lines_27 : decode prog_14_method_57_code 27 = .ok (.iload_n 3, 1) := by decide +kernel
theorem d_Mod_lines_28 : decode prog_14_method_57_code 28 = .ok (.invokevirtual 121, 3) := by decide +kernel
theorem d_Mod_lines_31 : decode prog_14_method_57_code 31 = .ok (.ifCond .eq 7, 3) := by decide +kernel
theorem d_Mod_lines_34 : decode prog_14_method_57_code 34 = .ok (.iconst 1, 1) := by decide +kernel
theorem d_Mod_lines_35 : decode prog_14_method_57_code 35 = .ok (.goto 4, 3) := by decide +kernel
theorem d_Mod_lines_38 : decode prog_14_method_57_code 38 = .ok (.iconst 0, 1) := by decide +kernel
theorem d_Mod_lines_39 : decode prog_14_method_57_code 39 = .ok (.iadd, 1) := by decide +kernel
theorem d_Mod_lines_40 : decode prog_14_method_57_code 40 = .ok (.istore_n 2, 1) := by decide +kernel
theorem d_Mod_lines_41 : decode prog_14_method_57_code 41 = .ok (.iinc 3 1, 3) := by decide +kernel
theorem d_Mod_lines_44 : decode prog_14_method_57_code 44 = .ok (.goto (-26), 3) := by decide +kernel
theorem d_Mod_lines_47 : decode prog_14_method_57_code 47 = .ok (.iload_n 2, 1) := by decide +kernel
theorem d_Mod_lines_48 : decode prog_14_method_57_code 48 = .ok (.ireturn, 1) := by decide +kernel
theorem d_Mod_misses_0 : decode prog_14_method_58_code 0 = .ok (.aload_n 0, 1) := by decide +kernel
theorem d_Mod_misses_1 : decode prog_14_method_58_code 1 = .ok (.iload_n 1, 1) := by decide +kernel
theorem d_Mod_misses_2 : decode prog_14_method_58_code 2 = .ok (.invokevirtual 63, 3) := by decide +kernel
theorem d_Mod_misses_5 : decode prog_14_method_58_code 5 = .ok (.ifCond .ne 9, 3) := by decide +kernel
theorem d_Mod_misses_8 : decode prog_14_method_58_code 8 = .ok (.aload_n 0, 1) := by decide +kernel
theorem d_Mod_misses_9 : decode prog_14_method_58_code 9 = .ok (.iconst (-1), 1) := by decide +kernel
theorem d_Mod_misses_10 : decode prog_14_method_58_code 10 = .ok (.invokevirtual 29, 3) := by decide +kernel
theorem d_Mod_misses_13 : decode prog_14_method_58_code 13 = .ok (.ireturn, 1) := by decide +kernel
theorem d_Mod_misses_14 : decode prog_14_method_58_code 14 = .ok (.iconst 0, 1) := by decide +kernel
theorem d_Mod_misses_15 : decode prog_14_method_58_code 15 = .ok (.istore_n 2, 1) := by decide +kernel
theorem d_Mod_misses_16 : decode prog_14_method_58_code 16 = .ok (.iload_n 2, 1) := by decide +kernel
theorem d_Mod_misses_17 : decode prog_14_method_58_code 17 = .ok (.bipush 11, 2) := by decide +kernel
theorem d_Mod_misses_19 : decode prog_14_method_58_code 19 = .ok (.if_icmp .ge 20, 3) := by decide +kernel
theorem d_Mod_misses_22 : decode prog_14_method_58_code 22 = .ok (.aload_n 0, 1) := by decide +kernel
theorem d_Mod_misses_23 : decode prog_14_method_58_code 23 = .ok (.iload_n 1, 1) := by decide +kernel
theorem d_Mod_misses_24 : decode prog_14_method_58_code 24 = .ok (.iload_n 2, 1) := by decide +kernel
theorem d_Mod_misses_25 : decode prog_14_method_58_code 25 = .ok (.invokevirtual 121, 3) := by decide +kernel
theorem d_Mod_misses_28 : decode prog_14_method_58_code 28 = .ok (.ifCond .ne 5, 3) := by decide +kernel
theorem d_Mod_misses_31 : decode prog_14_method_58_code 31 = .ok (.iload_n 2, 1) := by decide +kernel
theorem d_Mod_misses_32 : decode prog_14_method_58_code 32 = .ok (.ireturn, 1) := by decide +kernel
theorem d_Mod_misses_33 : decode prog_14_method_58_code 33 = .ok (.iinc 2 1, 3) := by decide +kernel
theorem d_Mod_misses_36 : decode prog_14_method_58_code 36 = .ok (.goto (-20), 3) := by decide +kernel
theorem d_Mod_misses_39 : decode prog_14_method_58_code 39 = .ok (.bipush (-9), 2) := by decide +kernel
theorem d_Mod_misses_41 : decode prog_14_method_58_code 41 = .ok (.ireturn, 1) := by decide +kernel
theorem d_Mod_barred_0 : decode prog_14_method_59_code 0 = .ok (.iload_n 1, 1) := by decide +kernel
theorem d_Mod_barred_1 : decode prog_14_method_59_code 1 = .ok (.sipush 256, 3) := by decide +kernel
theorem d_Mod_barred_4 : decode prog_14_method_59_code 4 = .ok (.invokestatic 25, 3) := by decide +kernel
theorem d_Mod_barred_7 : decode prog_14_method_59_code 7 = .ok (.ifCond .ne 9, 3) := by decide +kernel
theorem d_Mod_barred_10 : decode prog_14_method_59_code 10 = .ok (.aload_n 0, 1) := by decide +kernel
theorem d_Mod_barred_11 : decode prog_14_method_59_code 11 = .ok (.iconst (-1), 1) := by decide +kernel
theorem d_Mod_barred_12 : decode prog_14_method_59_code 12 = .ok (.invokevirtual 29, 3) := by decide +kernel
theorem d_Mod_barred_15 : decode prog_14_method_59_code 15 = .ok (.ireturn, 1) := by decide +kernel
theorem d_Mod_barred_16 : decode prog_14_method_59_code 16 = .ok (.iconst 0, 1) := by decide +kernel
theorem d_Mod_barred_17 : decode prog_14_method_59_code 17 = .ok (.istore_n 2, 1) := by decide +kernel
theorem d_Mod_barred_18 : decode prog_14_method_59_code 18 = .ok (.iconst 0, 1) := by decide +kernel
theorem d_Mod_barred_19 : decode prog_14_method_59_code 19 = .ok (.istore_n 3, 1) := by decide +kernel
theorem d_Mod_barred_20 : decode prog_14_method_59_code 20 = .ok (.iload_n 3, 1) := by decide +kernel
theorem d_Mod_barred_21 : decode prog_14_method_59_code 21 = .ok (.bipush 6, 2) := by decide +kernel
theorem d_Mod_barred_23 : decode prog_14_method_59_code 23 = .ok (.if_icmp .ge 41, 3) := by decide +kernel
theorem d_Mod_barred_26 : decode prog_14_method_59_code 26 = .ok (.iload_n 2, 1) := by decide +kernel
theorem d_Mod_barred_27 : decode prog_14_method_59_code 27 = .ok (.iload_n 1, 1) := by decide +kernel
theorem d_Mod_barred_28 : decode prog_14_method_59_code 28 = .ok (.aload_n 0, 1) := by decide +kernel
theorem d_Mod_barred_29 : decode prog_14_method_59_code 29 = .ok (.getfield 13, 3) := by decide +kernel
theorem d_Mod_barred_32 : decode prog_14_method_59_code 32 = .ok (.sipush 186, 3) := by decide +kernel
theorem d_Mod_barred_35 : decode prog_14_method_59_code 35 = .ok (.bipush 8, 2) := by decide +kernel
theorem d_Mod_barred_37 : decode prog_14_method_59_code 37 = .ok (.iload_n 3, 1) := by decide +kernel
theorem d_Mod_barred_38 : decode prog_14_method_59_code 38 = .ok (.imul, 1) := by decide +kernel
theorem d_Mod_barred_39 : decode prog_14_method_59_code 39 = .ok (.iadd, 1) := by decide +kernel
theorem d_Mod_barred_40 : decode prog_14_method_59_code 40 = .ok (.iconst 4, 1) := by decide +kernel
theorem d_Mod_barred_41 : decode prog_14_method_59_code 41 = .ok (.iadd, 1) := by decide +kernel
theorem d_Mod_barred_42 : decode prog_14_method_59_code 42 = .ok (.iaload, 1) := by decide +kernel
theorem d_Mod_barred_43 : decode prog_14_method_59_code 43 = .ok (.iconst (-1), 1) := by decide +kernel
theorem d_Mod_barred_44 : decode prog_14_method_59_code 44 = .ok (.ixor, 1) := by decide +kernel
theorem d_Mod_barred_45 : decode prog_14_method_59_code 45 = .ok (.iand, 1) := by decide +kernel
theorem d_Mod_barred_46 : decode prog_14_method_59_code 46 = .ok (.ifCond .eq 9, 3) := by decide +kernel
theorem d_Mod_barred_49 : decode prog_14_method_59_code 49 = .ok (.iconst 1, 1) := by decide +kernel
theorem d_Mod_barred_50 : decode prog_14_method_59_code 50 = .ok (.iload_n 3, 1) := by decide +kernel
theorem d_Mod_barred_51 : decode prog_14_method_59_code 51 = .ok (.ishl, 1) := by decide +kernel
theorem d_Mod_barred_52 : decode prog_14_method_59_code 52 = .ok (.goto 4, 3) := by decide +kernel
theorem d_Mod_barred_55 : decode prog_14_method_59_code 55 = .ok (.iconst 0, 1) := by decide +kernel
theorem d_Mod_barred_56 : decode prog_14_method_59_code 56 = .ok (.ior, 1) := by decide +kernel
theorem d_Mod_barred_57 : decode prog_14_method_59_code 57 = .ok (.istore_n 2, 1) := by decide +kernel
theorem d_Mod_barred_58 : decode prog_14_method_59_code 58 = .ok (.iinc 3 1, 3) := by decide +kernel
theorem d_Mod_barred_61 : decode prog_14_method_59_code 61 = .ok (.goto (-41), 3) := by decide +kernel
theorem d_Mod_barred_64 : decode prog_14_method_59_code 64 = .ok (.iload_n 2, 1) := by decide +kernel
theorem d_Mod_barred_65 : decode prog_14_method_59_code 65 = .ok (.ireturn, 1) := by decide +kernel
theorem d_Mod_glasses_0 : decode prog_14_method_60_code 0 = .ok (.iload_n 1, 1) := by decide +kernel
theorem d_Mod_glasses_1 : decode prog_14_method_60_code 1 = .ok (.invokestatic 79, 3) := by decide +kernel
theorem d_Mod_glasses_4 : decode prog_14_method_60_code 4 = .ok (.ifCond .eq 12, 3) := by decide +kernel
theorem d_Mod_glasses_7 : decode prog_14_method_60_code 7 = .ok (.iload_n 2, 1) := by decide +kernel
theorem d_Mod_glasses_8 : decode prog_14_method_60_code 8 = .ok (.iconst 1, 1) := by decide +kernel
theorem d_Mod_glasses_9 : decode prog_14_method_60_code 9 = .ok (.iconst 5, 1) := by decide +kernel
theorem d_Mod_glasses_10 : decode prog_14_method_60_code 10 = .ok (.invokestatic 82, 3) := by decide +kernel
theorem d_Mod_glasses_13 : decode prog_14_method_60_code 13 = .ok (.goto 4, 3) := by decide +kernel
theorem d_Mod_glasses_16 : decode prog_14_method_60_code 16 = .ok (.iconst (-1), 1) := by decide +kernel
theorem d_Mod_glasses_17 : decode prog_14_method_60_code 17 = .ok (.istore_n 3, 1) := by decide +kernel
theorem d_Mod_glasses_18 : decode prog_14_method_60_code 18 = .ok (.iload_n 3, 1) := by decide +kernel
theorem d_Mod_glasses_19 : decode prog_14_method_60_code 19 = .ok (.ifCond .eq 9, 3) := by decide +kernel
theorem d_Mod_glasses_22 : decode prog_14_method_60_code 22 = .ok (.aload_n 0, 1) := by decide +kernel
theorem d_Mod_glasses_23 : decode prog_14_method_60_code 23 = .ok (.iload_n 3, 1) := by decide +kernel
theorem d_Mod_glasses_24 : decode prog_14_method_60_code 24 = .ok (.invokevirtual 29, 3) := by decide +kernel
theorem d_Mod_glasses_27 : decode prog_14_method_60_code 27 = .ok (.ireturn, 1) := by decide +kernel
theorem d_Mod_glasses_28 : decode prog_14_method_60_code 28 = .ok (.aload_n 0, 1) := by decide +kernel
theorem d_Mod_glasses_29 : decode prog_14_method_60_code 29 = .ok (.getfield 13, 3) := by decide +kernel
theorem d_Mod_glasses_32 : decode prog_14_method_60_code 32 = .ok (.sipush 186, 3) := by decide +kernel
theorem d_Mod_glasses_35 : decode prog_14_method_60_code 35 = .ok (.bipush 8, 2) := by decide +kernel
theorem d_Mod_glasses_37 : decode prog_14_method_60_code 37 = .ok (.iload_n 1, 1) := by decide +kernel
theorem d_Mod_glasses_38 : decode prog_14_method_60_code 38 = .ok (.imul, 1) := by decide +kernel
theorem d_Mod_glasses_39 : decode prog_14_method_60_code 39 = .ok (.iadd, 1) := by decide +kernel
theorem d_Mod_glasses_40 : decode prog_14_method_60_code 40 = .ok (.bipush 7, 2) := by decide +kernel
theorem d_Mod_glasses_42 : decode prog_14_method_60_code 42 = .ok (.iadd, 1) := by decide +kernel
theorem d_Mod_glasses_43 : decode prog_14_method_60_code 43 = .ok (.iaload, 1) := by decide +kernel
theorem d_Mod_glasses_44 : decode prog_14_method_60_code 44 = .ok (.istore 4, 2) := by decide +kernel
theorem d_Mod_glasses_46 : decode prog_14_method_60_code 46 = .ok (.iload_n 2, 1) := by decide +kernel
theorem d_Mod_glasses_47 : decode prog_14_method_60_code 47 = .ok (.iload 4, 2) := by decide +kernel
theorem d_Mod_glasses_49 : decode prog_14_method_60_code 49 = .ok (.if_icmp .ge 7, 3) := by decide +kernel
theorem d_Mod_glasses_52 : decode prog_14_method_60_code 52 = .ok (.iload_n 2, 1) := by decide +kernel
theorem d_Mod_glasses_53 : decode prog_14_method_60_code 53 = .ok (.goto 5, 3) := by decide +kernel
theorem d_Mod_glasses_56 : decode prog_14_method_60_code 56 = .ok (.iload 4, 2) := by decide +kernel
theorem d_Mod_glasses_58 : decode prog_14_method_60_code 58 = .ok (.istore 5, 2) := by decide +kernel
theorem d_Mod_glasses_60 : decode prog_14_method_60_code 60 = .ok (.bipush (-9), 2) := by decide +kernel
theorem d_Mod_glasses_62 : decode prog_14_method_60_code 62 = .ok (.istore 6, 2) := by decide +kernel
theorem d_Mod_glasses_64 : decode prog_14_method_60_code 64 = .ok (.iconst 0, 1) := by decide +kernel
theorem d_Mod_glasses_65 : decode prog_14_method_60_code 65 = .ok (.istore 7, 2) := by decide +kernel
theorem d_Mod_glasses_67 : decode prog_14_method_60_code 67 = .ok (.iconst 0, 1) := by decide +kernel
theorem d_Mod_glasses_68 : decode prog_14_method_60_code 68 = .ok (.istore 8, 2) := by decide +kernel
theorem d_Mod_glasses_70 : decode prog_14_method_60_code 70 = .ok (.iload 8, 2) := by decide +kernel
theorem d_Mod_glasses_72 : decode prog_14_method_60_code 72 = .ok (.iconst 1, 1) := by decide +kernel
theorem d_Mod_glasses_73 : decode prog_14_method_60_code 73 = .ok (.iload 4, 2) := by decide +kernel
theorem d_Mod_glasses_75 : decode prog_14_method_60_code 75 = .ok (.ishl, 1) := by decide +kernel
theorem d_Mod_glasses_76 : decode prog_14_method_60_code 76 = .ok (.if_icmp .ge 88, 3) := by decide +kernel
theorem d_Mod_glasses_79 : decode prog_14_method_60_code 79 = .ok (.iload 8, 2) := by decide +kernel
theorem d_Mod_glasses_81 : decode prog_14_method_60_code 81 = .ok (.invokestatic 109, 3) := by decide +kernel
theorem d_Mod_glasses_84 : decode prog_14_method_60_code 84 = .ok (.iload 5, 2) := by decide +kernel
theorem d_Mod_glasses_86 : decode prog_14_method_60_code 86 = .ok (.if_icmp .eq 6, 3) := by decide +kernel
theorem d_Mod_glasses_89 : decode prog_14_method_60_code 89 = .ok (.goto 69, 3) := by decide +kernel
theorem d_Mod_glasses_92 : decode prog_14_method_60_code 92 = .ok (.iconst 0, 1) := by decide +kernel
theorem d_Mod_glasses_93 : decode prog_14_method_60_code 93 = .ok (.istore 9, 2) := by decide +kernel
theorem d_Mod_glasses_95 : decode prog_14_method_60_code 95 = .ok (.iconst 0, 1) := by decide +kernel
theorem d_Mod_glasses_96 : decode prog_14_method_60_code 96 = .ok (.istore 10, 2) := by decide +kernel
theorem d_Mod_glasses_98 : decode prog_14_method_60_code 98 = .ok (.iload 10, 2) := by decide +kernel
theorem d_Mod_glasses_100 : decode prog_14_method_60_code 100 = .ok (.iload 4, 2) := by decide +kernel
theorem d_Mod_glasses_102 : decode prog_14_method_60_code 102 = .ok (.if_icmp .ge 33, 3) := by decide +kernel
theorem d_Mod_glasses_105 : decode prog_14_method_60_code 105 = .ok (.iload 9, 2) := by decide +kernel
theorem d_Mod_glasses_107 : decode prog_14_method_60_code 107 = .ok (.iload 8, 2) := by decide +kernel
theorem d_Mod_glasses_109 : decode prog_14_method_60_code 109 = .ok (.iload 10, 2) := by decide +kernel
theorem d_Mod_glasses_111 : decode prog_14_method_60_code 111 = .ok (.ishr, 1) := by decide +kernel
theorem d_Mod_glasses_112 : decode prog_14_method_60_code 112 = .ok (.iconst 1, 1) := by decide +kernel
theorem d_Mod_glasses_113 : decode prog_14_method_60_code 113 = .ok (.iand, 1) := by decide +kernel
theorem d_Mod_glasses_114 : decode prog_14_method_60_code 114 = .ok (.aload_n 0, 1) := by decide +kernel
theorem d_Mod_glasses_115 : decode prog_14_method_60_code 115 = .ok (.getfield 13, 3) := by decide +kernel
theorem d_Mod_glasses_118 : decode prog_14_method_60_code 118 = .ok (.sipush 254, 3) := by decide +kernel
theorem d_Mod_glasses_121 : decode prog_14_method_60_code 121 = .ok (.iload 10, 2) := by decide +kernel
theorem d_Mod_glasses_123 : decode prog_14_method_60_code 123 = .ok (.iadd, 1) := by decide +kernel
theorem d_Mod_glasses_124 : decode prog_14_method_60_code 124 = .ok (.iaload, 1) := by decide +kernel
theorem d_Mod_glasses_125 : decode prog_14_method_60_code 125 = .ok (.imul, 1) := by decide +kernel
theorem d_Mod_glasses_126 : decode prog_14_method_60_code 126 = .ok (.iadd, 1) := by decide +kernel
theorem d_Mod_glasses_127 : decode prog_14_method_60_code 127 = .ok (.istore 9, 2) := by decide +kernel
theorem d_Mod_glasses_129 : decode prog_14_method_60_code 129 = .ok (.iinc 10 1, 3) := by decide +kernel
theorem d_Mod_glasses_132 : decode prog_14_method_60_code 132 = .ok (.goto (-34), 3) := by decide +kernel
theorem d_Mod_glasses_135 : decode prog_14_method_60_code 135 = .ok (.iload 6, 2) := by decide +kernel
theorem d_Mod_glasses_137 : decode prog_14_method_60_code 137 = .ok (.ifCond .lt 13, 3) := by decide +kernel
theorem d_Mod_glasses_140 : decode prog_14_method_60_code 140 = .ok (.iload 9, 2) := by decide +kernel
theorem d_Mod_glasses_142 : decode prog_14_method_60_code 142 = .ok (.iload 7, 2) := by decide +kernel
theorem d_Mod_glasses_144 : decode prog_14_method_60_code 144 = .ok (.if_icmp .gt 6, 3) := by decide +kernel
theorem d_Mod_glasses_147 : decode prog_14_method_60_code 147 = .ok (.goto 11, 3) := by decide +kernel
theorem d_Mod_glasses_150 : decode prog_14_method_60_code 150 = .ok (.iload 8, 2) := by decide +kernel
theorem d_Mod_glasses_152 : decode prog_14_method_60_code 152 = .ok (.istore 6, 2) := by decide +kernel
theorem d_Mod_glasses_154 : decode prog_14_method_60_code 154 = .ok (.iload 9, 2) := by decide +kernel
theorem d_Mod_glasses_156 : decode prog_14_method_60_code 156 = .ok (.istore 7, 2) := by decide +kernel
theorem d_Mod_glasses_158 : decode prog_14_method_60_code 158 = .ok (.iinc 8 1, 3) := by decide +kernel
theorem d_Mod_glasses_161 : decode prog_14_method_60_code 161 = .ok (.goto (-91), 3) := by decide +kernel
theorem d_Mod_glasses_164 : decode prog_14_method_60_code 164 = .ok (.iload 6, 2) := by decide +kernel
theorem d_Mod_glasses_166 : decode prog_14_method_60_code 166 = .ok (.ireturn, 1) := by decide +kernel
theorem d_Mod_image_0 : decode prog_14_method_61_code 0 = .ok (.iconst 0, 1) := by decide +kernel
theorem d_Mod_image_1 : decode prog_14_method_61_code 1 = .ok (.istore_n 1, 1) := by decide +kernel
theorem d_Mod_image_2 : decode prog_14_method_61_code 2 = .ok (.iload_n 1, 1) := by decide +kernel
theorem d_Mod_image_3 : decode prog_14_method_61_code 3 = .ok (.sipush 268, 3) := by decide +kernel
theorem d_Mod_image_6 : decode prog_14_method_61_code 6 = .ok (.if_icmp .ge 21, 3) := by decide +kernel
theorem d_Mod_image_9 : decode prog_14_method_61_code 9 = .ok (.aload_n 0, 1) := by decide +kernel
theorem d_Mod_image_10 : decode prog_14_method_61_code 10 = .ok (.getfield 16, 3) := by decide +kernel
theorem d_Mod_image_13 : decode prog_14_method_61_code 13 = .ok (.iload_n 1, 1) := by decide +kernel
theorem d_Mod_image_14 : decode prog_14_method_61_code 14 = .ok (.aload_n 0, 1) := by decide +kernel
theorem d_Mod_image_15 : decode prog_14_method_61_code 15 = .ok (.getfield 13, 3) := by decide +kernel
theorem d_Mod_image_18 : decode prog_14_method_61_code 18 = .ok (.iload_n 1, 1) := by decide +kernel
theorem d_Mod_image_19 : decode prog_14_method_61_code 19 = .ok (.iaload, 1) := by decide +kernel
theorem d_Mod_image_20 : decode prog_14_method_61_code 20 = .ok (.iastore, 1) := by decide +kernel
theorem d_Mod_image_21 : decode prog_14_method_61_code 21 = .ok (.iinc 1 1, 3) := by decide +kernel
theorem d_Mod_image_24 : decode prog_14_method_61_code 24 = .ok (.goto (-22), 3) := by decide +kernel
theorem d_Mod_image_27 : decode prog_14_method_61_code 27 = .ok (.aload_n 0, 1) := by decide +kernel
theorem d_Mod_image_28 : decode prog_14_method_61_code 28 = .ok (.iconst 1, 1) := by decide +kernel
theorem d_Mod_image_29 : decode prog_14_method_61_code 29 = .ok (.putfield 124, 3) := by decide +kernel
theorem d_Mod_image_32 : decode prog_14_method_61_code 32 = .ok (.aload_n 0, 1) := by decide +kernel
theorem d_Mod_image_33 : decode prog_14_method_61_code 33 = .ok (.getfield 13, 3) := by decide +kernel
theorem d_Mod_image_36 : decode prog_14_method_61_code 36 = .ok (.iconst 0, 1) := by decide +kernel
theorem d_Mod_image_37 : decode prog_14_method_61_code 37 = .ok (.iaload, 1) := by decide +kernel
theorem d_Mod_image_38 : decode prog_14_method_61_code 38 = .ok (.ireturn, 1) := by decide +kernel
theorem d_Mod_on_0 : decode prog_14_method_62_code 0 = .ok (.aload_n 0, 1) := by decide +kernel
theorem d_Mod_on_1 : decode prog_14_method_62_code 1 = .ok (.getfield 124, 3) := by decide +kernel
theorem d_Mod_on_4 : decode prog_14_method_62_code 4 = .ok (.ifCond .ne 10, 3) := by decide +kernel
theorem d_Mod_on_7 : decode prog_14_method_62_code 7 = .ok (.aload_n 0, 1) := by decide +kernel
theorem d_Mod_on_8 : decode prog_14_method_62_code 8 = .ok (.bipush (-3), 2) := by decide +kernel
theorem d_Mod_on_10 : decode prog_14_method_62_code 10 = .ok (.invokevirtual 29, 3) := by decide +kernel
theorem d_Mod_on_13 : decode prog_14_method_62_code 13 = .ok (.ireturn, 1) := by decide +kernel
theorem d_Mod_on_14 : decode prog_14_method_62_code 14 = .ok (.iconst 0, 1) := by decide +kernel
theorem d_Mod_on_15 : decode prog_14_method_62_code 15 = .ok (.istore_n 1, 1) := by decide +kernel
theorem d_Mod_on_16 : decode prog_14_method_62_code 16 = .ok (.iload_n 1, 1) := by decide +kernel
theorem d_Mod_on_17 : decode prog_14_method_62_code 17 = .ok (.sipush 268, 3) := by decide +kernel
theorem d_Mod_on_20 : decode prog_14_method_62_code 20 = .ok (.if_icmp .ge 21, 3) := by decide +kernel
theorem d_Mod_on_23 : decode prog_14_method_62_code 23 = .ok (.aload_n 0, 1) := by decide +kernel
theorem d_Mod_on_24 : decode prog_14_method_62_code 24 = .ok (.getfield 13, 3) := by decide +kernel
theorem d_Mod_on_27 : decode prog_14_method_62_code 27 = .ok (.iload_n 1, 1) := by decide +kernel
theorem d_Mod_on_28 : decode prog_14_method_62_code 28 = .ok (.aload_n 0, 1) := by decide +kernel
theorem d_Mod_on_29 : decode prog_14_method_62_code 29 = .ok (.getfield 16, 3) := by decide +kernel
theorem d_Mod_on_32 : decode prog_14_method_62_code 32 = .ok (.iload_n 1, 1) := by decide +kernel
theorem d_Mod_on_33 : decode prog_14_method_62_code 33 = .ok (.iaload, 1) := by decide +kernel
theorem d_Mod_on_34 : decode prog_14_method_62_code 34 = .ok (.iastore, 1) := by decide +kernel
theorem d_Mod_on_35 : decode prog_14_method_62_code 35 = .ok (.iinc 1 1, 3) := by decide +kernel
theorem d_Mod_on_38 : decode prog_14_method_62_code 38 = .ok (.goto (-22), 3) := by decide +kernel
theorem d_Mod_on_41 : decode prog_14_method_62_code 41 = .ok (.aload_n 0, 1) := by decide +kernel
theorem d_Mod_on_42 : decode prog_14_method_62_code 42 = .ok (.getfield 13, 3) := by decide +kernel
theorem d_Mod_on_45 : decode prog_14_method_62_code 45 = .ok (.iconst 0, 1) := by decide +kernel
theorem d_Mod_on_46 : decode prog_14_method_62_code 46 = .ok (.iaload, 1) := by decide +kernel
theorem d_Mod_on_47 : decode prog_14_method_62_code 47 = .ok (.ireturn, 1) := by decide +kernel
theorem d_Mod_count_0 : decode prog_14_method_63_code 0 = .ok (.iload_n 1, 1) := by decide +kernel
theorem d_Mod_count_1 : decode prog_14_method_63_code 1 = .ok (.bipush 10, 2) := by decide +kernel
theorem d_Mod_count_3 : decode prog_14_method_63_code 3 = .ok (.if_icmp .le 19, 3) := by decide +kernel
theorem d_Mod_count_6 : decode prog_14_method_63_code 6 = .ok (.iload_n 1, 1) := by decide +kernel
theorem d_Mod_count_7 : decode prog_14_method_63_code 7 = .ok (.bipush 17, 2) := by decide +kernel
theorem d_Mod_count_9 : decode prog_14_method_63_code 9 = .ok (.if_icmp .ge 13, 3) := by decide +kernel
theorem d_Mod_count_12 : decode prog_14_method_63_code 12 = .ok (.aload_n 0, 1) := by decide +kernel
theorem d_Mod_count_13 : decode prog_14_method_63_code 13 = .ok (.getfield 7, 3) := by decide +kernel
theorem d_Mod_count_16 : decode prog_14_method_63_code 16 = .ok (.iload_n 1, 1) := by decide +kernel
theorem d_Mod_count_17 : decode prog_14_method_63_code 17 = .ok (.bipush 10, 2) := by decide +kernel
theorem d_Mod_count_19 : decode prog_14_method_63_code 19 = .ok (.isub, 1) := by decide +kernel
theorem d_Mod_count_20 : decode prog_14_method_63_code 20 = .ok (.iaload, 1) := by decide +kernel
theorem d_Mod_count_21 : decode prog_14_method_63_code 21 = .ok (.ireturn, 1) := by decide +kernel
theorem d_Mod_count_22 : decode prog_14_method_63_code 22 = .ok (.iconst 0, 1) := by decide +kernel
theorem d_Mod_count_23 : decode prog_14_method_63_code 23 = .ok (.istore_n 2, 1) := by decide +kernel
theorem d_Mod_count_24 : decode prog_14_method_63_code 24 = .ok (.iload_n 1, 1) := by decide +kernel
theorem d_Mod_count_25 : decode prog_14_method_63_code 25 = .ok (.tableswitch 172 0 5 #[39, 46, 75, 82, 135, 167], 39) := by decide +kernel
theorem d_Mod_count_64 : decode prog_14_method_63_code 64 = .ok (.aload_n 0, 1) := by decide +kernel
theorem d_Mod_count_65 : decode prog_14_method_63_code 65 = .ok (.getfield 13, 3) := by decide +kernel
theorem d_Mod_count_68 : decode prog_14_method_63_code 68 = .ok (.iconst 0, 1) := by decide +kernel
theorem d_Mod_count_69 : decode prog_14_method_63_code 69 = .ok (.iaload, 1) := by decide +kernel
theorem d_Mod_count_70 : decode prog_14_method_63_code 70 = .ok (.ireturn, 1) := by decide +kernel
theorem d_Mod_count_71 : decode prog_14_method_63_code 71 = .ok (.iconst 0, 1) := by decide +kernel
theorem d_Mod_count_72 : decode prog_14_method_63_code 72 = .ok (.istore_n 3, 1) := by decide +kernel
theorem d_Mod_count_73 : decode prog_14_method_63_code 73 = .ok (.iload_n 3, 1) := by decide +kernel
theorem d_Mod_count_74 : decode prog_14_method_63_code 74 = .ok (.aload_n 0, 1) := by decide +kernel
theorem d_Mod_count_75 : decode prog_14_method_63_code 75 = .ok (.getfield 13, 3) := by decide +kernel
theorem d_Mod_count_78 : decode prog_14_method_63_code 78 = .ok (.iconst 0, 1) := by decide +kernel
theorem d_Mod_count_79 : decode prog_14_method_63_code 79 = .ok (.iaload, 1) := by decide +kernel
theorem d_Mod_count_80 : decode prog_14_method_63_code 80 = .ok (.if_icmp .ge 18, 3) := by decide +kernel
theorem d_Mod_count_83 : decode prog_14_method_63_code 83 = .ok (.iload_n 2, 1) := by decide +kernel
theorem d_Mod_count_84 : decode prog_14_method_63_code 84 = .ok (.aload_n 0, 1) := by decide +kernel
theorem d_Mod_count_85 : decode prog_14_method_63_code 85 = .ok (.iload_n 3, 1) := by decide +kernel
theorem d_Mod_count_86 : decode prog_14_method_63_code 86 = .ok (.iconst 5, 1) := by decide +kernel
theorem d_Mod_count_87 : decode prog_14_method_63_code 87 = .ok (.invokevirtual 66, 3) := by decide +kernel
theorem d_Mod_count_90 : decode prog_14_method_63_code 90 = .ok (.iadd, 1) := by decide +kernel
theorem d_Mod_count_91 : decode prog_14_method_63_code 91 = .ok (.istore_n 2, 1) := by decide +kernel
theorem d_Mod_count_92 : decode prog_14_method_63_code 92 = .ok (.iinc 3 1, 3) := by decide +kernel
theorem d_Mod_count_95 : decode prog_14_method_63_code 95 = .ok (.goto (-22), 3) := by decide +kernel
theorem d_Mod_count_98 : decode prog_14_method_63_code 98 = .ok (.iload_n 2, 1) := by decide +kernel
theorem d_Mod_count_99 : decode prog_14_method_63_code 99 = .ok (.ireturn, 1) := by decide +kernel
theorem d_Mod_count_100 : decode prog_14_method_63_code 100 = .ok (.aload_n 0, 1) := by decide +kernel
theorem d_Mod_count_101 : decode prog_14_method_63_code 101 = .ok (.getfield 13, 3) := by decide +kernel
theorem d_Mod_count_104 : decode prog_14_method_63_code 104 = .ok (.iconst 1, 1) := by decide +kernel
theorem d_Mod_count_105 : decode prog_14_method_63_code 105 = .ok (.iaload, 1) := by decide +kernel
theorem d_Mod_count_106 : decode prog_14_method_63_code 106 = .ok (.ireturn, 1) := by decide +kernel
theorem d_Mod_count_107 : decode prog_14_method_63_code 107 = .ok (.iconst 0, 1) := by decide +kernel
theorem d_Mod_count_108 : decode prog_14_method_63_code 108 = .ok (.istore_n 3, 1) := by decide +kernel
theorem d_Mod_count_109 : decode prog_14_method_63_code 109 = .ok (.iload_n 3, 1) := by decide +kernel
theorem d_Mod_count_110 : decode prog_14_method_63_code 110 = .ok (.aload_n 0, 1) := by decide +kernel
theorem d_Mod_count_111 : decode prog_14_method_63_code 111 = .ok (.getfield 13, 3) := by decide +kernel
theorem d_Mod_count_114 : decode prog_14_method_63_code 114 = .ok (.iconst 0, 1) := by decide +kernel
theorem d_Mod_count_115 : decode prog_14_method_63_code 115 = .ok (.iaload, 1) := by decide +kernel
theorem d_Mod_count_116 : decode prog_14_method_63_code 116 = .ok (.if_icmp .ge 42, 3) := by decide +kernel
theorem d_Mod_count_119 : decode prog_14_method_63_code 119 = .ok (.iconst 0, 1) := by decide +kernel
theorem d_Mod_count_120 : decode prog_14_method_63_code 120 = .ok (.istore 4, 2) := by decide +kernel
theorem d_Mod_count_122 : decode prog_14_method_63_code 122 = .ok (.iload 4, 2) := by decide +kernel
theorem d_Mod_count_124 : decode prog_14_method_63_code 124 = .ok (.iconst 3, 1) := by decide +kernel
theorem d_Mod_count_125 : decode prog_14_method_63_code 125 = .ok (.if_icmp .ge 27, 3) := by decide +kernel
theorem d_Mod_count_128 : decode prog_14_method_63_code 128 = .ok (.iload_n 2, 1) := by decide +kernel
theorem d_Mod_count_129 : decode prog_14_method_63_code 129 = .ok (.aload_n 0, 1) := by decide +kernel
theorem d_Mod_count_130 : decode prog_14_method_63_code 130 = .ok (.iload_n 3, 1) := by decide +kernel
theorem d_Mod_count_131 : decode prog_14_method_63_code 131 = .ok (.iload 4, 2) := by decide +kernel
theorem d_Mod_count_133 : decode prog_14_method_63_code 133 = .ok (.invokevirtual 66, 3) := by decide +kernel
theorem d_Mod_count_136 : decode prog_14_method_63_code 136 = .ok (.ifCond .ge 7, 3) := by decide +kernel
theorem d_Mod_count_139 : decode prog_14_method_63_code 139 = .ok (.iconst 1, 1) := by decide +kernel
theorem d_Mod_count_140 : decode prog_14_method_63_code 140 = .ok (.goto 4, 3) := by decide +kernel
theorem d_Mod_count_143 : decode prog_14_method_63_code 143 = .ok (.iconst 0, 1) := by decide +kernel
theorem d_Mod_count_144 : decode prog_14_method_63_code 144 = .ok (.iadd, 1) := by decide +kernel
theorem d_Mod_count_145 : decode prog_14_method_63_code 145 = .ok (.istore_n 2, 1) := by decide +kernel
theorem d_Mod_count_146 : decode prog_14_method_63_code 146 = .ok (.iinc 4 1, 3) := by decide +kernel
theorem d_Mod_count_149 : decode prog_14_method_63_code 149 = .ok (.goto (-27), 3) := by decide +kernel
theorem d_Mod_count_152 : decode prog_14_method_63_code 152 = .ok (.iinc 3 1, 3) := by decide +kernel
theorem d_Mod_count_155 : decode prog_14_method_63_code 155 = .ok (.goto (-46), 3) := by decide +kernel
theorem d_Mod_count_158 : decode prog_14_method_63_code 158 = .ok (.iload_n 2, 1) := by decide +kernel
theorem d_Mod_count_159 : decode prog_14_method_63_code 159 = .ok (.ireturn, 1) := by decide +kernel
theorem d_Mod_count_160 : decode prog_14_method_63_code 160 = .ok (.iconst 0, 1) := by decide +kernel
theorem d_Mod_count_161 : decode prog_14_method_63_code 161 = .ok (.istore_n 3, 1) := by decide +kernel
theorem d_Mod_count_162 : decode prog_14_method_63_code 162 = .ok (.iload_n 3, 1) := by decide +kernel
theorem d_Mod_count_163 : decode prog_14_method_63_code 163 = .ok (.aload_n 0, 1) := by decide +kernel
theorem d_Mod_count_164 : decode prog_14_method_63_code 164 = .ok (.getfield 13, 3) := by decide +kernel
theorem d_Mod_count_167 : decode prog_14_method_63_code 167 = .ok (.iconst 0, 1) := by decide +kernel
theorem d_Mod_count_168 : decode prog_14_method_63_code 168 = .ok (.iaload, 1) := by decide +kernel
theorem d_Mod_count_169 : decode prog_14_method_63_code 169 = .ok (.if_icmp .ge 21, 3) := by decide +kernel
theorem d_Mod_count_172 : decode prog_14_method_63_code 172 = .ok (.iload_n 2, 1) := by decide +kernel
theorem d_Mod_count_173 : decode prog_14_method_63_code 173 = .ok (.aload_n 0, 1) := by decide +kernel
theorem d_Mod_count_174 : decode prog_14_method_63_code 174 = .ok (.iload_n 3, 1) := by decide +kernel
theorem d_Mod_count_175 : decode prog_14_method_63_code 175 = .ok (.iconst 3, 1) := by decide +kernel
theorem d_Mod_count_176 : decode prog_14_method_63_code 176 = .ok (.invokevirtual 66, 3) := by decide +kernel
theorem d_Mod_count_179 : decode prog_14_method_63_code 179 = .ok (.invokestatic 109, 3) := by decide +kernel
theorem d_Mod_count_182 : decode prog_14_method_63_code 182 = .ok (.iadd, 1) := by decide +kernel
theorem d_Mod_count_183 : decode prog_14_method_63_code 183 = .ok (.istore_n 2, 1) := by decide +kernel
theorem d_Mod_count_184 : decode prog_14_method_63_code 184 = .ok (.iinc 3 1, 3) := by decide +kernel
theorem d_Mod_count_187 : decode prog_14_method_63_code 187 = .ok (.goto (-25), 3) := by decide +kernel
theorem d_Mod_count_190 : decode prog_14_method_63_code 190 = .ok (.iload_n 2, 1) := by decide +kernel
theorem d_Mod_count_191 : decode prog_14_method_63_code 191 = .ok (.ireturn, 1) := by decide +kernel
theorem d_Mod_count_192 : decode prog_14_method_63_code 192 = .ok (.aload_n 0, 1) := by decide +kernel
theorem d_Mod_count_193 : decode prog_14_method_63_code 193 = .ok (.getfield 33, 3) := by decide +kernel
theorem d_Mod_count_196 : decode prog_14_method_63_code 196 = .ok (.ireturn, 1) := by decide +kernel
theorem d_Mod_count_197 : decode prog_14_method_63_code 197 = .ok (.bipush (-9), 2) := by decide +kernel
theorem d_Mod_count_199 : decode prog_14_method_63_code 199 = .ok (.ireturn, 1) := by decide +kernel
