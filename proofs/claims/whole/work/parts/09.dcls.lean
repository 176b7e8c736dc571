theorem d_Ben_init_0 : decode prog_2_method_1_code 0 = .ok (.aload_n 0, 1) := by decide +kernel
theorem d_Ben_init_1 : decode prog_2_method_1_code 1 = .ok (.invokespecial 3, 3) := by decide +kernel
theorem d_Ben_init_4 : decode prog_2_method_1_code 4 = .ok (.return_, 1) := by decide +kernel
theorem d_Ben_tell_0 : decode prog_2_method_2_code 0 = .ok (.aload_n 0, 1) := by decide +kernel
theorem d_Ben_tell_1 : decode prog_2_method_2_code 1 = .ok (.iload_n 1, 1) := by decide +kernel
theorem d_Ben_tell_2 : decode prog_2_method_2_code 2 = .ok (.putfield 9, 3) := by decide +kernel
theorem d_Ben_tell_5 : decode prog_2_method_2_code 5 = .ok (.aload_n 0, 1) := by decide +kernel
theorem d_Ben_tell_6 : decode prog_2_method_2_code 6 = .ok (.iload_n 2, 1) := by decide +kernel
theorem d_Ben_tell_7 : decode prog_2_method_2_code 7 = .ok (.putfield 15, 3) := by decide +kernel
theorem d_Ben_tell_10 : decode prog_2_method_2_code 10 = .ok (.aload_n 0, 1) := by decide +kernel
theorem d_Ben_tell_11 : decode prog_2_method_2_code 11 = .ok (.iload_n 3, 1) := by decide +kernel
theorem d_Ben_tell_12 : decode prog_2_method_2_code 12 = .ok (.putfield 18, 3) := by decide +kernel
theorem d_Ben_tell_15 : decode prog_2_method_2_code 15 = .ok (.aload_n 0, 1) := by decide +kernel
theorem d_Ben_tell_16 : decode prog_2_method_2_code 16 = .ok (.iload 4, 2) := by decide +kernel
theorem d_Ben_tell_18 : decode prog_2_method_2_code 18 = .ok (.putfield 21, 3) := by decide +kernel
theorem d_Ben_tell_21 : decode prog_2_method_2_code 21 = .ok (.return_, 1) := by decide +kernel
theorem d_Ben_linesLacking_0 : decode prog_2_method_3_code 0 = .ok (.aload_n 1, 1) := by decide +kernel
theorem d_Ben_linesLacking_1 : decode prog_2_method_3_code 1 = .ok (.getfield 24, 3) := by decide +kernel
theorem d_Ben_linesLacking_4 : decode prog_2_method_3_code 4 = .ok (.aload_n 0, 1) := by decide +kernel
theorem d_Ben_linesLacking_5 : decode prog_2_method_3_code 5 = .ok (.getfield 21, 3) := by decide +kernel
theorem d_Ben_linesLacking_8 : decode prog_2_method_3_code 8 = .ok (.iconst (-1), 1) := by decide +kernel
theorem d_Ben_linesLacking_9 : decode prog_2_method_3_code 9 = .ok (.ixor, 1) := by decide +kernel
theorem d_Ben_linesLacking_10 : decode prog_2_method_3_code 10 = .ok (.iand, 1) := by decide +kernel
theorem d_Ben_linesLacking_11 : decode prog_2_method_3_code 11 = .ok (.iconst 3, 1) := by decide +kernel
theorem d_Ben_linesLacking_12 : decode prog_2_method_3_code 12 = .ok (.ishl, 1) := by decide +kernel
theorem d_Ben_linesLacking_13 : decode prog_2_method_3_code 13 = .ok (.istore_n 2, 1) := by decide +kernel
theorem d_Ben_linesLacking_14 : decode prog_2_method_3_code 14 = .ok (.iload_n 2, 1) := by decide +kernel
theorem d_Ben_linesLacking_15 : decode prog_2_method_3_code 15 = .ok (.aload_n 0, 1) := by decide +kernel
theorem d_Ben_linesLacking_16 : decode prog_2_method_3_code 16 = .ok (.getfield 9, 3) := by decide +kernel
theorem d_Ben_linesLacking_19 : decode prog_2_method_3_code 19 = .ok (.aload_n 1, 1) := by decide +kernel
theorem d_Ben_linesLacking_20 : decode prog_2_method_3_code 20 = .ok (.getfield 27, 3) := by decide +kernel
theorem d_Ben_linesLacking_23 : decode prog_2_method_3_code 23 = .ok (.if_icmp .ge 7, 3) := by decide +kernel
theorem d_Ben_linesLacking_26 : decode prog_2_method_3_code 26 = .ok (.iconst 1, 1) := by decide +kernel
theorem d_Ben_linesLacking_27 : decode prog_2_method_3_code 27 = .ok (.goto 4, 3) := by decide +kernel
theorem d_Ben_linesLacking_30 : decode prog_2_method_3_code 30 = .ok (.iconst 0, 1) := by decide +kernel
theorem d_Ben_linesLacking_31 : decode prog_2_method_3_code 31 = .ok (.ior, 1) := by decide +kernel
theorem d_Ben_linesLacking_32 : decode prog_2_method_3_code 32 = .ok (.istore_n 2, 1) := by decide +kernel
theorem d_Ben_linesLacking_33 : decode prog_2_method_3_code 33 = .ok (.iload_n 2, 1) := by decide +kernel
theorem d_Ben_linesLacking_34 : decode prog_2_method_3_code 34 = .ok (.aload_n 0, 1) := by decide +kernel
theorem d_Ben_linesLacking_35 : decode prog_2_method_3_code 35 = .ok (.getfield 15, 3) := by decide +kernel
theorem d_Ben_linesLacking_38 : decode prog_2_method_3_code 38 = .ok (.aload_n 1, 1) := by decide +kernel
theorem d_Ben_linesLacking_39 : decode prog_2_method_3_code 39 = .ok (.getfield 28, 3) := by decide +kernel
theorem d_Ben_linesLacking_42 : decode prog_2_method_3_code 42 = .ok (.if_icmp .ge 7, 3) := by decide +kernel
theorem d_Ben_linesLacking_45 : decode prog_2_method_3_code 45 = .ok (.iconst 2, 1) := by decide +kernel
theorem d_Ben_linesLacking_46 : decode prog_2_method_3_code 46 = .ok (.goto 4, 3) := by decide +kernel
theorem d_Ben_linesLacking_49 : decode prog_2_method_3_code 49 = .ok (.iconst 0, 1) := by decide +kernel
theorem d_Ben_linesLacking_50 : decode prog_2_method_3_code 50 = .ok (.ior, 1) := by decide +kernel
theorem d_Ben_linesLacking_51 : decode prog_2_method_3_code 51 = .ok (.istore_n 2, 1) := by decide +kernel
theorem d_Ben_linesLacking_52 : decode prog_2_method_3_code 52 = .ok (.iload_n 2, 1) := by decide +kernel
theorem d_Ben_linesLacking_53 : decode prog_2_method_3_code 53 = .ok (.aload_n 1, 1) := by decide +kernel
theorem d_Ben_linesLacking_54 : decode prog_2_method_3_code 54 = .ok (.getfield 29, 3) := by decide +kernel
theorem d_Ben_linesLacking_57 : decode prog_2_method_3_code 57 = .ok (.bipush (-9), 2) := by decide +kernel
theorem d_Ben_linesLacking_59 : decode prog_2_method_3_code 59 = .ok (.if_icmp .eq 18, 3) := by decide +kernel
theorem d_Ben_linesLacking_62 : decode prog_2_method_3_code 62 = .ok (.aload_n 1, 1) := by decide +kernel
theorem d_Ben_linesLacking_63 : decode prog_2_method_3_code 63 = .ok (.getfield 29, 3) := by decide +kernel
theorem d_Ben_linesLacking_66 : decode prog_2_method_3_code 66 = .ok (.aload_n 0, 1) := by decide +kernel
theorem d_Ben_linesLacking_67 : decode prog_2_method_3_code 67 = .ok (.getfield 18, 3) := by decide +kernel
theorem d_Ben_linesLacking_70 : decode prog_2_method_3_code 70 = .ok (.if_icmp .eq 7, 3) := by decide +kernel
theorem d_Ben_linesLacking_73 : decode prog_2_method_3_code 73 = .ok (.iconst 4, 1) := by decide +kernel
theorem d_Ben_linesLacking_74 : decode prog_2_method_3_code 74 = .ok (.goto 4, 3) := by decide +kernel
theorem d_Ben_linesLacking_77 : decode prog_2_method_3_code 77 = .ok (.iconst 0, 1) := by decide +kernel
theorem d_Ben_linesLacking_78 : decode prog_2_method_3_code 78 = .ok (.ior, 1) := by decide +kernel
theorem d_Ben_linesLacking_79 : decode prog_2_method_3_code 79 = .ok (.istore_n 2, 1) := by decide +kernel
theorem d_Ben_linesLacking_80 : decode prog_2_method_3_code 80 = .ok (.iload_n 2, 1) := by decide +kernel
theorem d_Ben_linesLacking_81 : decode prog_2_method_3_code 81 = .ok (.ireturn, 1) := by decide +kernel
theorem d_Cal_init_0 : decode prog_3_method_1_code 0 = .ok (.aload_n 0, 1) := by decide +kernel
theorem d_Cal_init_1 : decode prog_3_method_1_code 1 = .ok (.aload_n 1, 1) := by decide +kernel
theorem d_Cal_init_2 : decode prog_3_method_1_code 2 = .ok (.invokespecial 1, 3) := by decide +kernel
theorem d_Cal_init_5 : decode prog_3_method_1_code 5 = .ok (.return_, 1) := by decide +kernel
theorem d_Cal_kindNumber_0 : decode prog_3_method_2_code 0 = .ok (.iconst 5, 1) := by decide +kernel
theorem d_Cal_kindNumber_1 : decode prog_3_method_2_code 1 = .ok (.ireturn, 1) := by decide +kernel
theorem d_Cal_ownWeight_0 : decode prog_3_method_3_code 0 = .ok (.iconst 1, 1) := by decide +kernel
theorem d_Cal_ownWeight_1 : decode prog_3_method_3_code 1 = .ok (.ireturn, 1) := by decide +kernel
theorem d_Eye_init_0 : decode prog_4_method_1_code 0 = .ok (.aload_n 0, 1) := by decide +kernel
theorem d_Eye_init_1 : decode prog_4_method_1_code 1 = .ok (.aload_n 1, 1) := by decide +kernel
theorem d_Eye_init_2 : decode prog_4_method_1_code 2 = .ok (.invokespecial 1, 3) := by decide +kernel
theorem d_Eye_init_5 : decode prog_4_method_1_code 5 = .ok (.return_, 1) := by decide +kernel
theorem d_Eye_kindNumber_0 : decode prog_4_method_2_code 0 = .ok (.iconst 3, 1) := by decide +kernel
theorem d_Eye_kindNumber_1 : decode prog_4_method_2_code 1 = .ok (.ireturn, 1) := by decide +kernel
theorem d_Eye_ownWeight_0 : decode prog_4_method_3_code 0 = .ok (.iconst 5, 1) := by decide +kernel
theorem d_Eye_ownWeight_1 : decode prog_4_method_3_code 1 = .ok (.ireturn, 1) := by decide +kernel
theorem d_Gro_init_0 : decode prog_5_method_1_code 0 = .ok (.aload_n 0, 1) := by decide +kernel
theorem d_Gro_init_1 : decode prog_5_method_1_code 1 = .ok (.aload_n 1, 1) := by decide +kernel
theorem d_Gro_init_2 : decode prog_5_method_1_code 2 = .ok (.invokespecial 3, 3) := by decide +kernel
theorem d_Gro_init_5 : decode prog_5_method_1_code 5 = .ok (.return_, 1) := by decide +kernel
theorem d_Gro_kindNumber_0 : decode prog_5_method_2_code 0 = .ok (.iconst 4, 1) := by decide +kernel
theorem d_Gro_kindNumber_1 : decode prog_5_method_2_code 1 = .ok (.ireturn, 1) := by decide +kernel
theorem d_Gro_ownWeight_0 : decode prog_5_method_3_code 0 = .ok (.aload_n 0, 1) := by decide +kernel
theorem d_Gro_ownWeight_1 : decode prog_5_method_3_code 1 = .ok (.invokespecial 9, 3) := by decide +kernel
theorem d_Gro_ownWeight_4 : decode prog_5_method_3_code 4 = .ok (.aload_n 0, 1) := by decide +kernel
theorem d_Gro_ownWeight_5 : decode prog_5_method_3_code 5 = .ok (.getfield 13, 3) := by decide +kernel
theorem d_Gro_ownWeight_8 : decode prog_5_method_3_code 8 = .ok (.bipush 20, 2) := by decide +kernel
theorem d_Gro_ownWeight_10 : decode prog_5_method_3_code 10 = .ok (.idiv, 1) := by decide +kernel
theorem d_Gro_ownWeight_11 : decode prog_5_method_3_code 11 = .ok (.isub, 1) := by decide +kernel
theorem d_Gro_ownWeight_12 : decode prog_5_method_3_code 12 = .ok (.ireturn, 1) := by decide +kernel
theorem d_Law_init_0 : decode prog_6_method_1_code 0 = .ok (.aload_n 0, 1) := by decide +kernel
theorem d_Law_init_1 : decode prog_6_method_1_code 1 = .ok (.invokespecial 3, 3) := by decide +kernel
theorem d_Law_init_4 : decode prog_6_method_1_code 4 = .ok (.aload_n 0, 1) := by decide +kernel
theorem d_Law_init_5 : decode prog_6_method_1_code 5 = .ok (.bipush 7, 2) := by decide +kernel
theorem d_Law_init_7 : decode prog_6_method_1_code 7 = .ok (.newarray .int, 2) := by decide +kernel
theorem d_Law_init_9 : decode prog_6_method_1_code 9 = .ok (.putfield 9, 3) := by decide +kernel
theorem d_Law_init_12 : decode prog_6_method_1_code 12 = .ok (.aload_n 0, 1) := by decide +kernel
theorem d_Law_init_13 : decode prog_6_method_1_code 13 = .ok (.getfield 9, 3) := by decide +kernel
theorem d_Law_init_16 : decode prog_6_method_1_code 16 = .ok (.iconst 1, 1) := by decide +kernel
theorem d_Law_init_17 : decode prog_6_method_1_code 17 = .ok (.sipush 999, 3) := by decide +kernel
theorem d_Law_init_20 : decode prog_6_method_1_code 20 = .ok (.iastore, 1) := by decide +kernel
theorem d_Law_init_21 : decode prog_6_method_1_code 21 = .ok (.aload_n 0, 1) := by decide +kernel
theorem d_Law_init_22 : decode prog_6_method_1_code 22 = .ok (.getfield 9, 3) := by decide +kernel
theorem d_Law_init_25 : decode prog_6_method_1_code 25 = .ok (.iconst 3, 1) := by decide +kernel
theorem d_Law_init_26 : decode prog_6_method_1_code 26 = .ok (.sipush 999, 3) := by decide +kernel
theorem d_Law_init_29 : decode prog_6_method_1_code 29 = .ok (.iastore, 1) := by decide +kernel
theorem d_Law_init_30 : decode prog_6_method_1_code 30 = .ok (.aload_n 0, 1) := by decide +kernel
theorem d_Law_init_31 : decode prog_6_method_1_code 31 = .ok (.getfield 9, 3) := by decide +kernel
theorem d_Law_init_34 : decode prog_6_method_1_code 34 = .ok (.iconst 4, 1) := by decide +kernel
theorem d_Law_init_35 : decode prog_6_method_1_code 35 = .ok (.sipush 255, 3) := by decide +kernel
theorem d_Law_init_38 : decode prog_6_method_1_code 38 = .ok (.iastore, 1) := by decide +kernel
theorem d_Law_init_39 : decode prog_6_method_1_code 39 = .ok (.aload_n 0, 1) := by decide +kernel
theorem d_Law_init_40 : decode prog_6_method_1_code 40 = .ok (.bipush 10, 2) := by decide +kernel
theorem d_Law_init_42 : decode prog_6_method_1_code 42 = .ok (.putfield 15, 3) := by decide +kernel
theorem d_Law_init_45 : decode prog_6_method_1_code 45 = .ok (.return_, 1) := by decide +kernel
theorem d_Law_becomeLike_0 : decode prog_6_method_2_code 0 = .ok (.aload_n 1, 1) := by decide +kernel
theorem d_Law_becomeLike_1 : decode prog_6_method_2_code 1 = .ok (.getfield 9, 3) := by decide +kernel
theorem d_Law_becomeLike_4 : decode prog_6_method_2_code 4 = .ok (.aload_n 0, 1) := by decide +kernel
theorem d_Law_becomeLike_5 : decode prog_6_method_2_code 5 = .ok (.getfield 9, 3) := by decide +kernel
theorem d_Law_becomeLike_8 : decode prog_6_method_2_code 8 = .ok (.invokestatic 19, 3) := by decide +kernel
theorem d_Law_becomeLike_11 : decode prog_6_method_2_code 11 = .ok (.aload_n 0, 1) := by decide +kernel
theorem d_Law_becomeLike_12 : decode prog_6_method_2_code 12 = .ok (.aload_n 1, 1) := by decide +kernel
theorem d_Law_becomeLike_13 : decode prog_6_method_2_code 13 = .ok (.getfield 15, 3) := by decide +kernel
theorem d_Law_becomeLike_16 : decode prog_6_method_2_code 16 = .ok (.putfield 15, 3) := by decide +kernel
theorem d_Law_becomeLike_19 : decode prog_6_method_2_code 19 = .ok (.return_, 1) := by decide +kernel
theorem d_Law_brokenBy_0 : decode prog_6_method_3_code 0 = .ok (.iconst 0, 1) := by decide +kernel
theorem d_Law_brokenBy_1 : decode prog_6_method_3_code 1 = .ok (.istore 4, 2) := by decide +kernel
theorem d_Law_brokenBy_3 : decode prog_6_method_3_code 3 = .ok (.iload_n 2, 1) := by decide +kernel
theorem d_Law_brokenBy_4 : decode prog_6_method_3_code 4 = .ok (.bipush (-9), 2) := by decide +kernel
theorem d_Law_brokenBy_6 : decode prog_6_method_3_code 6 = .ok (.if_icmp .eq 43, 3) := by decide +kernel
theorem d_Law_brokenBy_9 : decode prog_6_method_3_code 9 = .ok (.iload 4, 2) := by decide +kernel
theorem d_Law_brokenBy_11 : decode prog_6_method_3_code 11 = .ok (.iload_n 2, 1) := by decide +kernel
theorem d_Law_brokenBy_12 : decode prog_6_method_3_code 12 = .ok (.aload_n 0, 1) := by decide +kernel
theorem d_Law_brokenBy_13 : decode prog_6_method_3_code 13 = .ok (.getfield 9, 3) := by decide +kernel
theorem d_Law_brokenBy_16 : decode prog_6_method_3_code 16 = .ok (.iconst 0, 1) := by decide +kernel
theorem d_Law_brokenBy_17 : decode prog_6_method_3_code 17 = .ok (.iaload, 1) := by decide +kernel
theorem d_Law_brokenBy_18 : decode prog_6_method_3_code 18 = .ok (.if_icmp .ge 7, 3) := by decide +kernel
theorem d_Law_brokenBy_21 : decode prog_6_method_3_code 21 = .ok (.iconst 1, 1) := by decide +kernel
theorem d_Law_brokenBy_22 : decode prog_6_method_3_code 22 = .ok (.goto 4, 3) := by decide +kernel
theorem d_Law_brokenBy_25 : decode prog_6_method_3_code 25 = .ok (.iconst 0, 1) := by decide +kernel
theorem d_Law_brokenBy_26 : decode prog_6_method_3_code 26 = .ok (.ior, 1) := by decide +kernel
theorem d_Law_brokenBy_27 : decode prog_6_method_3_code 27 = .ok (.istore 4, 2) := by decide +kernel
theorem d_Law_brokenBy_29 : decode prog_6_method_3_code 29 = .ok (.iload 4, 2) := by decide +kernel
theorem d_Law_brokenBy_31 : decode prog_6_method_3_code 31 = .ok (.iload_n 2, 1) := by decide +kernel
theorem d_Law_brokenBy_32 : decode prog_6_method_3_code 32 = .ok (.aload_n 0, 1) := by decide +kernel
theorem d_Law_brokenBy_33 : decode prog_6_method_3_code 33 = .ok (.getfield 9, 3) := by decide +kernel
theorem d_Law_brokenBy_36 : decode prog_6_method_3_code 36 = .ok (.iconst 1, 1) := by decide +kernel
theorem d_Law_brokenBy_37 : decode prog_6_method_3_code 37 = .ok (.iaload, 1) := by decide +kernel
theorem d_Law_brokenBy_38 : decode prog_6_method_3_code 38 = .ok (.if_icmp .le 7, 3) := by decide +kernel
theorem d_Law_brokenBy_41 : decode prog_6_method_3_code 41 = .ok (.iconst 2, 1) := by decide +kernel
theorem d_Law_brokenBy_42 : decode prog_6_method_3_code 42 = .ok (.goto 4, 3) := by decide +kernel
theorem d_Law_brokenBy_45 : decode prog_6_method_3_code 45 = .ok (.iconst 0, 1) := by decide +kernel
theorem d_Law_brokenBy_46 : decode prog_6_method_3_code 46 = .ok (.ior, 1) := by decide +kernel
theorem d_Law_brokenBy_47 : decode prog_6_method_3_code 47 = .ok (.istore 4, 2) := by decide +kernel
theorem d_Law_brokenBy_49 : decode prog_6_method_3_code 49 = .ok (.iload_n 3, 1) := by decide +kernel
theorem d_Law_brokenBy_50 : decode prog_6_method_3_code 50 = .ok (.bipush (-9), 2) := by decide +kernel
theorem d_Law_brokenBy_52 : decode prog_6_method_3_code 52 = .ok (.if_icmp .eq 44, 3) := by decide +kernel
theorem d_Law_brokenBy_55 : decode prog_6_method_3_code 55 = .ok (.iload 4, 2) := by decide +kernel
theorem d_Law_brokenBy_57 : decode prog_6_method_3_code 57 = .ok (.iload_n 3, 1) := by decide +kernel
theorem d_Law_brokenBy_58 : decode prog_6_method_3_code 58 = .ok (.aload_n 0, 1) := by decide +kernel
theorem d_Law_brokenBy_59 : decode prog_6_method_3_code 59 = .ok (.getfield 9, 3) := by decide +kernel
theorem d_Law_brokenBy_62 : decode prog_6_method_3_code 62 = .ok (.iconst 2, 1) := by decide +kernel
theorem d_Law_brokenBy_63 : decode prog_6_method_3_code 63 = .ok (.iaload, 1) := by decide +kernel
theorem d_Law_brokenBy_64 : decode prog_6_method_3_code 64 = .ok (.if_icmp .ge 7, 3) := by decide +kernel
theorem d_Law_brokenBy_67 : decode prog_6_method_3_code 67 = .ok (.iconst 4, 1) := by decide +kernel
theorem d_Law_brokenBy_68 : decode prog_6_method_3_code 68 = .ok (.goto 4, 3) := by decide +kernel
theorem d_Law_brokenBy_71 : decode prog_6_method_3_code 71 = .ok (.iconst 0, 1) := by decide +kernel
theorem d_Law_brokenBy_72 : decode prog_6_method_3_code 72 = .ok (.ior, 1) := by decide +kernel
theorem d_Law_brokenBy_73 : decode prog_6_method_3_code 73 = .ok (.istore 4, 2) := by decide +kernel
theorem d_Law_brokenBy_75 : decode prog_6_method_3_code 75 = .ok (.iload 4, 2) := by decide +kernel
theorem d_Law_brokenBy_77 : decode prog_6_method_3_code 77 = .ok (.iload_n 3, 1) := by decide +kernel
theorem d_Law_brokenBy_78 : decode prog_6_method_3_code 78 = .ok (.aload_n 0, 1) := by decide +kernel
theorem d_Law_brokenBy_79 : decode prog_6_method_3_code 79 = .ok (.getfield 9, 3) := by decide +kernel
theorem d_Law_brokenBy_82 : decode prog_6_method_3_code 82 = .ok (.iconst 3, 1) := by decide +kernel
theorem d_Law_brokenBy_83 : decode prog_6_method_3_code 83 = .ok (.iaload, 1) := by decide +kernel
theorem d_Law_brokenBy_84 : decode prog_6_method_3_code 84 = .ok (.if_icmp .le 8, 3) := by decide +kernel
theorem d_Law_brokenBy_87 : decode prog_6_method_3_code 87 = .ok (.bipush 8, 2) := by decide +kernel
theorem d_Law_brokenBy_89 : decode prog_6_method_3_code 89 = .ok (.goto 4, 3) := by decide +kernel
theorem d_Law_brokenBy_92 : decode prog_6_method_3_code 92 = .ok (.iconst 0, 1) := by decide +kernel
theorem d_Law_brokenBy_93 : decode prog_6_method_3_code 93 = .ok (.ior, 1) := by decide +kernel
theorem d_Law_brokenBy_94 : decode prog_6_method_3_code 94 = .ok (.istore 4, 2) := by decide +kernel
theorem d_Law_brokenBy_96 : decode prog_6_method_3_code 96 = .ok (.aload_n 1, 1) := by decide +kernel
theorem d_Law_brokenBy_97 : decode prog_6_method_3_code 97 = .ok (.getfield 23, 3) := by decide +kernel
theorem d_Law_brokenBy_100 : decode prog_6_method_3_code 100 = .ok (.bipush (-9), 2) := by decide +kernel
theorem d_Law_brokenBy_102 : decode prog_6_method_3_code 102 = .ok (.if_icmp .eq 26, 3) := by decide +kernel
theorem d_Law_brokenBy_105 : decode prog_6_method_3_code 105 = .ok (.aload_n 0, 1) := by decide +kernel
theorem d_Law_brokenBy_106 : decode prog_6_method_3_code 106 = .ok (.getfield 9, 3) := by decide +kernel
theorem d_Law_brokenBy_109 : decode prog_6_method_3_code 109 = .ok (.iconst 4, 1) := by decide +kernel
theorem d_Law_brokenBy_110 : decode prog_6_method_3_code 110 = .ok (.iaload, 1) := by decide +kernel
theorem d_Law_brokenBy_111 : decode prog_6_method_3_code 111 = .ok (.aload_n 1, 1) := by decide +kernel
theorem d_Law_brokenBy_112 : decode prog_6_method_3_code 112 = .ok (.getfield 23, 3) := by decide +kernel
theorem d_Law_brokenBy_115 : decode prog_6_method_3_code 115 = .ok (.invokestatic 28, 3) := by decide +kernel
theorem d_Law_brokenBy_118 : decode prog_6_method_3_code 118 = .ok (.ifCond .ne 10, 3) := by decide +kernel
theorem d_Law_brokenBy_121 : decode prog_6_method_3_code 121 = .ok (.iload 4, 2) := by decide +kernel
theorem d_Law_brokenBy_123 : decode prog_6_method_3_code 123 = .ok (.bipush 16, 2) := by decide +kernel
theorem d_Law_brokenBy_125 : decode prog_6_method_3_code 125 = .ok (.ior, 1) := by decide +kernel
theorem d_Law_brokenBy_126 : decode prog_6_method_3_code 126 = .ok (.istore 4, 2) := by decide +kernel
theorem d_Law_brokenBy_128 : decode prog_6_method_3_code 128 = .ok (.iload 4, 2) := by decide +kernel
theorem d_Law_brokenBy_130 : decode prog_6_method_3_code 130 = .ok (.aload_n 0, 1) := by decide +kernel
theorem d_Law_brokenBy_131 : decode prog_6_method_3_code 131 = .ok (.getfield 9, 3) := by decide +kernel
theorem d_Law_brokenBy_134 : decode prog_6_method_3_code 134 = .ok (.iconst 5, 1) := by decide +kernel
theorem d_Law_brokenBy_135 : decode prog_6_method_3_code 135 = .ok (.iaload, 1) := by decide +kernel
theorem d_Law_brokenBy_136 : decode prog_6_method_3_code 136 = .ok (.aload_n 1, 1) := by decide +kernel
theorem d_Law_brokenBy_137 : decode prog_6_method_3_code 137 = .ok (.getfield 32, 3) := by decide +kernel
theorem d_Law_brokenBy_140 : decode prog_6_method_3_code 140 = .ok (.iconst (-1), 1) := by decide +kernel
theorem d_Law_brokenBy_141 : decode prog_6_method_3_code 141 = .ok (.ixor, 1) := by decide +kernel
theorem d_Law_brokenBy_142 : decode prog_6_method_3_code 142 = .ok (.iand, 1) := by decide +kernel
theorem d_Law_brokenBy_143 : decode prog_6_method_3_code 143 = .ok (.ifCond .eq 8, 3) := by decide +kernel
theorem d_Law_brokenBy_146 : decode prog_6_method_3_code 146 = .ok (.bipush 32, 2) := by decide +kernel
theorem d_Law_brokenBy_148 : decode prog_6_method_3_code 148 = .ok (.goto 4, 3) := by decide +kernel
theorem d_Law_brokenBy_151 : decode prog_6_method_3_code 151 = .ok (.iconst 0, 1) := by decide +kernel
theorem d_Law_brokenBy_152 : decode prog_6_method_3_code 152 = .ok (.ior, 1) := by decide +kernel
theorem d_Law_brokenBy_153 : decode prog_6_method_3_code 153 = .ok (.istore 4, 2) := by decide +kernel
theorem d_Law_brokenBy_155 : decode prog_6_method_3_code 155 = .ok (.iload 4, 2) := by decide +kernel
theorem d_Law_brokenBy_157 : decode prog_6_method_3_code 157 = .ok (.aload_n 0, 1) := by decide +kernel
theorem d_Law_brokenBy_158 : decode prog_6_method_3_code 158 = .ok (.getfield 9, 3) := by decide +kernel
theorem d_Law_brokenBy_161 : decode prog_6_method_3_code 161 = .ok (.bipush 6, 2) := by decide +kernel
theorem d_Law_brokenBy_163 : decode prog_6_method_3_code 163 = .ok (.iaload, 1) := by decide +kernel
theorem d_Law_brokenBy_164 : decode prog_6_method_3_code 164 = .ok (.aload_n 1, 1) := by decide +kernel
theorem d_Law_brokenBy_165 : decode prog_6_method_3_code 165 = .ok (.getfield 32, 3) := by decide +kernel
theorem d_Law_brokenBy_168 : decode prog_6_method_3_code 168 = .ok (.iand, 1) := by decide +kernel
theorem d_Law_brokenBy_169 : decode prog_6_method_3_code 169 = .ok (.ifCond .eq 8, 3) := by decide +kernel
theorem d_Law_brokenBy_172 : decode prog_6_method_3_code 172 = .ok (.bipush 64, 2) := by decide +kernel
theorem d_Law_brokenBy_174 : decode prog_6_method_3_code 174 = .ok (.goto 4, 3) := by decide +kernel
theorem d_Law_brokenBy_177 : decode prog_6_method_3_code 177 = .ok (.iconst 0, 1) := by decide +kernel
theorem d_Law_brokenBy_178 : decode prog_6_method_3_code 178 = .ok (.ior, 1) := by decide +kernel
theorem d_Law_brokenBy_179 : decode prog_6_method_3_code 179 = .ok (.istore 4, 2) := by decide +kernel
theorem d_Law_brokenBy_181 : decode prog_6_method_3_code 181 = .ok (.iload 4, 2) := by decide +kernel
theorem d_Law_brokenBy_183 : decode prog_6_method_3_code 183 = .ok (.ireturn, 1) := by decide +kernel
theorem d_Nea_init_0 : decode prog_7_method_1_code 0 = .ok (.aload_n 0, 1) := by decide +kernel
theorem d_Nea_init_1 : decode prog_7_method_1_code 1 = .ok (.aload_n 1, 1) := by decide +kernel
theorem d_Nea_init_2 : decode prog_7_method_1_code 2 = .ok (.invokespecial 1, 3) := by decide +kernel
theorem d_Nea_init_5 : decode prog_7_method_1_code 5 = .ok (.return_, 1) := by decide +kernel
theorem d_Nea_kindNumber_0 : decode prog_7_method_2_code 0 = .ok (.iconst 1, 1) := by decide +kernel
theorem d_Nea_kindNumber_1 : decode prog_7_method_2_code 1 = .ok (.ireturn, 1) := by decide +kernel
theorem d_Nea_ownWeight_0 : decode prog_7_method_3_code 0 = .ok (.bipush 15, 2) := by decide +kernel
theorem d_Nea_ownWeight_2 : decode prog_7_method_3_code 2 = .ok (.ireturn, 1) := by decide +kernel
theorem d_Roo_init_0 : decode prog_8_method_1_code 0 = .ok (.aload_n 0, 1) := by decide +kernel
theorem d_Roo_init_1 : decode prog_8_method_1_code 1 = .ok (.invokespecial 3, 3) := by decide +kernel
theorem d_Roo_init_4 : decode prog_8_method_1_code 4 = .ok (.aload_n 0, 1) := by decide +kernel
theorem d_Roo_init_5 : decode prog_8_method_1_code 5 = .ok (.bipush 30, 2) := by decide +kernel
theorem d_Roo_init_7 : decode prog_8_method_1_code 7 = .ok (.anewarray 9, 3) := by decide +kernel
theorem d_Roo_init_10 : decode prog_8_method_1_code 10 = .ok (.putfield 11, 3) := by decide +kernel
theorem d_Roo_init_13 : decode prog_8_method_1_code 13 = .ok (.aload_n 0, 1) := by decide +kernel
theorem d_Roo_init_14 : decode prog_8_method_1_code 14 = .ok (.bipush 6, 2) := by decide +kernel
theorem d_Roo_init_16 : decode prog_8_method_1_code 16 = .ok (.anewarray 17, 3) := by decide +kernel
theorem d_Roo_init_19 : decode prog_8_method_1_code 19 = .ok (.putfield 19, 3) := by decide +kernel
theorem d_Roo_init_22 : decode prog_8_method_1_code 22 = .ok (.iconst 0, 1) := by decide +kernel
theorem d_Roo_init_23 : decode prog_8_method_1_code 23 = .ok (.istore_n 1, 1) := by decide +kernel
theorem d_Roo_init_24 : decode prog_8_method_1_code 24 = .ok (.iload_n 1, 1) := by decide +kernel
theorem d_Roo_init_25 : decode prog_8_method_1_code 25 = .ok (.aload_n 0, 1) := by decide +kernel
theorem d_Roo_init_26 : decode prog_8_method_1_code 26 = .ok (.getfield 19, 3) := by decide +kernel
theorem d_Roo_init_29 : decode prog_8_method_1_code 29 = .ok (.arraylength, 1) := by decide +kernel
theorem d_Roo_init_30 : decode prog_8_method_1_code 30 = .ok (.if_icmp .ge 22, 3) := by decide +kernel
theorem d_Roo_init_33 : decode prog_8_method_1_code 33 = .ok (.aload_n 0, 1) := by decide +kernel
theorem d_Roo_init_34 : decode prog_8_method_1_code 34 = .ok (.getfield 19, 3) := by decide +kernel
theorem d_Roo_init_37 : decode prog_8_method_1_code 37 = .ok (.iload_n 1, 1) := by decide +kernel
theorem d_Roo_init_38 : decode prog_8_method_1_code 38 = .ok (.new 17, 3) := by decide +kernel
theorem d_Roo_init_41 : decode prog_8_method_1_code 41 = .ok (.dup, 1) := by decide +kernel
theorem d_Roo_init_42 : decode prog_8_method_1_code 42 = .ok (.invokespecial 23, 3) := by decide +kernel
theorem d_Roo_init_45 : decode prog_8_method_1_code 45 = .ok (.aastore, 1) := by decide +kernel
theorem d_Roo_init_46 : decode prog_8_method_1_code 46 = .ok (.iinc 1 1, 3) := by decide +kernel
theorem d_Roo_init_49 : decode prog_8_method_1_code 49 = .ok (.goto (-25), 3) := by decide +kernel
theorem d_Roo_init_52 : decode prog_8_method_1_code 52 = .ok (.aload_n 0, 1) := by decide +kernel
theorem d_Roo_init_53 : decode prog_8_method_1_code 53 = .ok (.bipush 10, 2) := by decide +kernel
theorem d_Roo_init_55 : decode prog_8_method_1_code 55 = .ok (.anewarray 9, 3) := by decide +kernel
theorem d_Roo_init_58 : decode prog_8_method_1_code 58 = .ok (.putfield 24, 3) := by decide +kernel
theorem d_Roo_init_61 : decode prog_8_method_1_code 61 = .ok (.aload_n 0, 1) := by decide +kernel
theorem d_Roo_init_62 : decode prog_8_method_1_code 62 = .ok (.bipush 10, 2) := by decide +kernel
theorem d_Roo_init_64 : decode prog_8_method_1_code 64 = .ok (.anewarray 9, 3) := by decide +kernel
theorem d_Roo_init_67 : decode prog_8_method_1_code 67 = .ok (.putfield 27, 3) := by decide +kernel
theorem d_Roo_init_70 : decode prog_8_method_1_code 70 = .ok (.aload_n 0, 1) := by decide +kernel
theorem d_Roo_init_71 : decode prog_8_method_1_code 71 = .ok (.iconst 2, 1) := by decide +kernel
theorem d_Roo_init_72 : decode prog_8_method_1_code 72 = .ok (.newarray .int, 2) := by decide +kernel
theorem d_Roo_init_74 : decode prog_8_method_1_code 74 = .ok (.putfield 30, 3) := by decide +kernel
theorem d_Roo_init_77 : decode prog_8_method_1_code 77 = .ok (.aload_n 0, 1) := by decide +kernel
theorem d_Roo_init_78 : decode prog_8_method_1_code 78 = .ok (.bipush 10, 2) := by decide +kernel
theorem d_Roo_init_80 : decode prog_8_method_1_code 80 = .ok (.newarray .int, 2) := by decide +kernel
theorem d_Roo_init_82 : decode prog_8_method_1_code 82 = .ok (.putfield 34, 3) := by decide +kernel
theorem d_Roo_init_85 : decode prog_8_method_1_code 85 = .ok (.aload_n 0, 1) := by decide +kernel
theorem d_Roo_init_86 : decode prog_8_method_1_code 86 = .ok (.new 37, 3) := by decide +kernel
theorem d_Roo_init_89 : decode prog_8_method_1_code 89 = .ok (.dup, 1) := by decide +kernel
theorem d_Roo_init_90 : decode prog_8_method_1_code 90 = .ok (.invokespecial 39, 3) := by decide +kernel
theorem d_Roo_init_93 : decode prog_8_method_1_code 93 = .ok (.putfield 40, 3) := by decide +kernel
theorem d_Roo_init_96 : decode prog_8_method_1_code 96 = .ok (.return_, 1) := by decide +kernel
theorem d_Roo_becomeLike_0 : decode prog_8_method_2_code 0 = .ok (.aload_n 1, 1) := by decide +kernel
theorem d_Roo_becomeLike_1 : decode prog_8_method_2_code 1 = .ok (.getfield 11, 3) := by decide +kernel
theorem d_Roo_becomeLike_4 : decode prog_8_method_2_code 4 = .ok (.aload_n 0, 1) := by decide +kernel
theorem d_Roo_becomeLike_5 : decode prog_8_method_2_code 5 = .ok (.getfield 11, 3) := by decide +kernel
theorem d_Roo_becomeLike_8 : decode prog_8_method_2_code 8 = .ok (.invokestatic 44, 3) := by decide +kernel
theorem d_Roo_becomeLike_11 : decode prog_8_method_2_code 11 = .ok (.aload_n 1, 1) := by decide +kernel
theorem d_Roo_becomeLike_12 : decode prog_8_method_2_code 12 = .ok (.getfield 24, 3) := by decide +kernel
theorem d_Roo_becomeLike_15 : decode prog_8_method_2_code 15 = .ok (.aload_n 0, 1) := by decide +kernel
theorem d_Roo_becomeLike_16 : decode prog_8_method_2_code 16 = .ok (.getfield 24, 3) := by decide +kernel
theorem d_Roo_becomeLike_19 : decode prog_8_method_2_code 19 = .ok (.invokestatic 44, 3) := by decide +kernel
theorem d_Roo_becomeLike_22 : decode prog_8_method_2_code 22 = .ok (.aload_n 1, 1) := by decide +kernel
theorem d_Roo_becomeLike_23 : decode prog_8_method_2_code 23 = .ok (.getfield 27, 3) := by decide +kernel
theorem d_Roo_becomeLike_26 : decode prog_8_method_2_code 26 = .ok (.aload_n 0, 1) := by decide +kernel
theorem d_Roo_becomeLike_27 : decode prog_8_method_2_code 27 = .ok (.getfield 27, 3) := by decide +kernel
theorem d_Roo_becomeLike_30 : decode prog_8_method_2_code 30 = .ok (.invokestatic 44, 3) := by decide +kernel
theorem d_Roo_becomeLike_33 : decode prog_8_method_2_code 33 = .ok (.iconst 0, 1) := by decide +kernel
theorem d_Roo_becomeLike_34 : decode prog_8_method_2_code 34 = .ok (.istore_n 2, 1) := by decide +kernel
theorem d_Roo_becomeLike_35 : decode prog_8_method_2_code 35 = .ok (.iload_n 2, 1) := by decide +kernel
theorem d_Roo_becomeLike_36 : decode prog_8_method_2_code 36 = .ok (.bipush 6, 2) := by decide +kernel
theorem d_Roo_becomeLike_38 : decode prog_8_method_2_code 38 = .ok (.if_icmp .ge 37, 3) := by decide +kernel
theorem d_Roo_becomeLike_41 : decode prog_8_method_2_code 41 = .ok (.aload_n 0, 1) := by decide +kernel
theorem d_Roo_becomeLike_42 : decode prog_8_method_2_code 42 = .ok (.iload_n 2, 1) := by decide +kernel
theorem d_Roo_becomeLike_43 : decode prog_8_method_2_code 43 = .ok (.invokevirtual 48, 3) := by decide +kernel
theorem d_Roo_becomeLike_46 : decode prog_8_method_2_code 46 = .ok (.astore_n 3, 1) := by decide +kernel
theorem d_Roo_becomeLike_47 : decode prog_8_method_2_code 47 = .ok (.aload_n 1, 1) := by decide +kernel
theorem d_Roo_becomeLike_48 : decode prog_8_method_2_code 48 = .ok (.iload_n 2, 1) := by decide +kernel
theorem d_Roo_becomeLike_49 : decode prog_8_method_2_code 49 = .ok (.invokevirtual 48, 3) := by decide +kernel
theorem d_Roo_becomeLike_52 : decode prog_8_method_2_code 52 = .ok (.astore 4, 2) := by decide +kernel
theorem d_Roo_becomeLike_54 : decode prog_8_method_2_code 54 = .ok (.aload_n 3, 1) := by decide +kernel
theorem d_Roo_becomeLike_55 : decode prog_8_method_2_code 55 = .ok (.ifnull 14, 3) := by decide +kernel
theorem d_Roo_becomeLike_58 : decode prog_8_method_2_code 58 = .ok (.aload 4, 2) := by decide +kernel
theorem d_Roo_becomeLike_60 : decode prog_8_method_2_code 60 = .ok (.ifnull 9, 3) := by decide +kernel
theorem d_Roo_becomeLike_63 : decode prog_8_method_2_code 63 = .ok (.aload_n 3, 1) := by decide +kernel
theorem d_Roo_becomeLike_64 : decode prog_8_method_2_code 64 = .ok (.aload 4, 2) := by decide +kernel
theorem d_Roo_becomeLike_66 : decode prog_8_method_2_code 66 = .ok (.invokevirtual 52, 3) := by decide +kernel
theorem d_Roo_becomeLike_69 : decode prog_8_method_2_code 69 = .ok (.iinc 2 1, 3) := by decide +kernel
theorem d_Roo_becomeLike_72 : decode prog_8_method_2_code 72 = .ok (.goto (-37), 3) := by decide +kernel
theorem d_Roo_becomeLike_75 : decode prog_8_method_2_code 75 = .ok (.aload_n 1, 1) := by decide +kernel
theorem d_Roo_becomeLike_76 : decode prog_8_method_2_code 76 = .ok (.getfield 30, 3) := by decide +kernel
theorem d_Roo_becomeLike_79 : decode prog_8_method_2_code 79 = .ok (.aload_n 0, 1) := by decide +kernel
theorem d_Roo_becomeLike_80 : decode prog_8_method_2_code 80 = .ok (.getfield 30, 3) := by decide +kernel
theorem d_Roo_becomeLike_83 : decode prog_8_method_2_code 83 = .ok (.invokestatic 56, 3) := by decide +kernel
theorem d_Roo_becomeLike_86 : decode prog_8_method_2_code 86 = .ok (.aload_n 1, 1) := by decide +kernel
theorem d_Roo_becomeLike_87 : decode prog_8_method_2_code 87 = .ok (.getfield 34, 3) := by decide +kernel
theorem d_Roo_becomeLike_90 : decode prog_8_method_2_code 90 = .ok (.aload_n 0, 1) := by decide +kernel
theorem d_Roo_becomeLike_91 : decode prog_8_method_2_code 91 = .ok (.getfield 34, 3) := by decide +kernel
theorem d_Roo_becomeLike_94 : decode prog_8_method_2_code 94 = .ok (.invokestatic 56, 3) := by decide +kernel
theorem d_Roo_becomeLike_97 : decode prog_8_method_2_code 97 = .ok (.aload_n 1, 1) := by decide +kernel
theorem d_Roo_becomeLike_98 : decode prog_8_method_2_code 98 = .ok (.getfield 40, 3) := by decide +kernel
theorem d_Roo_becomeLike_101 : decode prog_8_method_2_code 101 = .ok (.astore_n 2, 1) := by decide +kernel
theorem d_Roo_becomeLike_102 : decode prog_8_method_2_code 102 = .ok (.aload_n 0, 1) := by decide +kernel
theorem d_Roo_becomeLike_103 : decode prog_8_method_2_code 103 = .ok (.getfield 40, 3) := by decide +kernel
theorem d_Roo_becomeLike_106 : decode prog_8_method_2_code 106 = .ok (.aload_n 2, 1) := by decide +kernel
theorem d_Roo_becomeLike_107 : decode prog_8_method_2_code 107 = .ok (.getfield 60, 3) := by decide +kernel
theorem d_Roo_becomeLike_110 : decode prog_8_method_2_code 110 = .ok (.aload_n 2, 1) := by decide +kernel
theorem d_Roo_becomeLike_111 : decode prog_8_method_2_code 111 = .ok (.getfield 64, 3) := by decide +kernel
theorem d_Roo_becomeLike_114 : decode prog_8_method_2_code 114 = .ok (.aload_n 2, 1) := by decide +kernel
theorem d_Roo_becomeLike_115 : decode prog_8_method_2_code 115 = .ok (.getfield 67, 3) := by decide +kernel
theorem d_Roo_becomeLike_118 : decode prog_8_method_2_code 118 = .ok (.aload_n 2, 1) := by decide +kernel
theorem d_Roo_becomeLike_119 : decode prog_8_method_2_code 119 = .ok (.getfield 70, 3) := by decide +kernel
theorem d_Roo_becomeLike_122 : decode prog_8_method_2_code 122 = .ok (.invokevirtual 73, 3) := by decide +kernel
theorem d_Roo_becomeLike_125 : decode prog_8_method_2_code 125 = .ok (.aload_n 0, 1) := by decide +kernel
theorem d_Roo_becomeLike_126 : decode prog_8_method_2_code 126 = .ok (.aload_n 1, 1) := by decide +kernel
theorem d_Roo_becomeLike_127 : decode prog_8_method_2_code 127 = .ok (.getfield 77, 3) := by decide +kernel
theorem d_Roo_becomeLike_130 : decode prog_8_method_2_code 130 = .ok (.putfield 77, 3) := by decide +kernel
theorem d_Roo_becomeLike_133 : decode prog_8_method_2_code 133 = .ok (.aload_n 0, 1) := by decide +kernel
theorem d_Roo_becomeLike_134 : decode prog_8_method_2_code 134 = .ok (.aload_n 1, 1) := by decide +kernel
theorem d_Roo_becomeLike_135 : decode prog_8_method_2_code 135 = .ok (.getfield 80, 3) := by decide +kernel
theorem d_Roo_becomeLike_138 : decode prog_8_method_2_code 138 = .ok (.putfield 80, 3) := by decide +kernel
theorem d_Roo_becomeLike_141 : decode prog_8_method_2_code 141 = .ok (.aload_n 0, 1) := by decide +kernel
theorem d_Roo_becomeLike_142 : decode prog_8_method_2_code 142 = .ok (.aload_n 1, 1) := by decide +kernel
theorem d_Roo_becomeLike_143 : decode prog_8_method_2_code 143 = .ok (.getfield 83, 3) := by decide +kernel
theorem d_Roo_becomeLike_146 : decode prog_8_method_2_code 146 = .ok (.putfield 83, 3) := by decide +kernel
theorem d_Roo_becomeLike_149 : decode prog_8_method_2_code 149 = .ok (.aload_n 0, 1) := by decide +kernel
theorem d_Roo_becomeLike_150 : decode prog_8_method_2_code 150 = .ok (.aload_n 1, 1) := by decide +kernel
theorem d_Roo_becomeLike_151 : decode prog_8_method_2_code 151 = .ok (.getfield 86, 3) := by decide +kernel
theorem d_Roo_becomeLike_154 : decode prog_8_method_2_code 154 = .ok (.putfield 86, 3) := by decide +kernel
theorem d_Roo_becomeLike_157 : decode prog_8_method_2_code 157 = .ok (.return_, 1) := by decide +kernel
theorem d_Roo_copyTellings_0 : decode prog_8_method_3_code 0 = .ok (.iconst 0, 1) := by decide +kernel
theorem d_Roo_copyTellings_1 : decode prog_8_method_3_code 1 = .ok (.istore_n 2, 1) := by decide +kernel
theorem d_Roo_copyTellings_2 : decode prog_8_method_3_code 2 = .ok (.iload_n 2, 1) := by decide +kernel
theorem d_Roo_copyTellings_3 : decode prog_8_method_3_code 3 = .ok (.aload_n 0, 1) := by decide +kernel
theorem d_Roo_copyTellings_4 : decode prog_8_method_3_code 4 = .ok (.arraylength, 1) := by decide +kernel
theorem d_Roo_copyTellings_5 : decode prog_8_method_3_code 5 = .ok (.if_icmp .ge 21, 3) := by decide +kernel
theorem d_Roo_copyTellings_8 : decode prog_8_method_3_code 8 = .ok (.iload_n 2, 1) := by decide +kernel
theorem d_Roo_copyTellings_9 : decode prog_8_method_3_code 9 = .ok (.aload_n 1, 1) := by decide +kernel
theorem d_Roo_copyTellings_10 : decode prog_8_method_3_code 10 = .ok (.arraylength, 1) := by decide +kernel
theorem d_Roo_copyTellings_11 : decode prog_8_method_3_code 11 = .ok (.if_icmp .ge 15, 3) := by decide +kernel
theorem d_Roo_copyTellings_14 : decode prog_8_method_3_code 14 = .ok (.aload_n 1, 1) := by decide +kernel
theorem d_Roo_copyTellings_15 : decode prog_8_method_3_code 15 = .ok (.iload_n 2, 1) := by decide +kernel
theorem d_Roo_copyTellings_16 : decode prog_8_method_3_code 16 = .ok (.aload_n 0, 1) := by decide +kernel
theorem d_Roo_copyTellings_17 : decode prog_8_method_3_code 17 = .ok (.iload_n 2, 1) := by decide +kernel
theorem d_Roo_copyTellings_18 : decode prog_8_method_3_code 18 = .ok (.aaload, 1) := by decide +kernel
theorem d_Roo_copyTellings_19 : decode prog_8_method_3_code 19 = .ok (.aastore, 1) := by decide +kernel
theorem d_Roo_copyTellings_20 : decode prog_8_method_3_code 20 = .ok (.iinc 2 1, 3) := by decide +kernel
theorem d_Roo_copyTellings_23 : decode prog_8_method_3_code 23 = .ok (.goto (-21), 3) := by decide +kernel
theorem d_Roo_copyTellings_26 : decode prog_8_method_3_code 26 = .ok (.return_, 1) := by decide +kernel
theorem d_Roo_tellingAt_0 : decode prog_8_method_4_code 0 = .ok (.iload_n 1, 1) := by decide +kernel
theorem d_Roo_tellingAt_1 : decode prog_8_method_4_code 1 = .ok (.aload_n 0, 1) := by decide +kernel
theorem d_Roo_tellingAt_2 : decode prog_8_method_4_code 2 = .ok (.getfield 77, 3) := by decide +kernel
theorem d_Roo_tellingAt_5 : decode prog_8_method_4_code 5 = .ok (.if_icmp .ge 14, 3) := by decide +kernel
theorem d_Roo_tellingAt_8 : decode prog_8_method_4_code 8 = .ok (.aload_n 0, 1) := by decide +kernel
theorem d_Roo_tellingAt_9 : decode prog_8_method_4_code 9 = .ok (.getfield 11, 3) := by decide +kernel
theorem d_Roo_tellingAt_12 : decode prog_8_method_4_code 12 = .ok (.iload_n 1, 1) := by decide +kernel
theorem d_Roo_tellingAt_13 : decode prog_8_method_4_code 13 = .ok (.invokestatic 90, 3) := by decide +kernel
theorem d_Roo_tellingAt_16 : decode prog_8_method_4_code 16 = .ok (.goto 4, 3) := by decide +kernel
theorem d_Roo_tellingAt_19 : decode prog_8_method_4_code 19 = .ok (.aconst_null, 1) := by decide +kernel
theorem d_Roo_tellingAt_20 : decode prog_8_method_4_code 20 = .ok (.areturn, 1) := by decide +kernel
theorem d_Roo_firstOfPair_0 : decode prog_8_method_5_code 0 = .ok (.iload_n 1, 1) := by decide +kernel
theorem d_Roo_firstOfPair_1 : decode prog_8_method_5_code 1 = .ok (.aload_n 0, 1) := by decide +kernel
theorem d_Roo_firstOfPair_2 : decode prog_8_method_5_code 2 = .ok (.getfield 80, 3) := by decide +kernel
theorem d_Roo_firstOfPair_5 : decode prog_8_method_5_code 5 = .ok (.if_icmp .ge 14, 3) := by decide +kernel
theorem d_Roo_firstOfPair_8 : decode prog_8_method_5_code 8 = .ok (.aload_n 0, 1) := by decide +kernel
theorem d_Roo_firstOfPair_9 : decode prog_8_method_5_code 9 = .ok (.getfield 24, 3) := by decide +kernel
theorem d_Roo_firstOfPair_12 : decode prog_8_method_5_code 12 = .ok (.iload_n 1, 1) := by decide +kernel
theorem d_Roo_firstOfPair_13 : decode prog_8_method_5_code 13 = .ok (.invokestatic 90, 3) := by decide +kernel
theorem d_Roo_firstOfPair_16 : decode prog_8_method_5_code 16 = .ok (.goto 4, 3) := by decide +kernel
theorem d_Roo_firstOfPair_19 : decode prog_8_method_5_code 19 = .ok (.aconst_null, 1) := by decide +kernel
theorem d_Roo_firstOfPair_20 : decode prog_8_method_5_code 20 = .ok (.areturn, 1) := by decide +kernel
theorem d_Roo_secondOfPair_0 : decode prog_8_method_6_code 0 = .ok (.iload_n 1, 1) := by decide +kernel
theorem d_Roo_secondOfPair_1 : decode prog_8_method_6_code 1 = .ok (.aload_n 0, 1) := by decide +kernel
theorem d_Roo_secondOfPair_2 : decode prog_8_method_6_code 2 = .ok (.getfield 80, 3) := by decide +kernel
theorem d_Roo_secondOfPair_5 : decode prog_8_method_6_code 5 = .ok (.if_icmp .ge 14, 3) := by decide +kernel
theorem d_Roo_secondOfPair_8 : decode prog_8_method_6_code 8 = .ok (.aload_n 0, 1) := by decide +kernel
theorem d_Roo_secondOfPair_9 : decode prog_8_method_6_code 9 = .ok (.getfield 27, 3) := by decide +kernel
theorem d_Roo_secondOfPair_12 : decode prog_8_method_6_code 12 = .ok (.iload_n 1, 1) := by decide +kernel
theorem d_Roo_secondOfPair_13 : decode prog_8_method_6_code 13 = .ok (.invokestatic 90, 3) := by decide +kernel
theorem d_Roo_secondOfPair_16 : decode prog_8_method_6_code 16 = .ok (.goto 4, 3) := by decide +kernel
theorem d_Roo_secondOfPair_19 : decode prog_8_method_6_code 19 = .ok (.aconst_null, 1) := by decide +kernel
theorem d_Roo_secondOfPair_20 : decode prog_8_method_6_code 20 = .ok (.areturn, 1) := by decide +kernel
theorem d_Roo_inRow_0 : decode prog_8_method_7_code 0 = .ok (.iload_n 1, 1) := by decide +kernel
theorem d_Roo_inRow_1 : decode prog_8_method_7_code 1 = .ok (.ifCond .lt 15, 3) := by decide +kernel
theorem d_Roo_inRow_4 : decode prog_8_method_7_code 4 = .ok (.iload_n 1, 1) := by decide +kernel
theorem d_Roo_inRow_5 : decode prog_8_method_7_code 5 = .ok (.aload_n 0, 1) := by decide +kernel
theorem d_Roo_inRow_6 : decode prog_8_method_7_code 6 = .ok (.arraylength, 1) := by decide +kernel
theorem d_Roo_inRow_7 : decode prog_8_method_7_code 7 = .ok (.if_icmp .ge 9, 3) := by decide +kernel
theorem d_Roo_inRow_10 : decode prog_8_method_7_code 10 = .ok (.aload_n 0, 1) := by decide +kernel
theorem d_Roo_inRow_11 : decode prog_8_method_7_code 11 = .ok (.iload_n 1, 1) := by decide +kernel
theorem d_Roo_inRow_12 : decode prog_8_method_7_code 12 = .ok (.aaload, 1) := by decide +kernel
theorem d_Roo_inRow_13 : decode prog_8_method_7_code 13 = .ok (.goto 4, 3) := by decide +kernel
theorem d_Roo_inRow_16 : decode prog_8_method_7_code 16 = .ok (.aconst_null, 1) := by decide +kernel
theorem d_Roo_inRow_17 : decode prog_8_method_7_code 17 = .ok (.areturn, 1) := by decide +kernel
theorem d_Roo_lawAt_0 : decode prog_8_method_8_code 0 = .ok (.iload_n 1, 1) := by decide +kernel
theorem d_Roo_lawAt_1 : decode prog_8_method_8_code 1 = .ok (.ifCond .lt 21, 3) := by decide +kernel
theorem d_Roo_lawAt_4 : decode prog_8_method_8_code 4 = .ok (.iload_n 1, 1) := by decide +kernel
theorem d_Roo_lawAt_5 : decode prog_8_method_8_code 5 = .ok (.aload_n 0, 1) := by decide +kernel
theorem d_Roo_lawAt_6 : decode prog_8_method_8_code 6 = .ok (.getfield 19, 3) := by decide +kernel
theorem d_Roo_lawAt_9 : decode prog_8_method_8_code 9 = .ok (.arraylength, 1) := by decide +kernel
theorem d_Roo_lawAt_10 : decode prog_8_method_8_code 10 = .ok (.if_icmp .ge 12, 3) := by decide +kernel
theorem d_Roo_lawAt_13 : decode prog_8_method_8_code 13 = .ok (.aload_n 0, 1) := by decide +kernel
theorem d_Roo_lawAt_14 : decode prog_8_method_8_code 14 = .ok (.getfield 19, 3) := by decide +kernel
theorem d_Roo_lawAt_17 : decode prog_8_method_8_code 17 = .ok (.iload_n 1, 1) := by decide +kernel
theorem d_Roo_lawAt_18 : decode prog_8_method_8_code 18 = .ok (.aaload, 1) := by decide +kernel
theorem d_Roo_lawAt_19 : decode prog_8_method_8_code 19 = .ok (.goto 4, 3) := by decide +kernel
theorem d_Roo_lawAt_22 : decode prog_8_method_8_code 22 = .ok (.aconst_null, 1) := by decide +kernel
theorem d_Roo_lawAt_23 : decode prog_8_method_8_code 23 = .ok (.areturn, 1) := by decide +kernel
theorem d_Roo_addTelling_0 : decode prog_8_method_9_code 0 = .ok (.aload_n 0, 1) := by decide +kernel
theorem d_Roo_addTelling_1 : decode prog_8_method_9_code 1 = .ok (.getfield 77, 3) := by decide +kernel
theorem d_Roo_addTelling_4 : decode prog_8_method_9_code 4 = .ok (.ifCond .lt 15, 3) := by decide +kernel
theorem d_Roo_addTelling_7 : decode prog_8_method_9_code 7 = .ok (.aload_n 0, 1) := by decide +kernel
theorem d_Roo_addTelling_8 : decode prog_8_method_9_code 8 = .ok (.getfield 77, 3) := by decide +kernel
theorem d_Roo_addTelling_11 : decode prog_8_method_9_code 11 = .ok (.aload_n 0, 1) := by decide +kernel
theorem d_Roo_addTelling_12 : decode prog_8_method_9_code 12 = .ok (.getfield 11, 3) := by decide +kernel
theorem d_Roo_addTelling_15 : decode prog_8_method_9_code 15 = .ok (.arraylength, 1) := by decide +kernel
theorem d_Roo_addTelling_16 : decode prog_8_method_9_code 16 = .ok (.if_icmp .lt 6, 3) := by decide +kernel
theorem d_Roo_addTelling_19 : decode prog_8_method_9_code 19 = .ok (.bipush (-9), 2) := by decide +kernel
theorem d_Roo_addTelling_21 : decode prog_8_method_9_code 21 = .ok (.ireturn, 1) := by decide +kernel
theorem d_Roo_addTelling_22 : decode prog_8_method_9_code 22 = .ok (.aload_n 0, 1) := by decide +kernel
theorem d_Roo_addTelling_23 : decode prog_8_method_9_code 23 = .ok (.getfield 11, 3) := by decide +kernel
theorem d_Roo_addTelling_26 : decode prog_8_method_9_code 26 = .ok (.aload_n 0, 1) := by decide +kernel
theorem d_Roo_addTelling_27 : decode prog_8_method_9_code 27 = .ok (.getfield 77, 3) := by decide +kernel
theorem d_Roo_addTelling_30 : decode prog_8_method_9_code 30 = .ok (.aload_n 1, 1) := by decide +kernel
theorem d_Roo_addTelling_31 : decode prog_8_method_9_code 31 = .ok (.aastore, 1) := by decide +kernel
theorem d_Roo_addTelling_32 : decode prog_8_method_9_code 32 = .ok (.aload_n 0, 1) := by decide +kernel
theorem d_Roo_addTelling_33 : decode prog_8_method_9_code 33 = .ok (.dup, 1) := by decide +kernel
theorem d_Roo_addTelling_34 : decode prog_8_method_9_code 34 = .ok (.getfield 77, 3) := by decide +kernel
theorem d_Roo_addTelling_37 : decode prog_8_method_9_code 37 = .ok (.iconst 1, 1) := by decide +kernel
theorem d_Roo_addTelling_38 : decode prog_8_method_9_code 38 = .ok (.iadd, 1) := by decide +kernel
theorem d_Roo_addTelling_39 : decode prog_8_method_9_code 39 = .ok (.putfield 77, 3) := by decide +kernel
theorem d_Roo_addTelling_42 : decode prog_8_method_9_code 42 = .ok (.aload_n 0, 1) := by decide +kernel
theorem d_Roo_addTelling_43 : decode prog_8_method_9_code 43 = .ok (.getfield 77, 3) := by decide +kernel
theorem d_Roo_addTelling_46 : decode prog_8_method_9_code 46 = .ok (.iconst 1, 1) := by decide +kernel
theorem d_Roo_addTelling_47 : decode prog_8_method_9_code 47 = .ok (.isub, 1) := by decide +kernel
theorem d_Roo_addTelling_48 : decode prog_8_method_9_code 48 = .ok (.ireturn, 1) := by decide +kernel
theorem d_Roo_addPair_0 : decode prog_8_method_10_code 0 = .ok (.aload_n 0, 1) := by decide +kernel
theorem d_Roo_addPair_1 : decode prog_8_method_10_code 1 = .ok (.getfield 80, 3) := by decide +kernel
theorem d_Roo_addPair_4 : decode prog_8_method_10_code 4 = .ok (.ifCond .lt 57, 3) := by decide +kernel
theorem d_Roo_addPair_7 : decode prog_8_method_10_code 7 = .ok (.aload_n 0, 1) := by decide +kernel
theorem d_Roo_addPair_8 : decode prog_8_method_10_code 8 = .ok (.getfield 80, 3) := by decide +kernel
theorem d_Roo_addPair_11 : decode prog_8_method_10_code 11 = .ok (.aload_n 0, 1) := by decide +kernel
theorem d_Roo_addPair_12 : decode prog_8_method_10_code 12 = .ok (.getfield 24, 3) := by decide +kernel
theorem d_Roo_addPair_15 : decode prog_8_method_10_code 15 = .ok (.arraylength, 1) := by decide +kernel
theorem d_Roo_addPair_16 : decode prog_8_method_10_code 16 = .ok (.if_icmp .ge 45, 3) := by decide +kernel
theorem d_Roo_addPair_19 : decode prog_8_method_10_code 19 = .ok (.aload_n 0, 1) := by decide +kernel
theorem d_Roo_addPair_20 : decode prog_8_method_10_code 20 = .ok (.getfield 80, 3) := by decide +kernel
theorem d_Roo_addPair_23 : decode prog_8_method_10_code 23 = .ok (.aload_n 0, 1) := by decide +kernel
theorem d_Roo_addPair_24 : decode prog_8_method_10_code 24 = .ok (.getfield 27, 3) := by decide +kernel
theorem d_Roo_addPair_27 : decode prog_8_method_10_code 27 = .ok (.arraylength, 1) := by decide +kernel
theorem d_Roo_addPair_28 : decode prog_8_method_10_code 28 = .ok (.if_icmp .ge 33, 3) := by decide +kernel
theorem d_Roo_addPair_31 : decode prog_8_method_10_code 31 = .ok (.aload_n 0, 1) := by decide +kernel
theorem d_Roo_addPair_32 : decode prog_8_method_10_code 32 = .ok (.getfield 24, 3) := by decide +kernel
theorem d_Roo_addPair_35 : decode prog_8_method_10_code 35 = .ok (.aload_n 0, 1) := by decide +kernel
theorem d_Roo_addPair_36 : decode prog_8_method_10_code 36 = .ok (.getfield 80, 3) := by decide +kernel
theorem d_Roo_addPair_39 : decode prog_8_method_10_code 39 = .ok (.aload_n 1, 1) := by decide +kernel
theorem d_Roo_addPair_40 : decode prog_8_method_10_code 40 = .ok (.aastore, 1) := by decide +kernel
theorem d_Roo_addPair_41 : decode prog_8_method_10_code 41 = .ok (.aload_n 0, 1) := by decide +kernel
theorem d_Roo_addPair_42 : decode prog_8_method_10_code 42 = .ok (.getfield 27, 3) := by decide +kernel
theorem d_Roo_addPair_45 : decode prog_8_method_10_code 45 = .ok (.aload_n 0, 1) := by decide +kernel
theorem d_Roo_addPair_46 : decode prog_8_method_10_code 46 = .ok (.getfield 80, 3) := by decide +kernel
theorem d_Roo_addPair_49 : decode prog_8_method_10_code 49 = .ok (.aload_n 2, 1) := by decide +kernel
theorem d_Roo_addPair_50 : decode prog_8_method_10_code 50 = .ok (.aastore, 1) := by decide +kernel
theorem d_Roo_addPair_51 : decode prog_8_method_10_code 51 = .ok (.aload_n 0, 1) := by decide +kernel
theorem d_Roo_addPair_52 : decode prog_8_method_10_code 52 = .ok (.dup, 1) := by decide +kernel
theorem d_Roo_addPair_53 : decode prog_8_method_10_code 53 = .ok (.getfield 80, 3) := by decide +kernel
theorem d_Roo_addPair_56 : decode prog_8_method_10_code 56 = .ok (.iconst 1, 1) := by decide +kernel
theorem d_Roo_addPair_57 : decode prog_8_method_10_code 57 = .ok (.iadd, 1) := by decide +kernel
theorem d_Roo_addPair_58 : decode prog_8_method_10_code 58 = .ok (.putfield 80, 3) := by decide +kernel
theorem d_Roo_addPair_61 : decode prog_8_method_10_code 61 = .ok (.aload_n 0, 1) := by decide +kernel
theorem d_Roo_addPair_62 : decode prog_8_method_10_code 62 = .ok (.getfield 80, 3) := by decide +kernel
theorem d_Roo_addPair_65 : decode prog_8_method_10_code 65 = .ok (.ireturn, 1) := by decide +kernel
theorem d_Roo_rightNumber_0 : decode prog_8_method_11_code 0 = .ok (.aload_n 1, 1) := by decide +kernel
theorem d_Roo_rightNumber_1 : decode prog_8_method_11_code 1 = .ok (.iload_n 2, 1) := by decide +kernel
theorem d_Roo_rightNumber_2 : decode prog_8_method_11_code 2 = .ok (.invokevirtual 94, 3) := by decide +kernel
theorem d_Roo_rightNumber_5 : decode prog_8_method_11_code 5 = .ok (.ifCond .ne 16, 3) := by decide +kernel
theorem d_Roo_rightNumber_8 : decode prog_8_method_11_code 8 = .ok (.iload_n 2, 1) := by decide +kernel
theorem d_Roo_rightNumber_9 : decode prog_8_method_11_code 9 = .ok (.ifCond .lt 12, 3) := by decide +kernel
theorem d_Roo_rightNumber_12 : decode prog_8_method_11_code 12 = .ok (.iload_n 2, 1) := by decide +kernel
theorem d_Roo_rightNumber_13 : decode prog_8_method_11_code 13 = .ok (.aload_n 0, 1) := by decide +kernel
theorem d_Roo_rightNumber_14 : decode prog_8_method_11_code 14 = .ok (.getfield 30, 3) := by decide +kernel
theorem d_Roo_rightNumber_17 : decode prog_8_method_11_code 17 = .ok (.arraylength, 1) := by decide +kernel
theorem d_Roo_rightNumber_18 : decode prog_8_method_11_code 18 = .ok (.if_icmp .lt 6, 3) := by decide +kernel
theorem d_Roo_rightNumber_21 : decode prog_8_method_11_code 21 = .ok (.bipush (-9), 2) := by decide +kernel
theorem d_Roo_rightNumber_23 : decode prog_8_method_11_code 23 = .ok (.ireturn, 1) := by decide +kernel
theorem d_Roo_rightNumber_24 : decode prog_8_method_11_code 24 = .ok (.bipush 100, 2) := by decide +kernel
theorem d_Roo_rightNumber_26 : decode prog_8_method_11_code 26 = .ok (.aload_n 0, 1) := by decide +kernel
theorem d_Roo_rightNumber_27 : decode prog_8_method_11_code 27 = .ok (.getfield 30, 3) := by decide +kernel
theorem d_Roo_rightNumber_30 : decode prog_8_method_11_code 30 = .ok (.iload_n 2, 1) := by decide +kernel
theorem d_Roo_rightNumber_31 : decode prog_8_method_11_code 31 = .ok (.iaload, 1) := by decide +kernel
theorem d_Roo_rightNumber_32 : decode prog_8_method_11_code 32 = .ok (.aload_n 1, 1) := by decide +kernel
theorem d_Roo_rightNumber_33 : decode prog_8_method_11_code 33 = .ok (.getfield 98, 3) := by decide +kernel
theorem d_Roo_rightNumber_36 : decode prog_8_method_11_code 36 = .ok (.imul, 1) := by decide +kernel
theorem d_Roo_rightNumber_37 : decode prog_8_method_11_code 37 = .ok (.iadd, 1) := by decide +kernel
theorem d_Roo_rightNumber_38 : decode prog_8_method_11_code 38 = .ok (.istore_n 3, 1) := by decide +kernel
theorem d_Roo_rightNumber_39 : decode prog_8_method_11_code 39 = .ok (.iload_n 3, 1) := by decide +kernel
theorem d_Roo_rightNumber_40 : decode prog_8_method_11_code 40 = .ok (.iconst 1, 1) := by decide +kernel
theorem d_Roo_rightNumber_41 : decode prog_8_method_11_code 41 = .ok (.if_icmp .ge 8, 3) := by decide +kernel
theorem d_Roo_rightNumber_44 : decode prog_8_method_11_code 44 = .ok (.bipush (-9), 2) := by decide +kernel
theorem d_Roo_rightNumber_46 : decode prog_8_method_11_code 46 = .ok (.goto 13, 3) := by decide +kernel
theorem d_Roo_rightNumber_49 : decode prog_8_method_11_code 49 = .ok (.bipush 100, 2) := by decide +kernel
theorem d_Roo_rightNumber_51 : decode prog_8_method_11_code 51 = .ok (.aload_n 1, 1) := by decide +kernel
theorem d_Roo_rightNumber_52 : decode prog_8_method_11_code 52 = .ok (.iload_n 2, 1) := by decide +kernel
theorem d_Roo_rightNumber_53 : decode prog_8_method_11_code 53 = .ok (.invokevirtual 101, 3) := by decide +kernel
theorem d_Roo_rightNumber_56 : decode prog_8_method_11_code 56 = .ok (.imul, 1) := by decide +kernel
theorem d_Roo_rightNumber_57 : decode prog_8_method_11_code 57 = .ok (.iload_n 3, 1) := by decide +kernel
theorem d_Roo_rightNumber_58 : decode prog_8_method_11_code 58 = .ok (.idiv, 1) := by decide +kernel
theorem d_Roo_rightNumber_59 : decode prog_8_method_11_code 59 = .ok (.ireturn, 1) := by decide +kernel
theorem d_Roo_heldNumber_0 : decode prog_8_method_12_code 0 = .ok (.aload_n 0, 1) := by decide +kernel
theorem d_Roo_heldNumber_1 : decode prog_8_method_12_code 1 = .ok (.getfield 86, 3) := by decide +kernel
theorem d_Roo_heldNumber_4 : decode prog_8_method_12_code 4 = .ok (.ifCond .eq 12, 3) := by decide +kernel
theorem d_Roo_heldNumber_7 : decode prog_8_method_12_code 7 = .ok (.aload_n 0, 1) := by decide +kernel
theorem d_Roo_heldNumber_8 : decode prog_8_method_12_code 8 = .ok (.aload_n 1, 1) := by decide +kernel
theorem d_Roo_heldNumber_9 : decode prog_8_method_12_code 9 = .ok (.iload_n 2, 1) := by decide +kernel
theorem d_Roo_heldNumber_10 : decode prog_8_method_12_code 10 = .ok (.invokevirtual 105, 3) := by decide +kernel
theorem d_Roo_heldNumber_13 : decode prog_8_method_12_code 13 = .ok (.goto 8, 3) := by decide +kernel
theorem d_Roo_heldNumber_16 : decode prog_8_method_12_code 16 = .ok (.aload_n 1, 1) := by decide +kernel
theorem d_Roo_heldNumber_17 : decode prog_8_method_12_code 17 = .ok (.iload_n 2, 1) := by decide +kernel
theorem d_Roo_heldNumber_18 : decode prog_8_method_12_code 18 = .ok (.invokevirtual 101, 3) := by decide +kernel
theorem d_Roo_heldNumber_21 : decode prog_8_method_12_code 21 = .ok (.ireturn, 1) := by decide +kernel
theorem d_Roo_brokenBy_0 : decode prog_8_method_13_code 0 = .ok (.aload_n 2, 1) := by decide +kernel
theorem d_Roo_brokenBy_1 : decode prog_8_method_13_code 1 = .ok (.aload_n 1, 1) := by decide +kernel
theorem d_Roo_brokenBy_2 : decode prog_8_method_13_code 2 = .ok (.aload_n 0, 1) := by decide +kernel
theorem d_Roo_brokenBy_3 : decode prog_8_method_13_code 3 = .ok (.aload_n 1, 1) := by decide +kernel
theorem d_Roo_brokenBy_4 : decode prog_8_method_13_code 4 = .ok (.iconst 0, 1) := by decide +kernel
theorem d_Roo_brokenBy_5 : decode prog_8_method_13_code 5 = .ok (.invokevirtual 109, 3) := by decide +kernel
theorem d_Roo_brokenBy_8 : decode prog_8_method_13_code 8 = .ok (.aload_n 0, 1) := by decide +kernel
theorem d_Roo_brokenBy_9 : decode prog_8_method_13_code 9 = .ok (.aload_n 1, 1) := by decide +kernel
theorem d_Roo_brokenBy_10 : decode prog_8_method_13_code 10 = .ok (.iconst 1, 1) := by decide +kernel
theorem d_Roo_brokenBy_11 : decode prog_8_method_13_code 11 = .ok (.invokevirtual 109, 3) := by decide +kernel
theorem d_Roo_brokenBy_14 : decode prog_8_method_13_code 14 = .ok (.invokevirtual 112, 3) := by decide +kernel
theorem d_Roo_brokenBy_17 : decode prog_8_method_13_code 17 = .ok (.ireturn, 1) := by decide +kernel
theorem d_Roo_lawsFitted_0 : decode prog_8_method_14_code 0 = .ok (.aload_n 0, 1) := by decide +kernel
theorem d_Roo_lawsFitted_1 : decode prog_8_method_14_code 1 = .ok (.aload_n 1, 1) := by decide +kernel
theorem d_Roo_lawsFitted_2 : decode prog_8_method_14_code 2 = .ok (.iconst 0, 1) := by decide +kernel
theorem d_Roo_lawsFitted_3 : decode prog_8_method_14_code 3 = .ok (.invokevirtual 109, 3) := by decide +kernel
theorem d_Roo_lawsFitted_6 : decode prog_8_method_14_code 6 = .ok (.istore_n 2, 1) := by decide +kernel
theorem d_Roo_lawsFitted_7 : decode prog_8_method_14_code 7 = .ok (.aload_n 0, 1) := by decide +kernel
theorem d_Roo_lawsFitted_8 : decode prog_8_method_14_code 8 = .ok (.aload_n 1, 1) := by decide +kernel
theorem d_Roo_lawsFitted_9 : decode prog_8_method_14_code 9 = .ok (.iconst 1, 1) := by decide +kernel
theorem d_Roo_lawsFitted_10 : decode prog_8_method_14_code 10 = .ok (.invokevirtual 109, 3) := by decide +kernel
theorem d_Roo_lawsFitted_13 : decode prog_8_method_14_code 13 = .ok (.istore_n 3, 1) := by decide +kernel
theorem d_Roo_lawsFitted_14 : decode prog_8_method_14_code 14 = .ok (.iconst 0, 1) := by decide +kernel
theorem d_Roo_lawsFitted_15 : decode prog_8_method_14_code 15 = .ok (.istore 4, 2) := by decide +kernel
theorem d_Roo_lawsFitted_17 : decode prog_8_method_14_code 17 = .ok (.iconst 0, 1) := by decide +kernel
theorem d_Roo_lawsFitted_18 : decode prog_8_method_14_code 18 = .ok (.istore 5, 2) := by decide +kernel
theorem d_Roo_lawsFitted_20 : decode prog_8_method_14_code 20 = .ok (.iload 5, 2) := by decide +kernel
theorem d_Roo_lawsFitted_22 : decode prog_8_method_14_code 22 = .ok (.bipush 6, 2) := by decide +kernel
theorem d_Roo_lawsFitted_24 : decode prog_8_method_14_code 24 = .ok (.if_icmp .ge 42, 3) := by decide +kernel
theorem d_Roo_lawsFitted_27 : decode prog_8_method_14_code 27 = .ok (.aload_n 0, 1) := by decide +kernel
theorem d_Roo_lawsFitted_28 : decode prog_8_method_14_code 28 = .ok (.iload 5, 2) := by decide +kernel
theorem d_Roo_lawsFitted_30 : decode prog_8_method_14_code 30 = .ok (.invokevirtual 48, 3) := by decide +kernel
theorem d_Roo_lawsFitted_33 : decode prog_8_method_14_code 33 = .ok (.astore 6, 2) := by decide +kernel
theorem d_Roo_lawsFitted_35 : decode prog_8_method_14_code 35 = .ok (.aload 6, 2) := by decide +kernel
theorem d_Roo_lawsFitted_37 : decode prog_8_method_14_code 37 = .ok (.ifnull 23, 3) := by decide +kernel
theorem d_Roo_lawsFitted_40 : decode prog_8_method_14_code 40 = .ok (.aload 6, 2) := by decide +kernel
theorem d_Roo_lawsFitted_42 : decode prog_8_method_14_code 42 = .ok (.aload_n 1, 1) := by decide +kernel
theorem d_Roo_lawsFitted_43 : decode prog_8_method_14_code 43 = .ok (.iload_n 2, 1) := by decide +kernel
theorem d_Roo_lawsFitted_44 : decode prog_8_method_14_code 44 = .ok (.iload_n 3, 1) := by decide +kernel
theorem d_Roo_lawsFitted_45 : decode prog_8_method_14_code 45 = .ok (.invokevirtual 112, 3) := by decide +kernel
theorem d_Roo_lawsFitted_48 : decode prog_8_method_14_code 48 = .ok (.ifCond .ne 12, 3) := by decide +kernel
theorem d_Roo_lawsFitted_51 : decode prog_8_method_14_code 51 = .ok (.iload 4, 2) := by decide +kernel
theorem d_Roo_lawsFitted_53 : decode prog_8_method_14_code 53 = .ok (.iconst 1, 1) := by decide +kernel
theorem d_Roo_lawsFitted_54 : decode prog_8_method_14_code 54 = .ok (.iload 5, 2) := by decide +kernel
theorem d_Roo_lawsFitted_56 : decode prog_8_method_14_code 56 = .ok (.ishl, 1) := by decide +kernel
theorem d_Roo_lawsFitted_57 : decode prog_8_method_14_code 57 = .ok (.ior, 1) := by decide +kernel
theorem d_Roo_lawsFitted_58 : decode prog_8_method_14_code 58 = .ok (.istore 4, 2) := by decide +kernel
theorem d_Roo_lawsFitted_60 : decode prog_8_method_14_code 60 = .ok (.iinc 5 1, 3) := by decide +kernel
theorem d_Roo_lawsFitted_63 : decode prog_8_method_14_code 63 = .ok (.goto (-43), 3) := by decide +kernel
theorem d_Roo_lawsFitted_66 : decode prog_8_method_14_code 66 = .ok (.iload 4, 2) := by decide +kernel
theorem d_Roo_lawsFitted_68 : decode prog_8_method_14_code 68 = .ok (.ireturn, 1) := by decide +kernel
theorem d_Roo_howManyFit_0 : decode prog_8_method_15_code 0 = .ok (.iconst 0, 1) := by decide +kernel
theorem d_Roo_howManyFit_1 : decode prog_8_method_15_code 1 = .ok (.istore_n 2, 1) := by decide +kernel
theorem d_Roo_howManyFit_2 : decode prog_8_method_15_code 2 = .ok (.aload_n 0, 1) := by decide +kernel
theorem d_Roo_howManyFit_3 : decode prog_8_method_15_code 3 = .ok (.getfield 11, 3) := by decide +kernel
theorem d_Roo_howManyFit_6 : decode prog_8_method_15_code 6 = .ok (.astore_n 3, 1) := by decide +kernel
theorem d_Roo_howManyFit_7 : decode prog_8_method_15_code 7 = .ok (.aload_n 3, 1) := by decide +kernel
theorem d_Roo_howManyFit_8 : decode prog_8_method_15_code 8 = .ok (.arraylength, 1) := by decide +kernel
theorem d_Roo_howManyFit_9 : decode prog_8_method_15_code 9 = .ok (.istore 4, 2) := by decide +kernel
theorem d_Roo_howManyFit_11 : decode prog_8_method_15_code 11 = .ok (.iconst 0, 1) := by decide +kernel
theorem d_Roo_howManyFit_12 : decode prog_8_method_15_code 12 = .ok (.istore 5, 2) := by decide +kernel
theorem d_Roo_howManyFit_14 : decode prog_8_method_15_code 14 = .ok (.iload 5, 2) := by decide +kernel
theorem d_Roo_howManyFit_16 : decode prog_8_method_15_code 16 = .ok (.iload 4, 2) := by decide +kernel
theorem d_Roo_howManyFit_18 : decode prog_8_method_15_code 18 = .ok (.if_icmp .ge 38, 3) := by decide +kernel
theorem d_Roo_howManyFit_21 : decode prog_8_method_15_code 21 = .ok (.aload_n 3, 1) := by decide +kernel
theorem d_Roo_howManyFit_22 : decode prog_8_method_15_code 22 = .ok (.iload 5, 2) := by decide +kernel
theorem d_Roo_howManyFit_24 : decode prog_8_method_15_code 24 = .ok (.aaload, 1) := by decide +kernel
theorem d_Roo_howManyFit_25 : decode prog_8_method_15_code 25 = .ok (.astore 6, 2) := by decide +kernel
theorem d_Roo_howManyFit_27 : decode prog_8_method_15_code 27 = .ok (.iload_n 2, 1) := by decide +kernel
theorem d_Roo_howManyFit_28 : decode prog_8_method_15_code 28 = .ok (.aload 6, 2) := by decide +kernel
theorem d_Roo_howManyFit_30 : decode prog_8_method_15_code 30 = .ok (.ifnull 17, 3) := by decide +kernel
theorem d_Roo_howManyFit_33 : decode prog_8_method_15_code 33 = .ok (.aload_n 0, 1) := by decide +kernel
theorem d_Roo_howManyFit_34 : decode prog_8_method_15_code 34 = .ok (.aload 6, 2) := by decide +kernel
theorem d_Roo_howManyFit_36 : decode prog_8_method_15_code 36 = .ok (.aload_n 1, 1) := by decide +kernel
theorem d_Roo_howManyFit_37 : decode prog_8_method_15_code 37 = .ok (.invokevirtual 116, 3) := by decide +kernel
theorem d_Roo_howManyFit_40 : decode prog_8_method_15_code 40 = .ok (.ifCond .ne 7, 3) := by decide +kernel
theorem d_Roo_howManyFit_43 : decode prog_8_method_15_code 43 = .ok (.iconst 1, 1) := by decide +kernel
theorem d_Roo_howManyFit_44 : decode prog_8_method_15_code 44 = .ok (.goto 4, 3) := by decide +kernel
theorem d_Roo_howManyFit_47 : decode prog_8_method_15_code 47 = .ok (.iconst 0, 1) := by decide +kernel
theorem d_Roo_howManyFit_48 : decode prog_8_method_15_code 48 = .ok (.iadd, 1) := by decide +kernel
theorem d_Roo_howManyFit_49 : decode prog_8_method_15_code 49 = .ok (.istore_n 2, 1) := by decide +kernel
theorem d_Roo_howManyFit_50 : decode prog_8_method_15_code 50 = .ok (.iinc 5 1, 3) := by decide +kernel
theorem d_Roo_howManyFit_53 : decode prog_8_method_15_code 53 = .ok (.goto (-39), 3) := by decide +kernel
theorem d_Roo_howManyFit_56 : decode prog_8_method_15_code 56 = .ok (.iload_n 2, 1) := by decide +kernel
theorem d_Roo_howManyFit_57 : decode prog_8_method_15_code 57 = .ok (.ireturn, 1) := by decide +kernel
theorem d_Roo_howManyAskedFit_0 : decode prog_8_method_16_code 0 = .ok (.iconst 0, 1) := by decide +kernel
theorem d_Roo_howManyAskedFit_1 : decode prog_8_method_16_code 1 = .ok (.istore_n 2, 1) := by decide +kernel
theorem d_Roo_howManyAskedFit_2 : decode prog_8_method_16_code 2 = .ok (.aload_n 0, 1) := by decide +kernel
theorem d_Roo_howManyAskedFit_3 : decode prog_8_method_16_code 3 = .ok (.getfield 11, 3) := by decide +kernel
theorem d_Roo_howManyAskedFit_6 : decode prog_8_method_16_code 6 = .ok (.astore_n 3, 1) := by decide +kernel
theorem d_Roo_howManyAskedFit_7 : decode prog_8_method_16_code 7 = .ok (.aload_n 3, 1) := by decide +kernel
theorem d_Roo_howManyAskedFit_8 : decode prog_8_method_16_code 8 = .ok (.arraylength, 1) := by decide +kernel
theorem d_Roo_howManyAskedFit_9 : decode prog_8_method_16_code 9 = .ok (.istore 4, 2) := by decide +kernel
theorem d_Roo_howManyAskedFit_11 : decode prog_8_method_16_code 11 = .ok (.iconst 0, 1) := by decide +kernel
theorem d_Roo_howManyAskedFit_12 : decode prog_8_method_16_code 12 = .ok (.istore 5, 2) := by decide +kernel
theorem d_Roo_howManyAskedFit_14 : decode prog_8_method_16_code 14 = .ok (.iload 5, 2) := by decide +kernel
theorem d_Roo_howManyAskedFit_16 : decode prog_8_method_16_code 16 = .ok (.iload 4, 2) := by decide +kernel
theorem d_Roo_howManyAskedFit_18 : decode prog_8_method_16_code 18 = .ok (.if_icmp .ge 46, 3) := by decide +kernel
theorem d_Roo_howManyAskedFit_21 : decode prog_8_method_16_code 21 = .ok (.aload_n 3, 1) := by decide +kernel
theorem d_Roo_howManyAskedFit_22 : decode prog_8_method_16_code 22 = .ok (.iload 5, 2) := by decide +kernel
theorem d_Roo_howManyAskedFit_24 : decode prog_8_method_16_code 24 = .ok (.aaload, 1) := by decide +kernel
theorem d_Roo_howManyAskedFit_25 : decode prog_8_method_16_code 25 = .ok (.astore 6, 2) := by decide +kernel
theorem d_Roo_howManyAskedFit_27 : decode prog_8_method_16_code 27 = .ok (.iload_n 2, 1) := by decide +kernel
theorem d_Roo_howManyAskedFit_28 : decode prog_8_method_16_code 28 = .ok (.aload 6, 2) := by decide +kernel
theorem d_Roo_howManyAskedFit_30 : decode prog_8_method_16_code 30 = .ok (.ifnull 25, 3) := by decide +kernel
theorem d_Roo_howManyAskedFit_33 : decode prog_8_method_16_code 33 = .ok (.aload 6, 2) := by decide +kernel
theorem d_Roo_howManyAskedFit_35 : decode prog_8_method_16_code 35 = .ok (.getfield 119, 3) := by decide +kernel
theorem d_Roo_howManyAskedFit_38 : decode prog_8_method_16_code 38 = .ok (.ifCond .eq 17, 3) := by decide +kernel
theorem d_Roo_howManyAskedFit_41 : decode prog_8_method_16_code 41 = .ok (.aload_n 0, 1) := by decide +kernel
theorem d_Roo_howManyAskedFit_42 : decode prog_8_method_16_code 42 = .ok (.aload 6, 2) := by decide +kernel
theorem d_Roo_howManyAskedFit_44 : decode prog_8_method_16_code 44 = .ok (.aload_n 1, 1) := by decide +kernel
theorem d_Roo_howManyAskedFit_45 : decode prog_8_method_16_code 45 = .ok (.invokevirtual 116, 3) := by decide +kernel
theorem d_Roo_howManyAskedFit_48 : decode prog_8_method_16_code 48 = .ok (.ifCond .ne 7, 3) := by decide +kernel
theorem d_Roo_howManyAskedFit_51 : decode prog_8_method_16_code 51 = .ok (.iconst 1, 1) := by decide +kernel
theorem d_Roo_howManyAskedFit_52 : decode prog_8_method_16_code 52 = .ok (.goto 4, 3) := by decide +kernel
theorem d_Roo_howManyAskedFit_55 : decode prog_8_method_16_code 55 = .ok (.iconst 0, 1) := by decide +kernel
theorem d_Roo_howManyAskedFit_56 : decode prog_8_method_16_code 56 = .ok (.iadd, 1) := by decide +kernel
theorem d_Roo_howManyAskedFit_57 : decode prog_8_method_16_code 57 = .ok (.istore_n 2, 1) := by decide +kernel
theorem d_Roo_howManyAskedFit_58 : decode prog_8_method_16_code 58 = .ok (.iinc 5 1, 3) := by decide +kernel
theorem d_Roo_howManyAskedFit_61 : decode prog_8_method_16_code 61 = .ok (.goto (-47), 3) := by decide +kernel
theorem d_Roo_howManyAskedFit_64 : decode prog_8_method_16_code 64 = .ok (.iload_n 2, 1) := by decide +kernel
theorem d_Roo_howManyAskedFit_65 : decode prog_8_method_16_code 65 = .ok (.ireturn, 1) := by decide +kernel
theorem d_Roo_howManyAsked_0 : decode prog_8_method_17_code 0 = .ok (.iconst 0, 1) := by decide +kernel
theorem d_Roo_howManyAsked_1 : decode prog_8_method_17_code 1 = .ok (.istore_n 1, 1) := by decide +kernel
theorem d_Roo_howManyAsked_2 : decode prog_8_method_17_code 2 = .ok (.aload_n 0, 1) := by decide +kernel
theorem d_Roo_howManyAsked_3 : decode prog_8_method_17_code 3 = .ok (.getfield 11, 3) := by decide +kernel
theorem d_Roo_howManyAsked_6 : decode prog_8_method_17_code 6 = .ok (.astore_n 2, 1) := by decide +kernel
theorem d_Roo_howManyAsked_7 : decode prog_8_method_17_code 7 = .ok (.aload_n 2, 1) := by decide +kernel
theorem d_Roo_howManyAsked_8 : decode prog_8_method_17_code 8 = .ok (.arraylength, 1) := by decide +kernel
theorem d_Roo_howManyAsked_9 : decode prog_8_method_17_code 9 = .ok (.istore_n 3, 1) := by decide +kernel
theorem d_Roo_howManyAsked_10 : decode prog_8_method_17_code 10 = .ok (.iconst 0, 1) := by decide +kernel
theorem d_Roo_howManyAsked_11 : decode prog_8_method_17_code 11 = .ok (.istore 4, 2) := by decide +kernel
theorem d_Roo_howManyAsked_13 : decode prog_8_method_17_code 13 = .ok (.iload 4, 2) := by decide +kernel
theorem d_Roo_howManyAsked_15 : decode prog_8_method_17_code 15 = .ok (.iload_n 3, 1) := by decide +kernel
theorem d_Roo_howManyAsked_16 : decode prog_8_method_17_code 16 = .ok (.if_icmp .ge 36, 3) := by decide +kernel
theorem d_Roo_howManyAsked_19 : decode prog_8_method_17_code 19 = .ok (.aload_n 2, 1) := by decide +kernel
theorem d_Roo_howManyAsked_20 : decode prog_8_method_17_code 20 = .ok (.iload 4, 2) := by decide +kernel
theorem d_Roo_howManyAsked_22 : decode prog_8_method_17_code 22 = .ok (.aaload, 1) := by decide +kernel
theorem d_Roo_howManyAsked_23 : decode prog_8_method_17_code 23 = .ok (.astore 5, 2) := by decide +kernel
theorem d_Roo_howManyAsked_25 : decode prog_8_method_17_code 25 = .ok (.iload_n 1, 1) := by decide +kernel
theorem d_Roo_howManyAsked_26 : decode prog_8_method_17_code 26 = .ok (.aload 5, 2) := by decide +kernel
theorem d_Roo_howManyAsked_28 : decode prog_8_method_17_code 28 = .ok (.ifnull 15, 3) := by decide +kernel
theorem d_Roo_howManyAsked_31 : decode prog_8_method_17_code 31 = .ok (.aload 5, 2) := by decide +kernel
theorem d_Roo_howManyAsked_33 : decode prog_8_method_17_code 33 = .ok (.getfield 119, 3) := by decide +kernel
theorem d_Roo_howManyAsked_36 : decode prog_8_method_17_code 36 = .ok (.ifCond .eq 7, 3) := by decide +kernel
theorem d_Roo_howManyAsked_39 : decode prog_8_method_17_code 39 = .ok (.iconst 1, 1) := by decide +kernel
theorem d_Roo_howManyAsked_40 : decode prog_8_method_17_code 40 = .ok (.goto 4, 3) := by decide +kernel
theorem d_Roo_howManyAsked_43 : decode prog_8_method_17_code 43 = .ok (.iconst 0, 1) := by decide +kernel
theorem d_Roo_howManyAsked_44 : decode prog_8_method_17_code 44 = .ok (.iadd, 1) := by decide +kernel
theorem d_Roo_howManyAsked_45 : decode prog_8_method_17_code 45 = .ok (.istore_n 1, 1) := by decide +kernel
theorem d_Roo_howManyAsked_46 : decode prog_8_method_17_code 46 = .ok (.iinc 4 1, 3) := by decide +kernel
theorem d_Roo_howManyAsked_49 : decode prog_8_method_17_code 49 = .ok (.goto (-36), 3) := by decide +kernel
theorem d_Roo_howManyAsked_52 : decode prog_8_method_17_code 52 = .ok (.iload_n 1, 1) := by decide +kernel
theorem d_Roo_howManyAsked_53 : decode prog_8_method_17_code 53 = .ok (.ireturn, 1) := by decide +kernel
theorem d_Roo_howManyGaps_0 : decode prog_8_method_18_code 0 = .ok (.iconst 0, 1) := by decide +kernel
theorem d_Roo_howManyGaps_1 : decode prog_8_method_18_code 1 = .ok (.istore_n 1, 1) := by decide +kernel
theorem d_Roo_howManyGaps_2 : decode prog_8_method_18_code 2 = .ok (.aload_n 0, 1) := by decide +kernel
theorem d_Roo_howManyGaps_3 : decode prog_8_method_18_code 3 = .ok (.getfield 11, 3) := by decide +kernel
theorem d_Roo_howManyGaps_6 : decode prog_8_method_18_code 6 = .ok (.astore_n 2, 1) := by decide +kernel
theorem d_Roo_howManyGaps_7 : decode prog_8_method_18_code 7 = .ok (.aload_n 2, 1) := by decide +kernel
theorem d_Roo_howManyGaps_8 : decode prog_8_method_18_code 8 = .ok (.arraylength, 1) := by decide +kernel
theorem d_Roo_howManyGaps_9 : decode prog_8_method_18_code 9 = .ok (.istore_n 3, 1) := by decide +kernel
theorem d_Roo_howManyGaps_10 : decode prog_8_method_18_code 10 = .ok (.iconst 0, 1) := by decide +kernel
theorem d_Roo_howManyGaps_11 : decode prog_8_method_18_code 11 = .ok (.istore 4, 2) := by decide +kernel
theorem d_Roo_howManyGaps_13 : decode prog_8_method_18_code 13 = .ok (.iload 4, 2) := by decide +kernel
theorem d_Roo_howManyGaps_15 : decode prog_8_method_18_code 15 = .ok (.iload_n 3, 1) := by decide +kernel
theorem d_Roo_howManyGaps_16 : decode prog_8_method_18_code 16 = .ok (.if_icmp .ge 32, 3) := by decide +kernel
theorem d_Roo_howManyGaps_19 : decode prog_8_method_18_code 19 = .ok (.aload_n 2, 1) := by decide +kernel
theorem d_Roo_howManyGaps_20 : decode prog_8_method_18_code 20 = .ok (.iload 4, 2) := by decide +kernel
theorem d_Roo_howManyGaps_22 : decode prog_8_method_18_code 22 = .ok (.aaload, 1) := by decide +kernel
theorem d_Roo_howManyGaps_23 : decode prog_8_method_18_code 23 = .ok (.astore 5, 2) := by decide +kernel
theorem d_Roo_howManyGaps_25 : decode prog_8_method_18_code 25 = .ok (.iload_n 1, 1) := by decide +kernel
theorem d_Roo_howManyGaps_26 : decode prog_8_method_18_code 26 = .ok (.aload 5, 2) := by decide +kernel
theorem d_Roo_howManyGaps_28 : decode prog_8_method_18_code 28 = .ok (.ifnonnull 7, 3) := by decide +kernel
theorem d_Roo_howManyGaps_31 : decode prog_8_method_18_code 31 = .ok (.iconst 0, 1) := by decide +kernel
theorem d_Roo_howManyGaps_32 : decode prog_8_method_18_code 32 = .ok (.goto 8, 3) := by decide +kernel
theorem d_Roo_howManyGaps_35 : decode prog_8_method_18_code 35 = .ok (.aload 5, 2) := by decide +kernel
theorem d_Roo_howManyGaps_37 : decode prog_8_method_18_code 37 = .ok (.invokevirtual 122, 3) := by decide +kernel
theorem d_Roo_howManyGaps_40 : decode prog_8_method_18_code 40 = .ok (.iadd, 1) := by decide +kernel
theorem d_Roo_howManyGaps_41 : decode prog_8_method_18_code 41 = .ok (.istore_n 1, 1) := by decide +kernel
theorem d_Roo_howManyGaps_42 : decode prog_8_method_18_code 42 = .ok (.iinc 4 1, 3) := by decide +kernel
theorem d_Roo_howManyGaps_45 : decode prog_8_method_18_code 45 = .ok (.goto (-32), 3) := by decide +kernel
theorem d_Roo_howManyGaps_48 : decode prog_8_method_18_code 48 = .ok (.iload_n 1, 1) := by decide +kernel
theorem d_Roo_howManyGaps_49 : decode prog_8_method_18_code 49 = .ok (.ireturn, 1) := by decide +kernel
theorem d_Roo_howManyMarks_0 : decode prog_8_method_19_code 0 = .ok (.iconst 0, 1) := by decide +kernel
theorem d_Roo_howManyMarks_1 : decode prog_8_method_19_code 1 = .ok (.istore_n 1, 1) := by decide +kernel
theorem d_Roo_howManyMarks_2 : decode prog_8_method_19_code 2 = .ok (.aload_n 0, 1) := by decide +kernel
theorem d_Roo_howManyMarks_3 : decode prog_8_method_19_code 3 = .ok (.getfield 11, 3) := by decide +kernel
theorem d_Roo_howManyMarks_6 : decode prog_8_method_19_code 6 = .ok (.astore_n 2, 1) := by decide +kernel
theorem d_Roo_howManyMarks_7 : decode prog_8_method_19_code 7 = .ok (.aload_n 2, 1) := by decide +kernel
theorem d_Roo_howManyMarks_8 : decode prog_8_method_19_code 8 = .ok (.arraylength, 1) := by decide +kernel
theorem d_Roo_howManyMarks_9 : decode prog_8_method_19_code 9 = .ok (.istore_n 3, 1) := by decide +kernel
theorem d_Roo_howManyMarks_10 : decode prog_8_method_19_code 10 = .ok (.iconst 0, 1) := by decide +kernel
theorem d_Roo_howManyMarks_11 : decode prog_8_method_19_code 11 = .ok (.istore 4, 2) := by decide +kernel
theorem d_Roo_howManyMarks_13 : decode prog_8_method_19_code 13 = .ok (.iload 4, 2) := by decide +kernel
theorem d_Roo_howManyMarks_15 : decode prog_8_method_19_code 15 = .ok (.iload_n 3, 1) := by decide +kernel
theorem d_Roo_howManyMarks_16 : decode prog_8_method_19_code 16 = .ok (.if_icmp .ge 35, 3) := by decide +kernel
theorem d_Roo_howManyMarks_19 : decode prog_8_method_19_code 19 = .ok (.aload_n 2, 1) := by decide +kernel
theorem d_Roo_howManyMarks_20 : decode prog_8_method_19_code 20 = .ok (.iload 4, 2) := by decide +kernel
theorem d_Roo_howManyMarks_22 : decode prog_8_method_19_code 22 = .ok (.aaload, 1) := by decide +kernel
theorem d_Roo_howManyMarks_23 : decode prog_8_method_19_code 23 = .ok (.astore 5, 2) := by decide +kernel
theorem d_Roo_howManyMarks_25 : decode prog_8_method_19_code 25 = .ok (.iload_n 1, 1) := by decide +kernel
theorem d_Roo_howManyMarks_26 : decode prog_8_method_19_code 26 = .ok (.aload 5, 2) := by decide +kernel
theorem d_Roo_howManyMarks_28 : decode prog_8_method_19_code 28 = .ok (.ifnonnull 7, 3) := by decide +kernel
theorem d_Roo_howManyMarks_31 : decode prog_8_method_19_code 31 = .ok (.iconst 0, 1) := by decide +kernel
theorem d_Roo_howManyMarks_32 : decode prog_8_method_19_code 32 = .ok (.goto 11, 3) := by decide +kernel
theorem d_Roo_howManyMarks_35 : decode prog_8_method_19_code 35 = .ok (.aload 5, 2) := by decide +kernel
theorem d_Roo_howManyMarks_37 : decode prog_8_method_19_code 37 = .ok (.getfield 126, 3) := by decide +kernel
theorem d_Roo_howManyMarks_40 : decode prog_8_method_19_code 40 = .ok (.invokestatic 127, 3) := by decide +kernel
theorem d_Roo_howManyMarks_43 : decode prog_8_method_19_code 43 = .ok (.iadd, 1) := by decide +kernel
theorem d_Roo_howManyMarks_44 : decode prog_8_method_19_code 44 = .ok (.istore_n 1, 1) := by decide +kernel
theorem d_Roo_howManyMarks_45 : decode prog_8_method_19_code 45 = .ok (.iinc 4 1, 3) := by decide +kernel
theorem d_Roo_howManyMarks_48 : decode prog_8_method_19_code 48 = .ok (.goto (-35), 3) := by decide +kernel
theorem d_Roo_howManyMarks_51 : decode prog_8_method_19_code 51 = .ok (.iload_n 1, 1) := by decide +kernel
theorem d_Roo_howManyMarks_52 : decode prog_8_method_19_code 52 = .ok (.ireturn, 1) := by decide +kernel
theorem d_Roo_shownTo_0 : decode prog_8_method_20_code 0 = .ok (.iconst 0, 1) := by decide +kernel
theorem d_Roo_shownTo_1 : decode prog_8_method_20_code 1 = .ok (.istore_n 2, 1) := by decide +kernel
theorem d_Roo_shownTo_2 : decode prog_8_method_20_code 2 = .ok (.iconst 0, 1) := by decide +kernel
theorem d_Roo_shownTo_3 : decode prog_8_method_20_code 3 = .ok (.istore_n 3, 1) := by decide +kernel
theorem d_Roo_shownTo_4 : decode prog_8_method_20_code 4 = .ok (.iload_n 3, 1) := by decide +kernel
theorem d_Roo_shownTo_5 : decode prog_8_method_20_code 5 = .ok (.aload_n 1, 1) := by decide +kernel
theorem d_Roo_shownTo_6 : decode prog_8_method_20_code 6 = .ok (.getfield 132, 3) := by decide +kernel
theorem d_Roo_shownTo_9 : decode prog_8_method_20_code 9 = .ok (.if_icmp .ge 27, 3) := by decide +kernel
theorem d_Roo_shownTo_12 : decode prog_8_method_20_code 12 = .ok (.iload_n 3, 1) := by decide +kernel
theorem d_Roo_shownTo_13 : decode prog_8_method_20_code 13 = .ok (.aload_n 0, 1) := by decide +kernel
theorem d_Roo_shownTo_14 : decode prog_8_method_20_code 14 = .ok (.getfield 34, 3) := by decide +kernel
theorem d_Roo_shownTo_17 : decode prog_8_method_20_code 17 = .ok (.arraylength, 1) := by decide +kernel
theorem d_Roo_shownTo_18 : decode prog_8_method_20_code 18 = .ok (.if_icmp .ge 18, 3) := by decide +kernel
theorem d_Roo_shownTo_21 : decode prog_8_method_20_code 21 = .ok (.iload_n 2, 1) := by decide +kernel
theorem d_Roo_shownTo_22 : decode prog_8_method_20_code 22 = .ok (.aload_n 0, 1) := by decide +kernel
theorem d_Roo_shownTo_23 : decode prog_8_method_20_code 23 = .ok (.getfield 34, 3) := by decide +kernel
theorem d_Roo_shownTo_26 : decode prog_8_method_20_code 26 = .ok (.iload_n 3, 1) := by decide +kernel
theorem d_Roo_shownTo_27 : decode prog_8_method_20_code 27 = .ok (.iaload, 1) := by decide +kernel
theorem d_Roo_shownTo_28 : decode prog_8_method_20_code 28 = .ok (.iadd, 1) := by decide +kernel
theorem d_Roo_shownTo_29 : decode prog_8_method_20_code 29 = .ok (.istore_n 2, 1) := by decide +kernel
theorem d_Roo_shownTo_30 : decode prog_8_method_20_code 30 = .ok (.iinc 3 1, 3) := by decide +kernel
theorem d_Roo_shownTo_33 : decode prog_8_method_20_code 33 = .ok (.goto (-29), 3) := by decide +kernel
theorem d_Roo_shownTo_36 : decode prog_8_method_20_code 36 = .ok (.aload_n 0, 1) := by decide +kernel
theorem d_Roo_shownTo_37 : decode prog_8_method_20_code 37 = .ok (.getfield 83, 3) := by decide +kernel
theorem d_Roo_shownTo_40 : decode prog_8_method_20_code 40 = .ok (.iload_n 2, 1) := by decide +kernel
theorem d_Roo_shownTo_41 : decode prog_8_method_20_code 41 = .ok (.imul, 1) := by decide +kernel
theorem d_Roo_shownTo_42 : decode prog_8_method_20_code 42 = .ok (.ireturn, 1) := by decide +kernel
theorem d_Roo_fullestRing_0 : decode prog_8_method_21_code 0 = .ok (.iconst (-1), 1) := by decide +kernel
theorem d_Roo_fullestRing_1 : decode prog_8_method_21_code 1 = .ok (.istore_n 3, 1) := by decide +kernel
theorem d_Roo_fullestRing_2 : decode prog_8_method_21_code 2 = .ok (.iconst (-1), 1) := by decide +kernel
theorem d_Roo_fullestRing_3 : decode prog_8_method_21_code 3 = .ok (.istore 4, 2) := by decide +kernel
theorem d_Roo_fullestRing_5 : decode prog_8_method_21_code 5 = .ok (.iconst 0, 1) := by decide +kernel
theorem d_Roo_fullestRing_6 : decode prog_8_method_21_code 6 = .ok (.istore 5, 2) := by decide +kernel
theorem d_Roo_fullestRing_8 : decode prog_8_method_21_code 8 = .ok (.iload 5, 2) := by decide +kernel
theorem d_Roo_fullestRing_10 : decode prog_8_method_21_code 10 = .ok (.iload_n 1, 1) := by decide +kernel
theorem d_Roo_fullestRing_11 : decode prog_8_method_21_code 11 = .ok (.if_icmp .ge 52, 3) := by decide +kernel
theorem d_Roo_fullestRing_14 : decode prog_8_method_21_code 14 = .ok (.iload 5, 2) := by decide +kernel
theorem d_Roo_fullestRing_16 : decode prog_8_method_21_code 16 = .ok (.aload_n 0, 1) := by decide +kernel
theorem d_Roo_fullestRing_17 : decode prog_8_method_21_code 17 = .ok (.getfield 34, 3) := by decide +kernel
theorem d_Roo_fullestRing_20 : decode prog_8_method_21_code 20 = .ok (.arraylength, 1) := by decide +kernel
theorem d_Roo_fullestRing_21 : decode prog_8_method_21_code 21 = .ok (.if_icmp .ge 42, 3) := by decide +kernel
theorem d_Roo_fullestRing_24 : decode prog_8_method_21_code 24 = .ok (.iload_n 2, 1) := by decide +kernel
theorem d_Roo_fullestRing_25 : decode prog_8_method_21_code 25 = .ok (.iload 5, 2) := by decide +kernel
theorem d_Roo_fullestRing_27 : decode prog_8_method_21_code 27 = .ok (.invokestatic 135, 3) := by decide +kernel
theorem d_Roo_fullestRing_30 : decode prog_8_method_21_code 30 = .ok (.ifCond .ne 27, 3) := by decide +kernel
theorem d_Roo_fullestRing_33 : decode prog_8_method_21_code 33 = .ok (.aload_n 0, 1) := by decide +kernel
theorem d_Roo_fullestRing_34 : decode prog_8_method_21_code 34 = .ok (.getfield 34, 3) := by decide +kernel
theorem d_Roo_fullestRing_37 : decode prog_8_method_21_code 37 = .ok (.iload 5, 2) := by decide +kernel
theorem d_Roo_fullestRing_39 : decode prog_8_method_21_code 39 = .ok (.iaload, 1) := by decide +kernel
theorem d_Roo_fullestRing_40 : decode prog_8_method_21_code 40 = .ok (.iload 4, 2) := by decide +kernel
theorem d_Roo_fullestRing_42 : decode prog_8_method_21_code 42 = .ok (.if_icmp .le 15, 3) := by decide +kernel
theorem d_Roo_fullestRing_45 : decode prog_8_method_21_code 45 = .ok (.iload 5, 2) := by decide +kernel
theorem d_Roo_fullestRing_47 : decode prog_8_method_21_code 47 = .ok (.istore_n 3, 1) := by decide +kernel
theorem d_Roo_fullestRing_48 : decode prog_8_method_21_code 48 = .ok (.aload_n 0, 1) := by decide +kernel
theorem d_Roo_fullestRing_49 : decode prog_8_method_21_code 49 = .ok (.getfield 34, 3) := by decide +kernel
theorem d_Roo_fullestRing_52 : decode prog_8_method_21_code 52 = .ok (.iload 5, 2) := by decide +kernel
theorem d_Roo_fullestRing_54 : decode prog_8_method_21_code 54 = .ok (.iaload, 1) := by decide +kernel
theorem d_Roo_fullestRing_55 : decode prog_8_method_21_code 55 = .ok (.istore 4, 2) := by decide +kernel
theorem d_Roo_fullestRing_57 : decode prog_8_method_21_code 57 = .ok (.iinc 5 1, 3) := by decide +kernel
theorem d_Roo_fullestRing_60 : decode prog_8_method_21_code 60 = .ok (.goto (-52), 3) := by decide +kernel
theorem d_Roo_fullestRing_63 : decode prog_8_method_21_code 63 = .ok (.iload_n 3, 1) := by decide +kernel
theorem d_Roo_fullestRing_64 : decode prog_8_method_21_code 64 = .ok (.ireturn, 1) := by decide +kernel
theorem d_Tap_init_0 : decode prog_9_method_1_code 0 = .ok (.aload_n 0, 1) := by decide +kernel
theorem d_Tap_init_1 : decode prog_9_method_1_code 1 = .ok (.invokespecial 3, 3) := by decide +kernel
theorem d_Tap_init_4 : decode prog_9_method_1_code 4 = .ok (.aload_n 0, 1) := by decide +kernel
theorem d_Tap_init_5 : decode prog_9_method_1_code 5 = .ok (.bipush 24, 2) := by decide +kernel
theorem d_Tap_init_7 : decode prog_9_method_1_code 7 = .ok (.newarray .int, 2) := by decide +kernel
theorem d_Tap_init_9 : decode prog_9_method_1_code 9 = .ok (.putfield 9, 3) := by decide +kernel
theorem d_Tap_init_12 : decode prog_9_method_1_code 12 = .ok (.return_, 1) := by decide +kernel
theorem d_Tap_roomLeft_0 : decode prog_9_method_2_code 0 = .ok (.aload_n 0, 1) := by decide +kernel
theorem d_Tap_roomLeft_1 : decode prog_9_method_2_code 1 = .ok (.getfield 9, 3) := by decide +kernel
theorem d_Tap_roomLeft_4 : decode prog_9_method_2_code 4 = .ok (.arraylength, 1) := by decide +kernel
theorem d_Tap_roomLeft_5 : decode prog_9_method_2_code 5 = .ok (.aload_n 0, 1) := by decide +kernel
theorem d_Tap_roomLeft_6 : decode prog_9_method_2_code 6 = .ok (.getfield 15, 3) := by decide +kernel
theorem d_Tap_roomLeft_9 : decode prog_9_method_2_code 9 = .ok (.isub, 1) := by decide +kernel
theorem d_Tap_roomLeft_10 : decode prog_9_method_2_code 10 = .ok (.ireturn, 1) := by decide +kernel
theorem d_Tap_add_0 : decode prog_9_method_3_code 0 = .ok (.iconst 0, 1) := by decide +kernel
theorem d_Tap_add_1 : decode prog_9_method_3_code 1 = .ok (.istore 4, 2) := by decide +kernel
theorem d_Tap_add_3 : decode prog_9_method_3_code 3 = .ok (.iload 4, 2) := by decide +kernel
theorem d_Tap_add_5 : decode prog_9_method_3_code 5 = .ok (.iload_n 1, 1) := by decide +kernel
theorem d_Tap_add_6 : decode prog_9_method_3_code 6 = .ok (.if_icmp .ge 59, 3) := by decide +kernel
theorem d_Tap_add_9 : decode prog_9_method_3_code 9 = .ok (.aload_n 0, 1) := by decide +kernel
theorem d_Tap_add_10 : decode prog_9_method_3_code 10 = .ok (.getfield 15, 3) := by decide +kernel
theorem d_Tap_add_13 : decode prog_9_method_3_code 13 = .ok (.ifCond .lt 52, 3) := by decide +kernel
theorem d_Tap_add_16 : decode prog_9_method_3_code 16 = .ok (.aload_n 0, 1) := by decide +kernel
theorem d_Tap_add_17 : decode prog_9_method_3_code 17 = .ok (.getfield 15, 3) := by decide +kernel
theorem d_Tap_add_20 : decode prog_9_method_3_code 20 = .ok (.aload_n 0, 1) := by decide +kernel
theorem d_Tap_add_21 : decode prog_9_method_3_code 21 = .ok (.getfield 9, 3) := by decide +kernel
theorem d_Tap_add_24 : decode prog_9_method_3_code 24 = .ok (.arraylength, 1) := by decide +kernel
theorem d_Tap_add_25 : decode prog_9_method_3_code 25 = .ok (.if_icmp .ge 40, 3) := by decide +kernel
theorem d_Tap_add_28 : decode prog_9_method_3_code 28 = .ok (.aload_n 0, 1) := by decide +kernel
theorem d_Tap_add_29 : decode prog_9_method_3_code 29 = .ok (.getfield 9, 3) := by decide +kernel
theorem d_Tap_add_32 : decode prog_9_method_3_code 32 = .ok (.aload_n 0, 1) := by decide +kernel
theorem d_Tap_add_33 : decode prog_9_method_3_code 33 = .ok (.getfield 15, 3) := by decide +kernel
theorem d_Tap_add_36 : decode prog_9_method_3_code 36 = .ok (.lload_n 2, 1) := by decide +kernel
theorem d_Tap_add_37 : decode prog_9_method_3_code 37 = .ok (.bipush 8, 2) := by decide +kernel
theorem d_Tap_add_39 : decode prog_9_method_3_code 39 = .ok (.iload 4, 2) := by decide +kernel
theorem d_Tap_add_41 : decode prog_9_method_3_code 41 = .ok (.imul, 1) := by decide +kernel
theorem d_Tap_add_42 : decode prog_9_method_3_code 42 = .ok (.lushr, 1) := by decide +kernel
theorem d_Tap_add_43 : decode prog_9_method_3_code 43 = .ok (.ldc2_w 19, 3) := by decide +kernel
theorem d_Tap_add_46 : decode prog_9_method_3_code 46 = .ok (.land, 1) := by decide +kernel
theorem d_Tap_add_47 : decode prog_9_method_3_code 47 = .ok (.l2i, 1) := by decide +kernel
theorem d_Tap_add_48 : decode prog_9_method_3_code 48 = .ok (.iastore, 1) := by decide +kernel
theorem d_Tap_add_49 : decode prog_9_method_3_code 49 = .ok (.aload_n 0, 1) := by decide +kernel
theorem d_Tap_add_50 : decode prog_9_method_3_code 50 = .ok (.dup, 1) := by decide +kernel
theorem d_Tap_add_51 : decode prog_9_method_3_code 51 = .ok (.getfield 15, 3) := by decide +kernel
theorem d_Tap_add_54 : decode prog_9_method_3_code 54 = .ok (.iconst 1, 1) := by decide +kernel
theorem d_Tap_add_55 : decode prog_9_method_3_code 55 = .ok (.iadd, 1) := by decide +kernel
theorem d_Tap_add_56 : decode prog_9_method_3_code 56 = .ok (.putfield 15, 3) := by decide +kernel
theorem d_Tap_add_59 : decode prog_9_method_3_code 59 = .ok (.iinc 4 1, 3) := by decide +kernel
theorem d_Tap_add_62 : decode prog_9_method_3_code 62 = .ok (.goto (-59), 3) := by decide +kernel
theorem d_Tap_add_65 : decode prog_9_method_3_code 65 = .ok (.return_, 1) := by decide +kernel
theorem d_Tap_clear_0 : decode prog_9_method_4_code 0 = .ok (.aload_n 0, 1) := by decide +kernel
theorem d_Tap_clear_1 : decode prog_9_method_4_code 1 = .ok (.iconst 0, 1) := by decide +kernel
theorem d_Tap_clear_2 : decode prog_9_method_4_code 2 = .ok (.putfield 15, 3) := by decide +kernel
theorem d_Tap_clear_5 : decode prog_9_method_4_code 5 = .ok (.return_, 1) := by decide +kernel
theorem d_Tap_read_0 : decode prog_9_method_5_code 0 = .ok (.aload_n 0, 1) := by decide +kernel
theorem d_Tap_read_1 : decode prog_9_method_5_code 1 = .ok (.iconst 0, 1) := by decide +kernel
theorem d_Tap_read_2 : decode prog_9_method_5_code 2 = .ok (.putfield 21, 3) := by decide +kernel
theorem d_Tap_read_5 : decode prog_9_method_5_code 5 = .ok (.aload_n 0, 1) := by decide +kernel
theorem d_Tap_read_6 : decode prog_9_method_5_code 6 = .ok (.invokevirtual 24, 3) := by decide +kernel
theorem d_Tap_read_9 : decode prog_9_method_5_code 9 = .ok (.ifCond .eq 42, 3) := by decide +kernel
theorem d_Tap_read_12 : decode prog_9_method_5_code 12 = .ok (.aload_n 0, 1) := by decide +kernel
theorem d_Tap_read_13 : decode prog_9_method_5_code 13 = .ok (.invokevirtual 28, 3) := by decide +kernel
theorem d_Tap_read_16 : decode prog_9_method_5_code 16 = .ok (.ifCond .eq 35, 3) := by decide +kernel
theorem d_Tap_read_19 : decode prog_9_method_5_code 19 = .ok (.aload_n 0, 1) := by decide +kernel
theorem d_Tap_read_20 : decode prog_9_method_5_code 20 = .ok (.invokevirtual 31, 3) := by decide +kernel
theorem d_Tap_read_23 : decode prog_9_method_5_code 23 = .ok (.ifCond .eq 28, 3) := by decide +kernel
theorem d_Tap_read_26 : decode prog_9_method_5_code 26 = .ok (.aload_n 0, 1) := by decide +kernel
theorem d_Tap_read_27 : decode prog_9_method_5_code 27 = .ok (.invokevirtual 34, 3) := by decide +kernel
theorem d_Tap_read_30 : decode prog_9_method_5_code 30 = .ok (.ifCond .eq 21, 3) := by decide +kernel
theorem d_Tap_read_33 : decode prog_9_method_5_code 33 = .ok (.aload_n 0, 1) := by decide +kernel
theorem d_Tap_read_34 : decode prog_9_method_5_code 34 = .ok (.invokevirtual 37, 3) := by decide +kernel
theorem d_Tap_read_37 : decode prog_9_method_5_code 37 = .ok (.ifCond .eq 14, 3) := by decide +kernel
theorem d_Tap_read_40 : decode prog_9_method_5_code 40 = .ok (.aload_n 0, 1) := by decide +kernel
theorem d_Tap_read_41 : decode prog_9_method_5_code 41 = .ok (.invokevirtual 40, 3) := by decide +kernel
theorem d_Tap_read_44 : decode prog_9_method_5_code 44 = .ok (.ifCond .eq 7, 3) := by decide +kernel
theorem d_Tap_read_47 : decode prog_9_method_5_code 47 = .ok (.iconst 1, 1) := by decide +kernel
theorem d_Tap_read_48 : decode prog_9_method_5_code 48 = .ok (.goto 4, 3) := by decide +kernel
theorem d_Tap_read_51 : decode prog_9_method_5_code 51 = .ok (.iconst 0, 1) := by decide +kernel
theorem d_Tap_read_52 : decode prog_9_method_5_code 52 = .ok (.ireturn, 1) := by decide +kernel
theorem d_Tap_newTelling_0 : decode prog_9_method_6_code 0 = .ok (.aload_n 0, 1) := by decide +kernel
theorem d_Tap_newTelling_1 : decode prog_9_method_6_code 1 = .ok (.getfield 43, 3) := by decide +kernel
theorem d_Tap_newTelling_4 : decode prog_9_method_6_code 4 = .ok (.ifCond .eq 12, 3) := by decide +kernel
theorem d_Tap_newTelling_7 : decode prog_9_method_6_code 7 = .ok (.new 47, 3) := by decide +kernel
theorem d_Tap_newTelling_10 : decode prog_9_method_6_code 10 = .ok (.dup, 1) := by decide +kernel
theorem d_Tap_newTelling_11 : decode prog_9_method_6_code 11 = .ok (.aload_n 0, 1) := by decide +kernel
theorem d_Tap_newTelling_12 : decode prog_9_method_6_code 12 = .ok (.invokespecial 49, 3) := by decide +kernel
theorem d_Tap_newTelling_15 : decode prog_9_method_6_code 15 = .ok (.areturn, 1) := by decide +kernel
theorem d_Tap_newTelling_16 : decode prog_9_method_6_code 16 = .ok (.aload_n 0, 1) := by decide +kernel
theorem d_Tap_newTelling_17 : decode prog_9_method_6_code 17 = .ok (.getfield 52, 3) := by decide +kernel
theorem d_Tap_newTelling_20 : decode prog_9_method_6_code 20 = .ok (.iconst 5, 1) := by decide +kernel
theorem d_Tap_newTelling_21 : decode prog_9_method_6_code 21 = .ok (.invokestatic 55, 3) := by decide +kernel
theorem d_Tap_newTelling_24 : decode prog_9_method_6_code 24 = .ok (.ifCond .eq 24, 3) := by decide +kernel
theorem d_Tap_newTelling_27 : decode prog_9_method_6_code 27 = .ok (.aload_n 0, 1) := by decide +kernel
theorem d_Tap_newTelling_28 : decode prog_9_method_6_code 28 = .ok (.getfield 52, 3) := by decide +kernel
theorem d_Tap_newTelling_31 : decode prog_9_method_6_code 31 = .ok (.bipush 6, 2) := by decide +kernel
theorem d_Tap_newTelling_33 : decode prog_9_method_6_code 33 = .ok (.invokestatic 55, 3) := by decide +kernel
theorem d_Tap_newTelling_36 : decode prog_9_method_6_code 36 = .ok (.ifCond .ne 12, 3) := by decide +kernel
theorem d_Tap_newTelling_39 : decode prog_9_method_6_code 39 = .ok (.new 59, 3) := by decide +kernel
theorem d_Tap_newTelling_42 : decode prog_9_method_6_code 42 = .ok (.dup, 1) := by decide +kernel
theorem d_Tap_newTelling_43 : decode prog_9_method_6_code 43 = .ok (.aload_n 0, 1) := by decide +kernel
theorem d_Tap_newTelling_44 : decode prog_9_method_6_code 44 = .ok (.invokespecial 61, 3) := by decide +kernel
theorem d_Tap_newTelling_47 : decode prog_9_method_6_code 47 = .ok (.areturn, 1) := by decide +kernel
theorem d_Tap_newTelling_48 : decode prog_9_method_6_code 48 = .ok (.aload_n 0, 1) := by decide +kernel
theorem d_Tap_newTelling_49 : decode prog_9_method_6_code 49 = .ok (.getfield 52, 3) := by decide +kernel
theorem d_Tap_newTelling_52 : decode prog_9_method_6_code 52 = .ok (.iconst 3, 1) := by decide +kernel
theorem d_Tap_newTelling_53 : decode prog_9_method_6_code 53 = .ok (.invokestatic 55, 3) := by decide +kernel
theorem d_Tap_newTelling_56 : decode prog_9_method_6_code 56 = .ok (.ifCond .eq 23, 3) := by decide +kernel
theorem d_Tap_newTelling_59 : decode prog_9_method_6_code 59 = .ok (.aload_n 0, 1) := by decide +kernel
theorem d_Tap_newTelling_60 : decode prog_9_method_6_code 60 = .ok (.getfield 52, 3) := by decide +kernel
theorem d_Tap_newTelling_63 : decode prog_9_method_6_code 63 = .ok (.iconst 4, 1) := by decide +kernel
theorem d_Tap_newTelling_64 : decode prog_9_method_6_code 64 = .ok (.invokestatic 55, 3) := by decide +kernel
theorem d_Tap_newTelling_67 : decode prog_9_method_6_code 67 = .ok (.ifCond .eq 12, 3) := by decide +kernel
theorem d_Tap_newTelling_70 : decode prog_9_method_6_code 70 = .ok (.new 62, 3) := by decide +kernel
theorem d_Tap_newTelling_73 : decode prog_9_method_6_code 73 = .ok (.dup, 1) := by decide +kernel
theorem d_Tap_newTelling_74 : decode prog_9_method_6_code 74 = .ok (.aload_n 0, 1) := by decide +kernel
theorem d_Tap_newTelling_75 : decode prog_9_method_6_code 75 = .ok (.invokespecial 64, 3) := by decide +kernel
theorem d_Tap_newTelling_78 : decode prog_9_method_6_code 78 = .ok (.areturn, 1) := by decide +kernel
theorem d_Tap_newTelling_79 : decode prog_9_method_6_code 79 = .ok (.aload_n 0, 1) := by decide +kernel
theorem d_Tap_newTelling_80 : decode prog_9_method_6_code 80 = .ok (.getfield 52, 3) := by decide +kernel
theorem d_Tap_newTelling_83 : decode prog_9_method_6_code 83 = .ok (.iconst 4, 1) := by decide +kernel
theorem d_Tap_newTelling_84 : decode prog_9_method_6_code 84 = .ok (.invokestatic 55, 3) := by decide +kernel
theorem d_Tap_newTelling_87 : decode prog_9_method_6_code 87 = .ok (.ifCond .eq 12, 3) := by decide +kernel
theorem d_Tap_newTelling_90 : decode prog_9_method_6_code 90 = .ok (.new 65, 3) := by decide +kernel
theorem d_Tap_newTelling_93 : decode prog_9_method_6_code 93 = .ok (.dup, 1) := by decide +kernel
theorem d_Tap_newTelling_94 : decode prog_9_method_6_code 94 = .ok (.aload_n 0, 1) := by decide +kernel
theorem d_Tap_newTelling_95 : decode prog_9_method_6_code 95 = .ok (.invokespecial 67, 3) := by decide +kernel
theorem d_Tap_newTelling_98 : decode prog_9_method_6_code 98 = .ok (.areturn, 1) := by decide +kernel
theorem d_Tap_newTelling_99 : decode prog_9_method_6_code 99 = .ok (.aload_n 0, 1) := by decide +kernel
theorem d_Tap_newTelling_100 : decode prog_9_method_6_code 100 = .ok (.getfield 68, 3) := by decide +kernel
theorem d_Tap_newTelling_103 : decode prog_9_method_6_code 103 = .ok (.bipush 20, 2) := by decide +kernel
theorem d_Tap_newTelling_105 : decode prog_9_method_6_code 105 = .ok (.if_icmp .lt 14, 3) := by decide +kernel
theorem d_Tap_newTelling_108 : decode prog_9_method_6_code 108 = .ok (.new 71, 3) := by decide +kernel
theorem d_Tap_newTelling_111 : decode prog_9_method_6_code 111 = .ok (.dup, 1) := by decide +kernel
theorem d_Tap_newTelling_112 : decode prog_9_method_6_code 112 = .ok (.aload_n 0, 1) := by decide +kernel
theorem d_Tap_newTelling_113 : decode prog_9_method_6_code 113 = .ok (.invokespecial 73, 3) := by decide +kernel
theorem d_Tap_newTelling_116 : decode prog_9_method_6_code 116 = .ok (.goto 11, 3) := by decide +kernel
theorem d_Tap_newTelling_119 : decode prog_9_method_6_code 119 = .ok (.new 74, 3) := by decide +kernel
theorem d_Tap_newTelling_122 : decode prog_9_method_6_code 122 = .ok (.dup, 1) := by decide +kernel
theorem d_Tap_newTelling_123 : decode prog_9_method_6_code 123 = .ok (.aload_n 0, 1) := by decide +kernel
theorem d_Tap_newTelling_124 : decode prog_9_method_6_code 124 = .ok (.invokespecial 76, 3) := by decide +kernel
theorem d_Tap_newTelling_127 : decode prog_9_method_6_code 127 = .ok (.areturn, 1) := by decide +kernel
theorem d_Tap_byteHere_0 : decode prog_9_method_7_code 0 = .ok (.aload_n 0, 1) := by decide +kernel
theorem d_Tap_byteHere_1 : decode prog_9_method_7_code 1 = .ok (.getfield 21, 3) := by decide +kernel
theorem d_Tap_byteHere_4 : decode prog_9_method_7_code 4 = .ok (.ifCond .lt 38, 3) := by decide +kernel
theorem d_Tap_byteHere_7 : decode prog_9_method_7_code 7 = .ok (.aload_n 0, 1) := by decide +kernel
theorem d_Tap_byteHere_8 : decode prog_9_method_7_code 8 = .ok (.getfield 21, 3) := by decide +kernel
theorem d_Tap_byteHere_11 : decode prog_9_method_7_code 11 = .ok (.aload_n 0, 1) := by decide +kernel
theorem d_Tap_byteHere_12 : decode prog_9_method_7_code 12 = .ok (.getfield 15, 3) := by decide +kernel
theorem d_Tap_byteHere_15 : decode prog_9_method_7_code 15 = .ok (.if_icmp .ge 27, 3) := by decide +kernel
theorem d_Tap_byteHere_18 : decode prog_9_method_7_code 18 = .ok (.aload_n 0, 1) := by decide +kernel
theorem d_Tap_byteHere_19 : decode prog_9_method_7_code 19 = .ok (.getfield 21, 3) := by decide +kernel
theorem d_Tap_byteHere_22 : decode prog_9_method_7_code 22 = .ok (.aload_n 0, 1) := by decide +kernel
theorem d_Tap_byteHere_23 : decode prog_9_method_7_code 23 = .ok (.getfield 9, 3) := by decide +kernel
theorem d_Tap_byteHere_26 : decode prog_9_method_7_code 26 = .ok (.arraylength, 1) := by decide +kernel
theorem d_Tap_byteHere_27 : decode prog_9_method_7_code 27 = .ok (.if_icmp .ge 15, 3) := by decide +kernel
theorem d_Tap_byteHere_30 : decode prog_9_method_7_code 30 = .ok (.aload_n 0, 1) := by decide +kernel
theorem d_Tap_byteHere_31 : decode prog_9_method_7_code 31 = .ok (.getfield 9, 3) := by decide +kernel
theorem d_Tap_byteHere_34 : decode prog_9_method_7_code 34 = .ok (.aload_n 0, 1) := by decide +kernel
theorem d_Tap_byteHere_35 : decode prog_9_method_7_code 35 = .ok (.getfield 21, 3) := by decide +kernel
theorem d_Tap_byteHere_38 : decode prog_9_method_7_code 38 = .ok (.iaload, 1) := by decide +kernel
theorem d_Tap_byteHere_39 : decode prog_9_method_7_code 39 = .ok (.goto 4, 3) := by decide +kernel
theorem d_Tap_byteHere_42 : decode prog_9_method_7_code 42 = .ok (.iconst (-1), 1) := by decide +kernel
theorem d_Tap_byteHere_43 : decode prog_9_method_7_code 43 = .ok (.ireturn, 1) := by decide +kernel
theorem d_Tap_passes_0 : decode prog_9_method_8_code 0 = .ok (.aload_n 0, 1) := by decide +kernel
theorem d_Tap_passes_1 : decode prog_9_method_8_code 1 = .ok (.invokevirtual 77, 3) := by decide +kernel
theorem d_Tap_passes_4 : decode prog_9_method_8_code 4 = .ok (.iload_n 1, 1) := by decide +kernel
theorem d_Tap_passes_5 : decode prog_9_method_8_code 5 = .ok (.if_icmp .eq 5, 3) := by decide +kernel
theorem d_Tap_passes_8 : decode prog_9_method_8_code 8 = .ok (.iconst 0, 1) := by decide +kernel
theorem d_Tap_passes_9 : decode prog_9_method_8_code 9 = .ok (.ireturn, 1) := by decide +kernel
theorem d_Tap_passes_10 : decode prog_9_method_8_code 10 = .ok (.aload_n 0, 1) := by decide +kernel
theorem d_Tap_passes_11 : decode prog_9_method_8_code 11 = .ok (.dup, 1) := by decide +kernel
theorem d_Tap_passes_12 : decode prog_9_method_8_code 12 = .ok (.getfield 21, 3) := by decide +kernel
theorem d_Tap_passes_15 : decode prog_9_method_8_code 15 = .ok (.iconst 1, 1) := by decide +kernel
theorem d_Tap_passes_16 : decode prog_9_method_8_code 16 = .ok (.iadd, 1) := by decide +kernel
theorem d_Tap_passes_17 : decode prog_9_method_8_code 17 = .ok (.putfield 21, 3) := by decide +kernel
theorem d_Tap_passes_20 : decode prog_9_method_8_code 20 = .ok (.iconst 1, 1) := by decide +kernel
theorem d_Tap_passes_21 : decode prog_9_method_8_code 21 = .ok (.ireturn, 1) := by decide +kernel
theorem d_Tap_digitHere_0 : decode prog_9_method_9_code 0 = .ok (.aload_n 0, 1) := by decide +kernel
theorem d_Tap_digitHere_1 : decode prog_9_method_9_code 1 = .ok (.invokevirtual 77, 3) := by decide +kernel
theorem d_Tap_digitHere_4 : decode prog_9_method_9_code 4 = .ok (.bipush 48, 2) := by decide +kernel
theorem d_Tap_digitHere_6 : decode prog_9_method_9_code 6 = .ok (.if_icmp .lt 16, 3) := by decide +kernel
theorem d_Tap_digitHere_9 : decode prog_9_method_9_code 9 = .ok (.aload_n 0, 1) := by decide +kernel
theorem d_Tap_digitHere_10 : decode prog_9_method_9_code 10 = .ok (.invokevirtual 77, 3) := by decide +kernel
theorem d_Tap_digitHere_13 : decode prog_9_method_9_code 13 = .ok (.bipush 57, 2) := by decide +kernel
theorem d_Tap_digitHere_15 : decode prog_9_method_9_code 15 = .ok (.if_icmp .gt 7, 3) := by decide +kernel
theorem d_Tap_digitHere_18 : decode prog_9_method_9_code 18 = .ok (.iconst 1, 1) := by decide +kernel
theorem d_Tap_digitHere_19 : decode prog_9_method_9_code 19 = .ok (.goto 4, 3) := by decide +kernel
theorem d_Tap_digitHere_22 : decode prog_9_method_9_code 22 = .ok (.iconst 0, 1) := by decide +kernel
theorem d_Tap_digitHere_23 : decode prog_9_method_9_code 23 = .ok (.ireturn, 1) := by decide +kernel
theorem d_Tap_readNumber_0 : decode prog_9_method_10_code 0 = .ok (.aload_n 0, 1) := by decide +kernel
theorem d_Tap_readNumber_1 : decode prog_9_method_10_code 1 = .ok (.invokevirtual 81, 3) := by decide +kernel
theorem d_Tap_readNumber_4 : decode prog_9_method_10_code 4 = .ok (.ifCond .ne 6, 3) := by decide +kernel
theorem d_Tap_readNumber_7 : decode prog_9_method_10_code 7 = .ok (.bipush (-9), 2) := by decide +kernel
theorem d_Tap_readNumber_9 : decode prog_9_method_10_code 9 = .ok (.ireturn, 1) := by decide +kernel
theorem d_Tap_readNumber_10 : decode prog_9_method_10_code 10 = .ok (.iconst 0, 1) := by decide +kernel
theorem d_Tap_readNumber_11 : decode prog_9_method_10_code 11 = .ok (.istore_n 2, 1) := by decide +kernel
theorem d_Tap_readNumber_12 : decode prog_9_method_10_code 12 = .ok (.iconst 0, 1) := by decide +kernel
theorem d_Tap_readNumber_13 : decode prog_9_method_10_code 13 = .ok (.istore_n 3, 1) := by decide +kernel
theorem d_Tap_readNumber_14 : decode prog_9_method_10_code 14 = .ok (.iload_n 3, 1) := by decide +kernel
theorem d_Tap_readNumber_15 : decode prog_9_method_10_code 15 = .ok (.iload_n 1, 1) := by decide +kernel
theorem d_Tap_readNumber_16 : decode prog_9_method_10_code 16 = .ok (.if_icmp .ge 39, 3) := by decide +kernel
theorem d_Tap_readNumber_19 : decode prog_9_method_10_code 19 = .ok (.aload_n 0, 1) := by decide +kernel
theorem d_Tap_readNumber_20 : decode prog_9_method_10_code 20 = .ok (.invokevirtual 81, 3) := by decide +kernel
theorem d_Tap_readNumber_23 : decode prog_9_method_10_code 23 = .ok (.ifCond .eq 32, 3) := by decide +kernel
theorem d_Tap_readNumber_26 : decode prog_9_method_10_code 26 = .ok (.bipush 10, 2) := by decide +kernel
theorem d_Tap_readNumber_28 : decode prog_9_method_10_code 28 = .ok (.iload_n 2, 1) := by decide +kernel
theorem d_Tap_readNumber_29 : decode prog_9_method_10_code 29 = .ok (.imul, 1) := by decide +kernel
theorem d_Tap_readNumber_30 : decode prog_9_method_10_code 30 = .ok (.aload_n 0, 1) := by decide +kernel
theorem d_Tap_readNumber_31 : decode prog_9_method_10_code 31 = .ok (.invokevirtual 77, 3) := by decide +kernel
theorem d_Tap_readNumber_34 : decode prog_9_method_10_code 34 = .ok (.iadd, 1) := by decide +kernel
theorem d_Tap_readNumber_35 : decode prog_9_method_10_code 35 = .ok (.bipush 48, 2) := by decide +kernel
theorem d_Tap_readNumber_37 : decode prog_9_method_10_code 37 = .ok (.isub, 1) := by decide +kernel
theorem d_Tap_readNumber_38 : decode prog_9_method_10_code 38 = .ok (.istore_n 2, 1) := by decide +kernel
theorem d_Tap_readNumber_39 : decode prog_9_method_10_code 39 = .ok (.aload_n 0, 1) := by decide +kernel
theorem d_Tap_readNumber_40 : decode prog_9_method_10_code 40 = .ok (.dup, 1) := by decide +kernel
theorem d_Tap_readNumber_41 : decode prog_9_method_10_code 41 = .ok (.getfield 21, 3) := by decide +kernel
theorem d_Tap_readNumber_44 : decode prog_9_method_10_code 44 = .ok (.iconst 1, 1) := by decide +kernel
theorem d_Tap_readNumber_45 : decode prog_9_method_10_code 45 = .ok (.iadd, 1) := by decide +kernel
theorem d_Tap_readNumber_46 : decode prog_9_method_10_code 46 = .ok (.putfield 21, 3) := by decide +kernel
theorem d_Tap_readNumber_49 : decode prog_9_method_10_code 49 = .ok (.iinc 3 1, 3) := by decide +kernel
theorem d_Tap_readNumber_52 : decode prog_9_method_10_code 52 = .ok (.goto (-38), 3) := by decide +kernel
theorem d_Tap_readNumber_55 : decode prog_9_method_10_code 55 = .ok (.iload_n 2, 1) := by decide +kernel
theorem d_Tap_readNumber_56 : decode prog_9_method_10_code 56 = .ok (.ireturn, 1) := by decide +kernel
theorem d_Tap_readSize_0 : decode prog_9_method_11_code 0 = .ok (.aload_n 0, 1) := by decide +kernel
theorem d_Tap_readSize_1 : decode prog_9_method_11_code 1 = .ok (.bipush (-9), 2) := by decide +kernel
theorem d_Tap_readSize_3 : decode prog_9_method_11_code 3 = .ok (.putfield 84, 3) := by decide +kernel
theorem d_Tap_readSize_6 : decode prog_9_method_11_code 6 = .ok (.aload_n 0, 1) := by decide +kernel
theorem d_Tap_readSize_7 : decode prog_9_method_11_code 7 = .ok (.bipush 115, 2) := by decide +kernel
theorem d_Tap_readSize_9 : decode prog_9_method_11_code 9 = .ok (.invokevirtual 87, 3) := by decide +kernel
theorem d_Tap_readSize_12 : decode prog_9_method_11_code 12 = .ok (.ifCond .ne 5, 3) := by decide +kernel
theorem d_Tap_readSize_15 : decode prog_9_method_11_code 15 = .ok (.iconst 1, 1) := by decide +kernel
theorem d_Tap_readSize_16 : decode prog_9_method_11_code 16 = .ok (.ireturn, 1) := by decide +kernel
theorem d_Tap_readSize_17 : decode prog_9_method_11_code 17 = .ok (.aload_n 0, 1) := by decide +kernel
theorem d_Tap_readSize_18 : decode prog_9_method_11_code 18 = .ok (.aload_n 0, 1) := by decide +kernel
theorem d_Tap_readSize_19 : decode prog_9_method_11_code 19 = .ok (.iconst 3, 1) := by decide +kernel
theorem d_Tap_readSize_20 : decode prog_9_method_11_code 20 = .ok (.invokevirtual 91, 3) := by decide +kernel
theorem d_Tap_readSize_23 : decode prog_9_method_11_code 23 = .ok (.putfield 84, 3) := by decide +kernel
theorem d_Tap_readSize_26 : decode prog_9_method_11_code 26 = .ok (.aload_n 0, 1) := by decide +kernel
theorem d_Tap_readSize_27 : decode prog_9_method_11_code 27 = .ok (.getfield 84, 3) := by decide +kernel
theorem d_Tap_readSize_30 : decode prog_9_method_11_code 30 = .ok (.bipush (-9), 2) := by decide +kernel
theorem d_Tap_readSize_32 : decode prog_9_method_11_code 32 = .ok (.if_icmp .eq 7, 3) := by decide +kernel
theorem d_Tap_readSize_35 : decode prog_9_method_11_code 35 = .ok (.iconst 1, 1) := by decide +kernel
theorem d_Tap_readSize_36 : decode prog_9_method_11_code 36 = .ok (.goto 4, 3) := by decide +kernel
theorem d_Tap_readSize_39 : decode prog_9_method_11_code 39 = .ok (.iconst 0, 1) := by decide +kernel
theorem d_Tap_readSize_40 : decode prog_9_method_11_code 40 = .ok (.ireturn, 1) := by decide +kernel
theorem d_Tap_readSeconds_0 : decode prog_9_method_12_code 0 = .ok (.aload_n 0, 1) := by decide +kernel
theorem d_Tap_readSeconds_1 : decode prog_9_method_12_code 1 = .ok (.bipush (-9), 2) := by decide +kernel
theorem d_Tap_readSeconds_3 : decode prog_9_method_12_code 3 = .ok (.putfield 95, 3) := by decide +kernel
theorem d_Tap_readSeconds_6 : decode prog_9_method_12_code 6 = .ok (.aload_n 0, 1) := by decide +kernel
theorem d_Tap_readSeconds_7 : decode prog_9_method_12_code 7 = .ok (.bipush 116, 2) := by decide +kernel
theorem d_Tap_readSeconds_9 : decode prog_9_method_12_code 9 = .ok (.invokevirtual 87, 3) := by decide +kernel
theorem d_Tap_readSeconds_12 : decode prog_9_method_12_code 12 = .ok (.ifCond .ne 5, 3) := by decide +kernel
theorem d_Tap_readSeconds_15 : decode prog_9_method_12_code 15 = .ok (.iconst 1, 1) := by decide +kernel
theorem d_Tap_readSeconds_16 : decode prog_9_method_12_code 16 = .ok (.ireturn, 1) := by decide +kernel
theorem d_Tap_readSeconds_17 : decode prog_9_method_12_code 17 = .ok (.aload_n 0, 1) := by decide +kernel
theorem d_Tap_readSeconds_18 : decode prog_9_method_12_code 18 = .ok (.aload_n 0, 1) := by decide +kernel
theorem d_Tap_readSeconds_19 : decode prog_9_method_12_code 19 = .ok (.iconst 3, 1) := by decide +kernel
theorem d_Tap_readSeconds_20 : decode prog_9_method_12_code 20 = .ok (.invokevirtual 91, 3) := by decide +kernel
theorem d_Tap_readSeconds_23 : decode prog_9_method_12_code 23 = .ok (.putfield 95, 3) := by decide +kernel
theorem d_Tap_readSeconds_26 : decode prog_9_method_12_code 26 = .ok (.aload_n 0, 1) := by decide +kernel
theorem d_Tap_readSeconds_27 : decode prog_9_method_12_code 27 = .ok (.getfield 95, 3) := by decide +kernel
theorem d_Tap_readSeconds_30 : decode prog_9_method_12_code 30 = .ok (.bipush (-9), 2) := by decide +kernel
theorem d_Tap_readSeconds_32 : decode prog_9_method_12_code 32 = .ok (.if_icmp .eq 7, 3) := by decide +kernel
theorem d_Tap_readSeconds_35 : decode prog_9_method_12_code 35 = .ok (.iconst 1, 1) := by decide +kernel
theorem d_Tap_readSeconds_36 : decode prog_9_method_12_code 36 = .ok (.goto 4, 3) := by decide +kernel
theorem d_Tap_readSeconds_39 : decode prog_9_method_12_code 39 = .ok (.iconst 0, 1) := by decide +kernel
theorem d_Tap_readSeconds_40 : decode prog_9_method_12_code 40 = .ok (.ireturn, 1) := by decide +kernel
theorem d_Tap_readColour_0 : decode prog_9_method_13_code 0 = .ok (.aload_n 0, 1) := by decide +kernel
theorem d_Tap_readColour_1 : decode prog_9_method_13_code 1 = .ok (.bipush (-9), 2) := by decide +kernel
theorem d_Tap_readColour_3 : decode prog_9_method_13_code 3 = .ok (.putfield 98, 3) := by decide +kernel
theorem d_Tap_readColour_6 : decode prog_9_method_13_code 6 = .ok (.aload_n 0, 1) := by decide +kernel
theorem d_Tap_readColour_7 : decode prog_9_method_13_code 7 = .ok (.bipush 99, 2) := by decide +kernel
theorem d_Tap_readColour_9 : decode prog_9_method_13_code 9 = .ok (.invokevirtual 87, 3) := by decide +kernel
theorem d_Tap_readColour_12 : decode prog_9_method_13_code 12 = .ok (.ifCond .ne 5, 3) := by decide +kernel
theorem d_Tap_readColour_15 : decode prog_9_method_13_code 15 = .ok (.iconst 1, 1) := by decide +kernel
theorem d_Tap_readColour_16 : decode prog_9_method_13_code 16 = .ok (.ireturn, 1) := by decide +kernel
theorem d_Tap_readColour_17 : decode prog_9_method_13_code 17 = .ok (.aload_n 0, 1) := by decide +kernel
theorem d_Tap_readColour_18 : decode prog_9_method_13_code 18 = .ok (.invokevirtual 77, 3) := by decide +kernel
theorem d_Tap_readColour_21 : decode prog_9_method_13_code 21 = .ok (.bipush 48, 2) := by decide +kernel
theorem d_Tap_readColour_23 : decode prog_9_method_13_code 23 = .ok (.if_icmp .lt 12, 3) := by decide +kernel
theorem d_Tap_readColour_26 : decode prog_9_method_13_code 26 = .ok (.aload_n 0, 1) := by decide +kernel
theorem d_Tap_readColour_27 : decode prog_9_method_13_code 27 = .ok (.invokevirtual 77, 3) := by decide +kernel
theorem d_Tap_readColour_30 : decode prog_9_method_13_code 30 = .ok (.bipush 55, 2) := by decide +kernel
theorem d_Tap_readColour_32 : decode prog_9_method_13_code 32 = .ok (.if_icmp .le 5, 3) := by decide +kernel
theorem d_Tap_readColour_35 : decode prog_9_method_13_code 35 = .ok (.iconst 0, 1) := by decide +kernel
theorem d_Tap_readColour_36 : decode prog_9_method_13_code 36 = .ok (.ireturn, 1) := by decide +kernel
theorem d_Tap_readColour_37 : decode prog_9_method_13_code 37 = .ok (.aload_n 0, 1) := by decide +kernel
theorem d_Tap_readColour_38 : decode prog_9_method_13_code 38 = .ok (.aload_n 0, 1) := by decide +kernel
theorem d_Tap_readColour_39 : decode prog_9_method_13_code 39 = .ok (.iconst 1, 1) := by decide +kernel
theorem d_Tap_readColour_40 : decode prog_9_method_13_code 40 = .ok (.invokevirtual 91, 3) := by decide +kernel
theorem d_Tap_readColour_43 : decode prog_9_method_13_code 43 = .ok (.putfield 98, 3) := by decide +kernel
theorem d_Tap_readColour_46 : decode prog_9_method_13_code 46 = .ok (.iconst 1, 1) := by decide +kernel
theorem d_Tap_readColour_47 : decode prog_9_method_13_code 47 = .ok (.ireturn, 1) := by decide +kernel
theorem d_Tap_readMarks_0 : decode prog_9_method_14_code 0 = .ok (.aload_n 0, 1) := by decide +kernel
theorem d_Tap_readMarks_1 : decode prog_9_method_14_code 1 = .ok (.iconst 0, 1) := by decide +kernel
theorem d_Tap_readMarks_2 : decode prog_9_method_14_code 2 = .ok (.putfield 52, 3) := by decide +kernel
theorem d_Tap_readMarks_5 : decode prog_9_method_14_code 5 = .ok (.iconst 0, 1) := by decide +kernel
theorem d_Tap_readMarks_6 : decode prog_9_method_14_code 6 = .ok (.istore_n 1, 1) := by decide +kernel
theorem d_Tap_readMarks_7 : decode prog_9_method_14_code 7 = .ok (.iload_n 1, 1) := by decide +kernel
theorem d_Tap_readMarks_8 : decode prog_9_method_14_code 8 = .ok (.bipush 8, 2) := by decide +kernel
theorem d_Tap_readMarks_10 : decode prog_9_method_14_code 10 = .ok (.if_icmp .ge 43, 3) := by decide +kernel
theorem d_Tap_readMarks_13 : decode prog_9_method_14_code 13 = .ok (.iload_n 1, 1) := by decide +kernel
theorem d_Tap_readMarks_14 : decode prog_9_method_14_code 14 = .ok (.ldc 101, 2) := by decide +kernel
theorem d_Tap_readMarks_16 : decode prog_9_method_14_code 16 = .ok (.invokevirtual 103, 3) := by decide +kernel
theorem d_Tap_readMarks_19 : decode prog_9_method_14_code 19 = .ok (.if_icmp .ge 34, 3) := by decide +kernel
theorem d_Tap_readMarks_22 : decode prog_9_method_14_code 22 = .ok (.aload_n 0, 1) := by decide +kernel
theorem d_Tap_readMarks_23 : decode prog_9_method_14_code 23 = .ok (.ldc 101, 2) := by decide +kernel
theorem d_Tap_readMarks_25 : decode prog_9_method_14_code 25 = .ok (.iload_n 1, 1) := by decide +kernel
theorem d_Tap_readMarks_26 : decode prog_9_method_14_code 26 = .ok (.invokevirtual 107, 3) := by decide +kernel
theorem d_Tap_readMarks_29 : decode prog_9_method_14_code 29 = .ok (.invokevirtual 87, 3) := by decide +kernel
theorem d_Tap_readMarks_32 : decode prog_9_method_14_code 32 = .ok (.ifCond .eq 15, 3) := by decide +kernel
theorem d_Tap_readMarks_35 : decode prog_9_method_14_code 35 = .ok (.aload_n 0, 1) := by decide +kernel
theorem d_Tap_readMarks_36 : decode prog_9_method_14_code 36 = .ok (.dup, 1) := by decide +kernel
theorem d_Tap_readMarks_37 : decode prog_9_method_14_code 37 = .ok (.getfield 52, 3) := by decide +kernel
theorem d_Tap_readMarks_40 : decode prog_9_method_14_code 40 = .ok (.iconst 1, 1) := by decide +kernel
theorem d_Tap_readMarks_41 : decode prog_9_method_14_code 41 = .ok (.iload_n 1, 1) := by decide +kernel
theorem d_Tap_readMarks_42 : decode prog_9_method_14_code 42 = .ok (.ishl, 1) := by decide +kernel
theorem d_Tap_readMarks_43 : decode prog_9_method_14_code 43 = .ok (.ior, 1) := by decide +kernel
theorem d_Tap_readMarks_44 : decode prog_9_method_14_code 44 = .ok (.putfield 52, 3) := by decide +kernel
theorem d_Tap_readMarks_47 : decode prog_9_method_14_code 47 = .ok (.iinc 1 1, 3) := by decide +kernel
theorem d_Tap_readMarks_50 : decode prog_9_method_14_code 50 = .ok (.goto (-43), 3) := by decide +kernel
theorem d_Tap_readMarks_53 : decode prog_9_method_14_code 53 = .ok (.iconst 1, 1) := by decide +kernel
theorem d_Tap_readMarks_54 : decode prog_9_method_14_code 54 = .ok (.ireturn, 1) := by decide +kernel
theorem d_Tap_readYears_0 : decode prog_9_method_15_code 0 = .ok (.aload_n 0, 1) := by decide +kernel
theorem d_Tap_readYears_1 : decode prog_9_method_15_code 1 = .ok (.bipush 64, 2) := by decide +kernel
theorem d_Tap_readYears_3 : decode prog_9_method_15_code 3 = .ok (.invokevirtual 87, 3) := by decide +kernel
theorem d_Tap_readYears_6 : decode prog_9_method_15_code 6 = .ok (.ifCond .ne 5, 3) := by decide +kernel
theorem d_Tap_readYears_9 : decode prog_9_method_15_code 9 = .ok (.iconst 0, 1) := by decide +kernel
theorem d_Tap_readYears_10 : decode prog_9_method_15_code 10 = .ok (.ireturn, 1) := by decide +kernel
theorem d_Tap_readYears_11 : decode prog_9_method_15_code 11 = .ok (.aload_n 0, 1) := by decide +kernel
theorem d_Tap_readYears_12 : decode prog_9_method_15_code 12 = .ok (.aload_n 0, 1) := by decide +kernel
theorem d_Tap_readYears_13 : decode prog_9_method_15_code 13 = .ok (.iconst 2, 1) := by decide +kernel
theorem d_Tap_readYears_14 : decode prog_9_method_15_code 14 = .ok (.invokevirtual 91, 3) := by decide +kernel
theorem d_Tap_readYears_17 : decode prog_9_method_15_code 17 = .ok (.putfield 68, 3) := by decide +kernel
theorem d_Tap_readYears_20 : decode prog_9_method_15_code 20 = .ok (.aload_n 0, 1) := by decide +kernel
theorem d_Tap_readYears_21 : decode prog_9_method_15_code 21 = .ok (.getfield 68, 3) := by decide +kernel
theorem d_Tap_readYears_24 : decode prog_9_method_15_code 24 = .ok (.bipush (-9), 2) := by decide +kernel
theorem d_Tap_readYears_26 : decode prog_9_method_15_code 26 = .ok (.if_icmp .eq 7, 3) := by decide +kernel
theorem d_Tap_readYears_29 : decode prog_9_method_15_code 29 = .ok (.iconst 1, 1) := by decide +kernel
theorem d_Tap_readYears_30 : decode prog_9_method_15_code 30 = .ok (.goto 4, 3) := by decide +kernel
theorem d_Tap_readYears_33 : decode prog_9_method_15_code 33 = .ok (.iconst 0, 1) := by decide +kernel
theorem d_Tap_readYears_34 : decode prog_9_method_15_code 34 = .ok (.ireturn, 1) := by decide +kernel
theorem d_Tap_readAsked_0 : decode prog_9_method_16_code 0 = .ok (.aload_n 0, 1) := by decide +kernel
theorem d_Tap_readAsked_1 : decode prog_9_method_16_code 1 = .ok (.aload_n 0, 1) := by decide +kernel
theorem d_Tap_readAsked_2 : decode prog_9_method_16_code 2 = .ok (.bipush 63, 2) := by decide +kernel
theorem d_Tap_readAsked_4 : decode prog_9_method_16_code 4 = .ok (.invokevirtual 87, 3) := by decide +kernel
theorem d_Tap_readAsked_7 : decode prog_9_method_16_code 7 = .ok (.putfield 43, 3) := by decide +kernel
theorem d_Tap_readAsked_10 : decode prog_9_method_16_code 10 = .ok (.aload_n 0, 1) := by decide +kernel
theorem d_Tap_readAsked_11 : decode prog_9_method_16_code 11 = .ok (.invokevirtual 77, 3) := by decide +kernel
theorem d_Tap_readAsked_14 : decode prog_9_method_16_code 14 = .ok (.iconst (-1), 1) := by decide +kernel
theorem d_Tap_readAsked_15 : decode prog_9_method_16_code 15 = .ok (.if_icmp .ne 7, 3) := by decide +kernel
theorem d_Tap_readAsked_18 : decode prog_9_method_16_code 18 = .ok (.iconst 1, 1) := by decide +kernel
theorem d_Tap_readAsked_19 : decode prog_9_method_16_code 19 = .ok (.goto 4, 3) := by decide +kernel
theorem d_Tap_readAsked_22 : decode prog_9_method_16_code 22 = .ok (.iconst 0, 1) := by decide +kernel
theorem d_Tap_readAsked_23 : decode prog_9_method_16_code 23 = .ok (.ireturn, 1) := by decide +kernel
theorem d_Tel_init_0 : decode prog_10_method_1_code 0 = .ok (.aload_n 0, 1) := by decide +kernel
theorem d_Tel_init_1 : decode prog_10_method_1_code 1 = .ok (.invokespecial 3, 3) := by decide +kernel
theorem d_Tel_init_4 : decode prog_10_method_1_code 4 = .ok (.aload_n 0, 1) := by decide +kernel
theorem d_Tel_init_5 : decode prog_10_method_1_code 5 = .ok (.aload_n 1, 1) := by decide +kernel
theorem d_Tel_init_6 : decode prog_10_method_1_code 6 = .ok (.getfield 9, 3) := by decide +kernel
theorem d_Tel_init_9 : decode prog_10_method_1_code 9 = .ok (.putfield 15, 3) := by decide +kernel
theorem d_Tel_init_12 : decode prog_10_method_1_code 12 = .ok (.aload_n 0, 1) := by decide +kernel
theorem d_Tel_init_13 : decode prog_10_method_1_code 13 = .ok (.aload_n 1, 1) := by decide +kernel
theorem d_Tel_init_14 : decode prog_10_method_1_code 14 = .ok (.getfield 18, 3) := by decide +kernel
theorem d_Tel_init_17 : decode prog_10_method_1_code 17 = .ok (.putfield 21, 3) := by decide +kernel
theorem d_Tel_init_20 : decode prog_10_method_1_code 20 = .ok (.aload_n 0, 1) := by decide +kernel
theorem d_Tel_init_21 : decode prog_10_method_1_code 21 = .ok (.aload_n 1, 1) := by decide +kernel
theorem d_Tel_init_22 : decode prog_10_method_1_code 22 = .ok (.getfield 22, 3) := by decide +kernel
theorem d_Tel_init_25 : decode prog_10_method_1_code 25 = .ok (.putfield 25, 3) := by decide +kernel
theorem d_Tel_init_28 : decode prog_10_method_1_code 28 = .ok (.aload_n 0, 1) := by decide +kernel
theorem d_Tel_init_29 : decode prog_10_method_1_code 29 = .ok (.aload_n 1, 1) := by decide +kernel
theorem d_Tel_init_30 : decode prog_10_method_1_code 30 = .ok (.getfield 26, 3) := by decide +kernel
theorem d_Tel_init_33 : decode prog_10_method_1_code 33 = .ok (.putfield 29, 3) := by decide +kernel
theorem d_Tel_init_36 : decode prog_10_method_1_code 36 = .ok (.aload_n 0, 1) := by decide +kernel
theorem d_Tel_init_37 : decode prog_10_method_1_code 37 = .ok (.aload_n 1, 1) := by decide +kernel
theorem d_Tel_init_38 : decode prog_10_method_1_code 38 = .ok (.getfield 30, 3) := by decide +kernel
theorem d_Tel_init_41 : decode prog_10_method_1_code 41 = .ok (.putfield 33, 3) := by decide +kernel
theorem d_Tel_init_44 : decode prog_10_method_1_code 44 = .ok (.aload_n 0, 1) := by decide +kernel
theorem d_Tel_init_45 : decode prog_10_method_1_code 45 = .ok (.aload_n 1, 1) := by decide +kernel
theorem d_Tel_init_46 : decode prog_10_method_1_code 46 = .ok (.getfield 34, 3) := by decide +kernel
theorem d_Tel_init_49 : decode prog_10_method_1_code 49 = .ok (.putfield 38, 3) := by decide +kernel
theorem d_Tel_init_52 : decode prog_10_method_1_code 52 = .ok (.return_, 1) := by decide +kernel
theorem d_Tel_has_0 : decode prog_10_method_4_code 0 = .ok (.aload_n 0, 1) := by decide +kernel
theorem d_Tel_has_1 : decode prog_10_method_4_code 1 = .ok (.getfield 29, 3) := by decide +kernel
theorem d_Tel_has_4 : decode prog_10_method_4_code 4 = .ok (.iload_n 1, 1) := by decide +kernel
theorem d_Tel_has_5 : decode prog_10_method_4_code 5 = .ok (.invokestatic 39, 3) := by decide +kernel
theorem d_Tel_has_8 : decode prog_10_method_4_code 8 = .ok (.ireturn, 1) := by decide +kernel
theorem d_Tel_numberTold_0 : decode prog_10_method_5_code 0 = .ok (.iload_n 1, 1) := by decide +kernel
theorem d_Tel_numberTold_1 : decode prog_10_method_5_code 1 = .ok (.ifCond .ne 10, 3) := by decide +kernel
theorem d_Tel_numberTold_4 : decode prog_10_method_5_code 4 = .ok (.aload_n 0, 1) := by decide +kernel
theorem d_Tel_numberTold_5 : decode prog_10_method_5_code 5 = .ok (.getfield 15, 3) := by decide +kernel
theorem d_Tel_numberTold_8 : decode prog_10_method_5_code 8 = .ok (.goto 7, 3) := by decide +kernel
theorem d_Tel_numberTold_11 : decode prog_10_method_5_code 11 = .ok (.aload_n 0, 1) := by decide +kernel
theorem d_Tel_numberTold_12 : decode prog_10_method_5_code 12 = .ok (.getfield 21, 3) := by decide +kernel
theorem d_Tel_numberTold_15 : decode prog_10_method_5_code 15 = .ok (.ireturn, 1) := by decide +kernel
theorem d_Tel_lacks_0 : decode prog_10_method_6_code 0 = .ok (.aload_n 0, 1) := by decide +kernel
theorem d_Tel_lacks_1 : decode prog_10_method_6_code 1 = .ok (.iload_n 1, 1) := by decide +kernel
theorem d_Tel_lacks_2 : decode prog_10_method_6_code 2 = .ok (.invokevirtual 43, 3) := by decide +kernel
theorem d_Tel_lacks_5 : decode prog_10_method_6_code 5 = .ok (.bipush (-9), 2) := by decide +kernel
theorem d_Tel_lacks_7 : decode prog_10_method_6_code 7 = .ok (.if_icmp .ne 7, 3) := by decide +kernel
theorem d_Tel_lacks_10 : decode prog_10_method_6_code 10 = .ok (.iconst 1, 1) := by decide +kernel
theorem d_Tel_lacks_11 : decode prog_10_method_6_code 11 = .ok (.goto 4, 3) := by decide +kernel
theorem d_Tel_lacks_14 : decode prog_10_method_6_code 14 = .ok (.iconst 0, 1) := by decide +kernel
theorem d_Tel_lacks_15 : decode prog_10_method_6_code 15 = .ok (.ireturn, 1) := by decide +kernel
theorem d_Tel_gaps_0 : decode prog_10_method_7_code 0 = .ok (.aload_n 0, 1) := by decide +kernel
theorem d_Tel_gaps_1 : decode prog_10_method_7_code 1 = .ok (.getfield 15, 3) := by decide +kernel
theorem d_Tel_gaps_4 : decode prog_10_method_7_code 4 = .ok (.bipush (-9), 2) := by decide +kernel
theorem d_Tel_gaps_6 : decode prog_10_method_7_code 6 = .ok (.if_icmp .ne 7, 3) := by decide +kernel
theorem d_Tel_gaps_9 : decode prog_10_method_7_code 9 = .ok (.iconst 1, 1) := by decide +kernel
theorem d_Tel_gaps_10 : decode prog_10_method_7_code 10 = .ok (.goto 4, 3) := by decide +kernel
theorem d_Tel_gaps_13 : decode prog_10_method_7_code 13 = .ok (.iconst 0, 1) := by decide +kernel
theorem d_Tel_gaps_14 : decode prog_10_method_7_code 14 = .ok (.aload_n 0, 1) := by decide +kernel
theorem d_Tel_gaps_15 : decode prog_10_method_7_code 15 = .ok (.getfield 21, 3) := by decide +kernel
theorem d_Tel_gaps_18 : decode prog_10_method_7_code 18 = .ok (.bipush (-9), 2) := by decide +kernel
theorem d_Tel_gaps_20 : decode prog_10_method_7_code 20 = .ok (.if_icmp .ne 7, 3) := by decide +kernel
theorem d_Tel_gaps_23 : decode prog_10_method_7_code 23 = .ok (.iconst 1, 1) := by decide +kernel
theorem d_Tel_gaps_24 : decode prog_10_method_7_code 24 = .ok (.goto 4, 3) := by decide +kernel
theorem d_Tel_gaps_27 : decode prog_10_method_7_code 27 = .ok (.iconst 0, 1) := by decide +kernel
theorem d_Tel_gaps_28 : decode prog_10_method_7_code 28 = .ok (.iadd, 1) := by decide +kernel
theorem d_Tel_gaps_29 : decode prog_10_method_7_code 29 = .ok (.aload_n 0, 1) := by decide +kernel
theorem d_Tel_gaps_30 : decode prog_10_method_7_code 30 = .ok (.getfield 25, 3) := by decide +kernel
theorem d_Tel_gaps_33 : decode prog_10_method_7_code 33 = .ok (.bipush (-9), 2) := by decide +kernel
theorem d_Tel_gaps_35 : decode prog_10_method_7_code 35 = .ok (.if_icmp .ne 7, 3) := by decide +kernel
theorem d_Tel_gaps_38 : decode prog_10_method_7_code 38 = .ok (.iconst 1, 1) := by decide +kernel
theorem d_Tel_gaps_39 : decode prog_10_method_7_code 39 = .ok (.goto 4, 3) := by decide +kernel
theorem d_Tel_gaps_42 : decode prog_10_method_7_code 42 = .ok (.iconst 0, 1) := by decide +kernel
theorem d_Tel_gaps_43 : decode prog_10_method_7_code 43 = .ok (.iadd, 1) := by decide +kernel
theorem d_Tel_gaps_44 : decode prog_10_method_7_code 44 = .ok (.ireturn, 1) := by decide +kernel
theorem d_Thr_init_0 : decode prog_11_method_1_code 0 = .ok (.aload_n 0, 1) := by decide +kernel
theorem d_Thr_init_1 : decode prog_11_method_1_code 1 = .ok (.aload_n 1, 1) := by decide +kernel
theorem d_Thr_init_2 : decode prog_11_method_1_code 2 = .ok (.invokespecial 3, 3) := by decide +kernel
theorem d_Thr_init_5 : decode prog_11_method_1_code 5 = .ok (.return_, 1) := by decide +kernel
theorem d_Thr_kindNumber_0 : decode prog_11_method_2_code 0 = .ok (.iconst 2, 1) := by decide +kernel
theorem d_Thr_kindNumber_1 : decode prog_11_method_2_code 1 = .ok (.ireturn, 1) := by decide +kernel
theorem d_Thr_ownWeight_0 : decode prog_11_method_3_code 0 = .ok (.aload_n 0, 1) := by decide +kernel
theorem d_Thr_ownWeight_1 : decode prog_11_method_3_code 1 = .ok (.invokespecial 9, 3) := by decide +kernel
theorem d_Thr_ownWeight_4 : decode prog_11_method_3_code 4 = .ok (.aload_n 0, 1) := by decide +kernel
theorem d_Thr_ownWeight_5 : decode prog_11_method_3_code 5 = .ok (.getfield 13, 3) := by decide +kernel
theorem d_Thr_ownWeight_8 : decode prog_11_method_3_code 8 = .ok (.bipush (-9), 2) := by decide +kernel
theorem d_Thr_ownWeight_10 : decode prog_11_method_3_code 10 = .ok (.if_icmp .ne 7, 3) := by decide +kernel
theorem d_Thr_ownWeight_13 : decode prog_11_method_3_code 13 = .ok (.iconst 0, 1) := by decide +kernel
theorem d_Thr_ownWeight_14 : decode prog_11_method_3_code 14 = .ok (.goto 7, 3) := by decide +kernel
theorem d_Thr_ownWeight_17 : decode prog_11_method_3_code 17 = .ok (.aload_n 0, 1) := by decide +kernel
theorem d_Thr_ownWeight_18 : decode prog_11_method_3_code 18 = .ok (.getfield 13, 3) := by decide +kernel
theorem d_Thr_ownWeight_21 : decode prog_11_method_3_code 21 = .ok (.iadd, 1) := by decide +kernel
theorem d_Thr_ownWeight_22 : decode prog_11_method_3_code 22 = .ok (.ireturn, 1) := by decide +kernel
theorem d_Wit_init_0 : decode prog_12_method_1_code 0 = .ok (.aload_n 0, 1) := by decide +kernel
theorem d_Wit_init_1 : decode prog_12_method_1_code 1 = .ok (.aload_n 1, 1) := by decide +kernel
theorem d_Wit_init_2 : decode prog_12_method_1_code 2 = .ok (.invokespecial 1, 3) := by decide +kernel
theorem d_Wit_init_5 : decode prog_12_method_1_code 5 = .ok (.return_, 1) := by decide +kernel
theorem d_Wit_kindNumber_0 : decode prog_12_method_2_code 0 = .ok (.iconst 0, 1) := by decide +kernel
theorem d_Wit_kindNumber_1 : decode prog_12_method_2_code 1 = .ok (.ireturn, 1) := by decide +kernel
theorem d_Wit_ownWeight_0 : decode prog_12_method_3_code 0 = .ok (.bipush 8, 2) := by decide +kernel
theorem d_Wit_ownWeight_2 : decode prog_12_method_3_code 2 = .ok (.ireturn, 1) := by decide +kernel
theorem d_Lir_init_0 : decode prog_1_method_1_code 0 = .ok (.aload_n 0, 1) := by decide +kernel
theorem d_Lir_init_1 : decode prog_1_method_1_code 1 = .ok (.invokespecial 1, 3) := by decide +kernel
theorem d_Lir_init_4 : decode prog_1_method_1_code 4 = .ok (.aload_n 0, 1) := by decide +kernel
theorem d_Lir_init_5 : decode prog_1_method_1_code 5 = .ok (.new 7, 3) := by decide +kernel
theorem d_Lir_init_8 : decode prog_1_method_1_code 8 = .ok (.dup, 1) := by decide +kernel
theorem d_Lir_init_9 : decode prog_1_method_1_code 9 = .ok (.invokespecial 9, 3) := by decide +kernel
theorem d_Lir_init_12 : decode prog_1_method_1_code 12 = .ok (.putfield 10, 3) := by decide +kernel
theorem d_Lir_init_15 : decode prog_1_method_1_code 15 = .ok (.aload_n 0, 1) := by decide +kernel
theorem d_Lir_init_16 : decode prog_1_method_1_code 16 = .ok (.new 16, 3) := by decide +kernel
theorem d_Lir_init_19 : decode prog_1_method_1_code 19 = .ok (.dup, 1) := by decide +kernel
theorem d_Lir_init_20 : decode prog_1_method_1_code 20 = .ok (.invokespecial 18, 3) := by decide +kernel
theorem d_Lir_init_23 : decode prog_1_method_1_code 23 = .ok (.putfield 19, 3) := by decide +kernel
theorem d_Lir_init_26 : decode prog_1_method_1_code 26 = .ok (.aload_n 0, 1) := by decide +kernel
theorem d_Lir_init_27 : decode prog_1_method_1_code 27 = .ok (.new 16, 3) := by decide +kernel
theorem d_Lir_init_30 : decode prog_1_method_1_code 30 = .ok (.dup, 1) := by decide +kernel
theorem d_Lir_init_31 : decode prog_1_method_1_code 31 = .ok (.invokespecial 18, 3) := by decide +kernel
theorem d_Lir_init_34 : decode prog_1_method_1_code 34 = .ok (.putfield 23, 3) := by decide +kernel
theorem d_Lir_init_37 : decode prog_1_method_1_code 37 = .ok (.aload_n 0, 1) := by decide +kernel
theorem d_Lir_init_38 : decode prog_1_method_1_code 38 = .ok (.bipush 7, 2) := by decide +kernel
theorem d_Lir_init_40 : decode prog_1_method_1_code 40 = .ok (.newarray .int, 2) := by decide +kernel
theorem d_Lir_init_42 : decode prog_1_method_1_code 42 = .ok (.putfield 26, 3) := by decide +kernel
theorem d_Lir_init_45 : decode prog_1_method_1_code 45 = .ok (.aload_n 0, 1) := by decide +kernel
theorem d_Lir_init_46 : decode prog_1_method_1_code 46 = .ok (.bipush 30, 2) := by decide +kernel
theorem d_Lir_init_48 : decode prog_1_method_1_code 48 = .ok (.newarray .int, 2) := by decide +kernel
theorem d_Lir_init_50 : decode prog_1_method_1_code 50 = .ok (.putfield 30, 3) := by decide +kernel
theorem d_Lir_init_53 : decode prog_1_method_1_code 53 = .ok (.aload_n 0, 1) := by decide +kernel
theorem d_Lir_init_54 : decode prog_1_method_1_code 54 = .ok (.iconst 0, 1) := by decide +kernel
theorem d_Lir_init_55 : decode prog_1_method_1_code 55 = .ok (.putfield 33, 3) := by decide +kernel
theorem d_Lir_init_58 : decode prog_1_method_1_code 58 = .ok (.return_, 1) := by decide +kernel
theorem d_Lir_feed_0 : decode prog_1_method_2_code 0 = .ok (.iload_n 1, 1) := by decide +kernel
theorem d_Lir_feed_1 : decode prog_1_method_2_code 1 = .ok (.iconst 1, 1) := by decide +kernel
theorem d_Lir_feed_2 : decode prog_1_method_2_code 2 = .ok (.if_icmp .ge 10, 3) := by decide +kernel
theorem d_Lir_feed_5 : decode prog_1_method_2_code 5 = .ok (.aload_n 0, 1) := by decide +kernel
theorem d_Lir_feed_6 : decode prog_1_method_2_code 6 = .ok (.bipush (-4), 2) := by decide +kernel
theorem d_Lir_feed_8 : decode prog_1_method_2_code 8 = .ok (.invokevirtual 37, 3) := by decide +kernel
theorem d_Lir_feed_11 : decode prog_1_method_2_code 11 = .ok (.ireturn, 1) := by decide +kernel
theorem d_Lir_feed_12 : decode prog_1_method_2_code 12 = .ok (.iload_n 1, 1) := by decide +kernel
theorem d_Lir_feed_13 : decode prog_1_method_2_code 13 = .ok (.bipush 8, 2) := by decide +kernel
theorem d_Lir_feed_15 : decode prog_1_method_2_code 15 = .ok (.if_icmp .gt 14, 3) := by decide +kernel
theorem d_Lir_feed_18 : decode prog_1_method_2_code 18 = .ok (.iload_n 1, 1) := by decide +kernel
theorem d_Lir_feed_19 : decode prog_1_method_2_code 19 = .ok (.aload_n 0, 1) := by decide +kernel
theorem d_Lir_feed_20 : decode prog_1_method_2_code 20 = .ok (.getfield 10, 3) := by decide +kernel
theorem d_Lir_feed_23 : decode prog_1_method_2_code 23 = .ok (.invokevirtual 41, 3) := by decide +kernel
theorem d_Lir_feed_26 : decode prog_1_method_2_code 26 = .ok (.if_icmp .le 10, 3) := by decide +kernel
theorem d_Lir_feed_29 : decode prog_1_method_2_code 29 = .ok (.aload_n 0, 1) := by decide +kernel
theorem d_Lir_feed_30 : decode prog_1_method_2_code 30 = .ok (.bipush (-6), 2) := by decide +kernel
theorem d_Lir_feed_32 : decode prog_1_method_2_code 32 = .ok (.invokevirtual 37, 3) := by decide +kernel
theorem d_Lir_feed_35 : decode prog_1_method_2_code 35 = .ok (.ireturn, 1) := by decide +kernel
theorem d_Lir_feed_36 : decode prog_1_method_2_code 36 = .ok (.aload_n 0, 1) := by decide +kernel
theorem d_Lir_feed_37 : decode prog_1_method_2_code 37 = .ok (.getfield 10, 3) := by decide +kernel
theorem d_Lir_feed_40 : decode prog_1_method_2_code 40 = .ok (.iload_n 1, 1) := by decide +kernel
theorem d_Lir_feed_41 : decode prog_1_method_2_code 41 = .ok (.lload_n 2, 1) := by decide +kernel
theorem d_Lir_feed_42 : decode prog_1_method_2_code 42 = .ok (.invokevirtual 45, 3) := by decide +kernel
theorem d_Lir_feed_45 : decode prog_1_method_2_code 45 = .ok (.aload_n 0, 1) := by decide +kernel
theorem d_Lir_feed_46 : decode prog_1_method_2_code 46 = .ok (.getfield 10, 3) := by decide +kernel
theorem d_Lir_feed_49 : decode prog_1_method_2_code 49 = .ok (.getfield 49, 3) := by decide +kernel
theorem d_Lir_feed_52 : decode prog_1_method_2_code 52 = .ok (.ireturn, 1) := by decide +kernel
theorem d_Lir_telling_0 : decode prog_1_method_3_code 0 = .ok (.aload_n 0, 1) := by decide +kernel
theorem d_Lir_telling_1 : decode prog_1_method_3_code 1 = .ok (.getfield 19, 3) := by decide +kernel
theorem d_Lir_telling_4 : decode prog_1_method_3_code 4 = .ok (.getfield 53, 3) := by decide +kernel
theorem d_Lir_telling_7 : decode prog_1_method_3_code 7 = .ok (.bipush 30, 2) := by decide +kernel
theorem d_Lir_telling_9 : decode prog_1_method_3_code 9 = .ok (.if_icmp .lt 10, 3) := by decide +kernel
theorem d_Lir_telling_12 : decode prog_1_method_3_code 12 = .ok (.aload_n 0, 1) := by decide +kernel
theorem d_Lir_telling_13 : decode prog_1_method_3_code 13 = .ok (.bipush (-6), 2) := by decide +kernel
theorem d_Lir_telling_15 : decode prog_1_method_3_code 15 = .ok (.invokevirtual 37, 3) := by decide +kernel
theorem d_Lir_telling_18 : decode prog_1_method_3_code 18 = .ok (.ireturn, 1) := by decide +kernel
theorem d_Lir_telling_19 : decode prog_1_method_3_code 19 = .ok (.aload_n 0, 1) := by decide +kernel
theorem d_Lir_telling_20 : decode prog_1_method_3_code 20 = .ok (.getfield 10, 3) := by decide +kernel
theorem d_Lir_telling_23 : decode prog_1_method_3_code 23 = .ok (.invokevirtual 56, 3) := by decide +kernel
theorem d_Lir_telling_26 : decode prog_1_method_3_code 26 = .ok (.istore_n 1, 1) := by decide +kernel
theorem d_Lir_telling_27 : decode prog_1_method_3_code 27 = .ok (.aload_n 0, 1) := by decide +kernel
theorem d_Lir_telling_28 : decode prog_1_method_3_code 28 = .ok (.getfield 10, 3) := by decide +kernel
theorem d_Lir_telling_31 : decode prog_1_method_3_code 31 = .ok (.invokevirtual 60, 3) := by decide +kernel
theorem d_Lir_telling_34 : decode prog_1_method_3_code 34 = .ok (.iload_n 1, 1) := by decide +kernel
theorem d_Lir_telling_35 : decode prog_1_method_3_code 35 = .ok (.ifCond .eq 20, 3) := by decide +kernel
theorem d_Lir_telling_38 : decode prog_1_method_3_code 38 = .ok (.aload_n 0, 1) := by decide +kernel
theorem d_Lir_telling_39 : decode prog_1_method_3_code 39 = .ok (.getfield 19, 3) := by decide +kernel
theorem d_Lir_telling_42 : decode prog_1_method_3_code 42 = .ok (.aload_n 0, 1) := by decide +kernel
theorem d_Lir_telling_43 : decode prog_1_method_3_code 43 = .ok (.getfield 10, 3) := by decide +kernel
theorem d_Lir_telling_46 : decode prog_1_method_3_code 46 = .ok (.invokevirtual 63, 3) := by decide +kernel
theorem d_Lir_telling_49 : decode prog_1_method_3_code 49 = .ok (.invokevirtual 67, 3) := by decide +kernel
theorem d_Lir_telling_52 : decode prog_1_method_3_code 52 = .ok (.goto 13, 3) := by decide +kernel
theorem d_Lir_telling_55 : decode prog_1_method_3_code 55 = .ok (.bipush (-20), 2) := by decide +kernel
theorem d_Lir_telling_57 : decode prog_1_method_3_code 57 = .ok (.aload_n 0, 1) := by decide +kernel
theorem d_Lir_telling_58 : decode prog_1_method_3_code 58 = .ok (.getfield 10, 3) := by decide +kernel
theorem d_Lir_telling_61 : decode prog_1_method_3_code 61 = .ok (.getfield 71, 3) := by decide +kernel
theorem d_Lir_telling_64 : decode prog_1_method_3_code 64 = .ok (.isub, 1) := by decide +kernel
theorem d_Lir_telling_65 : decode prog_1_method_3_code 65 = .ok (.ireturn, 1) := by decide +kernel
theorem d_Lir_tellingOf_0 : decode prog_1_method_4_code 0 = .ok (.aload_n 0, 1) := by decide +kernel
theorem d_Lir_tellingOf_1 : decode prog_1_method_4_code 1 = .ok (.getfield 19, 3) := by decide +kernel
theorem d_Lir_tellingOf_4 : decode prog_1_method_4_code 4 = .ok (.iload_n 1, 1) := by decide +kernel
theorem d_Lir_tellingOf_5 : decode prog_1_method_4_code 5 = .ok (.invokevirtual 74, 3) := by decide +kernel
theorem d_Lir_tellingOf_8 : decode prog_1_method_4_code 8 = .ok (.astore_n 3, 1) := by decide +kernel
theorem d_Lir_tellingOf_9 : decode prog_1_method_4_code 9 = .ok (.aload_n 3, 1) := by decide +kernel
theorem d_Lir_tellingOf_10 : decode prog_1_method_4_code 10 = .ok (.ifnonnull 9, 3) := by decide +kernel
theorem d_Lir_tellingOf_13 : decode prog_1_method_4_code 13 = .ok (.aload_n 0, 1) := by decide +kernel
theorem d_Lir_tellingOf_14 : decode prog_1_method_4_code 14 = .ok (.iconst (-1), 1) := by decide +kernel
theorem d_Lir_tellingOf_15 : decode prog_1_method_4_code 15 = .ok (.invokevirtual 37, 3) := by decide +kernel
theorem d_Lir_tellingOf_18 : decode prog_1_method_4_code 18 = .ok (.ireturn, 1) := by decide +kernel
theorem d_Lir_tellingOf_19 : decode prog_1_method_4_code 19 = .ok (.iload_n 2, 1) := by decide +kernel
theorem d_Lir_tellingOf_20 : decode prog_1_method_4_code 20 = .ok (.tableswitch 78 0 5 #[40, 45, 50, 55, 60, 65], 40) := by decide +kernel
theorem d_Lir_tellingOf_60 : decode prog_1_method_4_code 60 = .ok (.aload_n 3, 1) := by decide +kernel
theorem d_Lir_tellingOf_61 : decode prog_1_method_4_code 61 = .ok (.getfield 78, 3) := by decide +kernel
theorem d_Lir_tellingOf_64 : decode prog_1_method_4_code 64 = .ok (.ireturn, 1) := by decide +kernel
theorem d_Lir_tellingOf_65 : decode prog_1_method_4_code 65 = .ok (.aload_n 3, 1) := by decide +kernel
theorem d_Lir_tellingOf_66 : decode prog_1_method_4_code 66 = .ok (.getfield 83, 3) := by decide +kernel
theorem d_Lir_tellingOf_69 : decode prog_1_method_4_code 69 = .ok (.ireturn, 1) := by decide +kernel
theorem d_Lir_tellingOf_70 : decode prog_1_method_4_code 70 = .ok (.aload_n 3, 1) := by decide +kernel
theorem d_Lir_tellingOf_71 : decode prog_1_method_4_code 71 = .ok (.getfield 86, 3) := by decide +kernel
theorem d_Lir_tellingOf_74 : decode prog_1_method_4_code 74 = .ok (.ireturn, 1) := by decide +kernel
theorem d_Lir_tellingOf_75 : decode prog_1_method_4_code 75 = .ok (.aload_n 3, 1) := by decide +kernel
theorem d_Lir_tellingOf_76 : decode prog_1_method_4_code 76 = .ok (.getfield 89, 3) := by decide +kernel
theorem d_Lir_tellingOf_79 : decode prog_1_method_4_code 79 = .ok (.ireturn, 1) := by decide +kernel
theorem d_Lir_tellingOf_80 : decode prog_1_method_4_code 80 = .ok (.aload_n 3, 1) := by decide +kernel
theorem d_Lir_tellingOf_81 : decode prog_1_method_4_code 81 = .ok (.getfield 92, 3) := by decide +kernel
theorem d_Lir_tellingOf_84 : decode prog_1_method_4_code 84 = .ok (.ireturn, 1) := by decide +kernel
theorem d_Lir_tellingOf_85 : decode prog_1_method_4_code 85 = .ok (.aload_n 3, 1) := by decide +kernel
theorem d_Lir_tellingOf_86 : decode prog_1_method_4_code 86 = .ok (.getfield 95, 3) := by decide +kernel
theorem d_Lir_tellingOf_89 : decode prog_1_method_4_code 89 = .ok (.ifCond .eq 7, 3) := by decide +kernel
theorem d_Lir_tellingOf_92 : decode prog_1_method_4_code 92 = .ok (.iconst 1, 1) := by decide +kernel
theorem d_Lir_tellingOf_93 : decode prog_1_method_4_code 93 = .ok (.goto 4, 3) := by decide +kernel
theorem d_Lir_tellingOf_96 : decode prog_1_method_4_code 96 = .ok (.iconst 0, 1) := by decide +kernel
theorem d_Lir_tellingOf_97 : decode prog_1_method_4_code 97 = .ok (.ireturn, 1) := by decide +kernel
theorem d_Lir_tellingOf_98 : decode prog_1_method_4_code 98 = .ok (.aload_n 0, 1) := by decide +kernel
theorem d_Lir_tellingOf_99 : decode prog_1_method_4_code 99 = .ok (.bipush (-2), 2) := by decide +kernel
theorem d_Lir_tellingOf_101 : decode prog_1_method_4_code 101 = .ok (.invokevirtual 37, 3) := by decide +kernel
theorem d_Lir_tellingOf_104 : decode prog_1_method_4_code 104 = .ok (.ireturn, 1) := by decide +kernel
theorem d_Lir_kind_0 : decode prog_1_method_5_code 0 = .ok (.aload_n 0, 1) := by decide +kernel
theorem d_Lir_kind_1 : decode prog_1_method_5_code 1 = .ok (.getfield 19, 3) := by decide +kernel
theorem d_Lir_kind_4 : decode prog_1_method_5_code 4 = .ok (.iload_n 1, 1) := by decide +kernel
theorem d_Lir_kind_5 : decode prog_1_method_5_code 5 = .ok (.invokevirtual 74, 3) := by decide +kernel
theorem d_Lir_kind_8 : decode prog_1_method_5_code 8 = .ok (.astore_n 2, 1) := by decide +kernel
theorem d_Lir_kind_9 : decode prog_1_method_5_code 9 = .ok (.aload_n 2, 1) := by decide +kernel
theorem d_Lir_kind_10 : decode prog_1_method_5_code 10 = .ok (.ifnonnull 11, 3) := by decide +kernel
theorem d_Lir_kind_13 : decode prog_1_method_5_code 13 = .ok (.aload_n 0, 1) := by decide +kernel
theorem d_Lir_kind_14 : decode prog_1_method_5_code 14 = .ok (.iconst (-1), 1) := by decide +kernel
theorem d_Lir_kind_15 : decode prog_1_method_5_code 15 = .ok (.invokevirtual 37, 3) := by decide +kernel
theorem d_Lir_kind_18 : decode prog_1_method_5_code 18 = .ok (.goto 7, 3) := by decide +kernel
theorem d_Lir_kind_21 : decode prog_1_method_5_code 21 = .ok (.aload_n 2, 1) := by decide +kernel
theorem d_Lir_kind_22 : decode prog_1_method_5_code 22 = .ok (.invokevirtual 98, 3) := by decide +kernel
theorem d_Lir_kind_25 : decode prog_1_method_5_code 25 = .ok (.ireturn, 1) := by decide +kernel
theorem d_Lir_weight_0 : decode prog_1_method_6_code 0 = .ok (.aload_n 0, 1) := by decide +kernel
theorem d_Lir_weight_1 : decode prog_1_method_6_code 1 = .ok (.getfield 19, 3) := by decide +kernel
theorem d_Lir_weight_4 : decode prog_1_method_6_code 4 = .ok (.iload_n 1, 1) := by decide +kernel
theorem d_Lir_weight_5 : decode prog_1_method_6_code 5 = .ok (.invokevirtual 74, 3) := by decide +kernel
theorem d_Lir_weight_8 : decode prog_1_method_6_code 8 = .ok (.astore_n 2, 1) := by decide +kernel
theorem d_Lir_weight_9 : decode prog_1_method_6_code 9 = .ok (.aload_n 2, 1) := by decide +kernel
theorem d_Lir_weight_10 : decode prog_1_method_6_code 10 = .ok (.ifnonnull 11, 3) := by decide +kernel
theorem d_Lir_weight_13 : decode prog_1_method_6_code 13 = .ok (.aload_n 0, 1) := by decide +kernel
theorem d_Lir_weight_14 : decode prog_1_method_6_code 14 = .ok (.iconst (-1), 1) := by decide +kernel
theorem d_Lir_weight_15 : decode prog_1_method_6_code 15 = .ok (.invokevirtual 37, 3) := by decide +kernel
theorem d_Lir_weight_18 : decode prog_1_method_6_code 18 = .ok (.goto 7, 3) := by decide +kernel
theorem d_Lir_weight_21 : decode prog_1_method_6_code 21 = .ok (.aload_n 2, 1) := by decide +kernel
theorem d_Lir_weight_22 : decode prog_1_method_6_code 22 = .ok (.invokevirtual 101, 3) := by decide +kernel
theorem d_Lir_weight_25 : decode prog_1_method_6_code 25 = .ok (.ireturn, 1) := by decide +kernel
theorem d_Lir_law_0 : decode prog_1_method_7_code 0 = .ok (.aload_n 0, 1) := by decide +kernel
theorem d_Lir_law_1 : decode prog_1_method_7_code 1 = .ok (.getfield 19, 3) := by decide +kernel
theorem d_Lir_law_4 : decode prog_1_method_7_code 4 = .ok (.iload_n 1, 1) := by decide +kernel
theorem d_Lir_law_5 : decode prog_1_method_7_code 5 = .ok (.invokevirtual 104, 3) := by decide +kernel
theorem d_Lir_law_8 : decode prog_1_method_7_code 8 = .ok (.astore 4, 2) := by decide +kernel
theorem d_Lir_law_10 : decode prog_1_method_7_code 10 = .ok (.aload 4, 2) := by decide +kernel
theorem d_Lir_law_12 : decode prog_1_method_7_code 12 = .ok (.ifnonnull 9, 3) := by decide +kernel
theorem d_Lir_law_15 : decode prog_1_method_7_code 15 = .ok (.aload_n 0, 1) := by decide +kernel
theorem d_Lir_law_16 : decode prog_1_method_7_code 16 = .ok (.iconst (-1), 1) := by decide +kernel
theorem d_Lir_law_17 : decode prog_1_method_7_code 17 = .ok (.invokevirtual 37, 3) := by decide +kernel
theorem d_Lir_law_20 : decode prog_1_method_7_code 20 = .ok (.ireturn, 1) := by decide +kernel
theorem d_Lir_law_21 : decode prog_1_method_7_code 21 = .ok (.iload_n 2, 1) := by decide +kernel
theorem d_Lir_law_22 : decode prog_1_method_7_code 22 = .ok (.ifCond .lt 9, 3) := by decide +kernel
theorem d_Lir_law_25 : decode prog_1_method_7_code 25 = .ok (.iload_n 2, 1) := by decide +kernel
theorem d_Lir_law_26 : decode prog_1_method_7_code 26 = .ok (.bipush 7, 2) := by decide +kernel
theorem d_Lir_law_28 : decode prog_1_method_7_code 28 = .ok (.if_icmp .lt 10, 3) := by decide +kernel
theorem d_Lir_law_31 : decode prog_1_method_7_code 31 = .ok (.aload_n 0, 1) := by decide +kernel
theorem d_Lir_law_32 : decode prog_1_method_7_code 32 = .ok (.bipush (-2), 2) := by decide +kernel
theorem d_Lir_law_34 : decode prog_1_method_7_code 34 = .ok (.invokevirtual 37, 3) := by decide +kernel
theorem d_Lir_law_37 : decode prog_1_method_7_code 37 = .ok (.ireturn, 1) := by decide +kernel
theorem d_Lir_law_38 : decode prog_1_method_7_code 38 = .ok (.iload_n 2, 1) := by decide +kernel
theorem d_Lir_law_39 : decode prog_1_method_7_code 39 = .ok (.iconst 4, 1) := by decide +kernel
theorem d_Lir_law_40 : decode prog_1_method_7_code 40 = .ok (.if_icmp .ge 9, 3) := by decide +kernel
theorem d_Lir_law_43 : decode prog_1_method_7_code 43 = .ok (.sipush 999, 3) := by decide +kernel
theorem d_Lir_law_46 : decode prog_1_method_7_code 46 = .ok (.goto 6, 3) := by decide +kernel
theorem d_Lir_law_49 : decode prog_1_method_7_code 49 = .ok (.sipush 255, 3) := by decide +kernel
theorem d_Lir_law_52 : decode prog_1_method_7_code 52 = .ok (.istore 5, 2) := by decide +kernel
theorem d_Lir_law_54 : decode prog_1_method_7_code 54 = .ok (.iload_n 3, 1) := by decide +kernel
theorem d_Lir_law_55 : decode prog_1_method_7_code 55 = .ok (.iconst 0, 1) := by decide +kernel
theorem d_Lir_law_56 : decode prog_1_method_7_code 56 = .ok (.iload 5, 2) := by decide +kernel
theorem d_Lir_law_58 : decode prog_1_method_7_code 58 = .ok (.invokestatic 108, 3) := by decide +kernel
theorem d_Lir_law_61 : decode prog_1_method_7_code 61 = .ok (.istore 6, 2) := by decide +kernel
theorem d_Lir_law_63 : decode prog_1_method_7_code 63 = .ok (.iload 6, 2) := by decide +kernel
theorem d_Lir_law_65 : decode prog_1_method_7_code 65 = .ok (.ifCond .eq 12, 3) := by decide +kernel
theorem d_Lir_law_68 : decode prog_1_method_7_code 68 = .ok (.aload_n 0, 1) := by decide +kernel
theorem d_Lir_law_69 : decode prog_1_method_7_code 69 = .ok (.iload 6, 2) := by decide +kernel
theorem d_Lir_law_71 : decode prog_1_method_7_code 71 = .ok (.invokevirtual 37, 3) := by decide +kernel
theorem d_Lir_law_74 : decode prog_1_method_7_code 74 = .ok (.goto 13, 3) := by decide +kernel
theorem d_Lir_law_77 : decode prog_1_method_7_code 77 = .ok (.aload 4, 2) := by decide +kernel
theorem d_Lir_law_79 : decode prog_1_method_7_code 79 = .ok (.getfield 112, 3) := by decide +kernel
theorem d_Lir_law_82 : decode prog_1_method_7_code 82 = .ok (.iload_n 2, 1) := by decide +kernel
theorem d_Lir_law_83 : decode prog_1_method_7_code 83 = .ok (.iload_n 3, 1) := by decide +kernel
theorem d_Lir_law_84 : decode prog_1_method_7_code 84 = .ok (.invokestatic 117, 3) := by decide +kernel
theorem d_Lir_law_87 : decode prog_1_method_7_code 87 = .ok (.ireturn, 1) := by decide +kernel
theorem d_Lir_right_0 : decode prog_1_method_8_code 0 = .ok (.aload_n 0, 1) := by decide +kernel
theorem d_Lir_right_1 : decode prog_1_method_8_code 1 = .ok (.getfield 19, 3) := by decide +kernel
theorem d_Lir_right_4 : decode prog_1_method_8_code 4 = .ok (.getfield 121, 3) := by decide +kernel
theorem d_Lir_right_7 : decode prog_1_method_8_code 7 = .ok (.iload_n 1, 1) := by decide +kernel
theorem d_Lir_right_8 : decode prog_1_method_8_code 8 = .ok (.if_icmp .ne 5, 3) := by decide +kernel
theorem d_Lir_right_11 : decode prog_1_method_8_code 11 = .ok (.iconst 0, 1) := by decide +kernel
theorem d_Lir_right_12 : decode prog_1_method_8_code 12 = .ok (.ireturn, 1) := by decide +kernel
theorem d_Lir_right_13 : decode prog_1_method_8_code 13 = .ok (.aload_n 0, 1) := by decide +kernel
theorem d_Lir_right_14 : decode prog_1_method_8_code 14 = .ok (.getfield 19, 3) := by decide +kernel
theorem d_Lir_right_17 : decode prog_1_method_8_code 17 = .ok (.iload_n 1, 1) := by decide +kernel
theorem d_Lir_right_18 : decode prog_1_method_8_code 18 = .ok (.putfield 121, 3) := by decide +kernel
theorem d_Lir_right_21 : decode prog_1_method_8_code 21 = .ok (.iconst 1, 1) := by decide +kernel
theorem d_Lir_right_22 : decode prog_1_method_8_code 22 = .ok (.ireturn, 1) := by decide +kernel
theorem d_Lir_growth_0 : decode prog_1_method_9_code 0 = .ok (.iload_n 1, 1) := by decide +kernel
theorem d_Lir_growth_1 : decode prog_1_method_9_code 1 = .ok (.invokestatic 124, 3) := by decide +kernel
theorem d_Lir_growth_4 : decode prog_1_method_9_code 4 = .ok (.ifCond .ne 10, 3) := by decide +kernel
theorem d_Lir_growth_7 : decode prog_1_method_9_code 7 = .ok (.aload_n 0, 1) := by decide +kernel
theorem d_Lir_growth_8 : decode prog_1_method_9_code 8 = .ok (.bipush (-2), 2) := by decide +kernel
theorem d_Lir_growth_10 : decode prog_1_method_9_code 10 = .ok (.invokevirtual 37, 3) := by decide +kernel
theorem d_Lir_growth_13 : decode prog_1_method_9_code 13 = .ok (.ireturn, 1) := by decide +kernel
theorem d_Lir_growth_14 : decode prog_1_method_9_code 14 = .ok (.iload_n 2, 1) := by decide +kernel
theorem d_Lir_growth_15 : decode prog_1_method_9_code 15 = .ok (.iconst 0, 1) := by decide +kernel
theorem d_Lir_growth_16 : decode prog_1_method_9_code 16 = .ok (.bipush 50, 2) := by decide +kernel
theorem d_Lir_growth_18 : decode prog_1_method_9_code 18 = .ok (.invokestatic 108, 3) := by decide +kernel
theorem d_Lir_growth_21 : decode prog_1_method_9_code 21 = .ok (.istore_n 3, 1) := by decide +kernel
theorem d_Lir_growth_22 : decode prog_1_method_9_code 22 = .ok (.iload_n 3, 1) := by decide +kernel
theorem d_Lir_growth_23 : decode prog_1_method_9_code 23 = .ok (.ifCond .eq 11, 3) := by decide +kernel
theorem d_Lir_growth_26 : decode prog_1_method_9_code 26 = .ok (.aload_n 0, 1) := by decide +kernel
theorem d_Lir_growth_27 : decode prog_1_method_9_code 27 = .ok (.iload_n 3, 1) := by decide +kernel
theorem d_Lir_growth_28 : decode prog_1_method_9_code 28 = .ok (.invokevirtual 37, 3) := by decide +kernel
theorem d_Lir_growth_31 : decode prog_1_method_9_code 31 = .ok (.goto 15, 3) := by decide +kernel
theorem d_Lir_growth_34 : decode prog_1_method_9_code 34 = .ok (.aload_n 0, 1) := by decide +kernel
theorem d_Lir_growth_35 : decode prog_1_method_9_code 35 = .ok (.getfield 19, 3) := by decide +kernel
theorem d_Lir_growth_38 : decode prog_1_method_9_code 38 = .ok (.getfield 128, 3) := by decide +kernel
theorem d_Lir_growth_41 : decode prog_1_method_9_code 41 = .ok (.iload_n 1, 1) := by decide +kernel
theorem d_Lir_growth_42 : decode prog_1_method_9_code 42 = .ok (.iload_n 2, 1) := by decide +kernel
theorem d_Lir_growth_43 : decode prog_1_method_9_code 43 = .ok (.invokestatic 117, 3) := by decide +kernel
theorem d_Lir_growth_46 : decode prog_1_method_9_code 46 = .ok (.ireturn, 1) := by decide +kernel
theorem d_Lir_put_0 : decode prog_1_method_10_code 0 = .ok (.aload_n 0, 1) := by decide +kernel
theorem d_Lir_put_1 : decode prog_1_method_10_code 1 = .ok (.getfield 19, 3) := by decide +kernel
theorem d_Lir_put_4 : decode prog_1_method_10_code 4 = .ok (.iload_n 1, 1) := by decide +kernel
theorem d_Lir_put_5 : decode prog_1_method_10_code 5 = .ok (.invokevirtual 74, 3) := by decide +kernel
theorem d_Lir_put_8 : decode prog_1_method_10_code 8 = .ok (.astore_n 3, 1) := by decide +kernel
theorem d_Lir_put_9 : decode prog_1_method_10_code 9 = .ok (.aload_n 3, 1) := by decide +kernel
theorem d_Lir_put_10 : decode prog_1_method_10_code 10 = .ok (.ifnonnull 9, 3) := by decide +kernel
theorem d_Lir_put_13 : decode prog_1_method_10_code 13 = .ok (.aload_n 0, 1) := by decide +kernel
theorem d_Lir_put_14 : decode prog_1_method_10_code 14 = .ok (.iconst (-1), 1) := by decide +kernel
theorem d_Lir_put_15 : decode prog_1_method_10_code 15 = .ok (.invokevirtual 37, 3) := by decide +kernel
theorem d_Lir_put_18 : decode prog_1_method_10_code 18 = .ok (.ireturn, 1) := by decide +kernel
theorem d_Lir_put_19 : decode prog_1_method_10_code 19 = .ok (.iload_n 2, 1) := by decide +kernel
theorem d_Lir_put_20 : decode prog_1_method_10_code 20 = .ok (.invokestatic 124, 3) := by decide +kernel
theorem d_Lir_put_23 : decode prog_1_method_10_code 23 = .ok (.ifCond .eq 15, 3) := by decide +kernel
theorem d_Lir_put_26 : decode prog_1_method_10_code 26 = .ok (.aload_n 0, 1) := by decide +kernel
theorem d_Lir_put_27 : decode prog_1_method_10_code 27 = .ok (.getfield 19, 3) := by decide +kernel
theorem d_Lir_put_30 : decode prog_1_method_10_code 30 = .ok (.aload_n 3, 1) := by decide +kernel
theorem d_Lir_put_31 : decode prog_1_method_10_code 31 = .ok (.iload_n 2, 1) := by decide +kernel
theorem d_Lir_put_32 : decode prog_1_method_10_code 32 = .ok (.invokevirtual 131, 3) := by decide +kernel
theorem d_Lir_put_35 : decode prog_1_method_10_code 35 = .ok (.goto 9, 3) := by decide +kernel
theorem d_Lir_put_38 : decode prog_1_method_10_code 38 = .ok (.aload_n 0, 1) := by decide +kernel
theorem d_Lir_put_39 : decode prog_1_method_10_code 39 = .ok (.bipush (-2), 2) := by decide +kernel
theorem d_Lir_put_41 : decode prog_1_method_10_code 41 = .ok (.invokevirtual 37, 3) := by decide +kernel
theorem d_Lir_put_44 : decode prog_1_method_10_code 44 = .ok (.ireturn, 1) := by decide +kernel
theorem d_Lir_fits_0 : decode prog_1_method_11_code 0 = .ok (.aload_n 0, 1) := by decide +kernel
theorem d_Lir_fits_1 : decode prog_1_method_11_code 1 = .ok (.getfield 19, 3) := by decide +kernel
theorem d_Lir_fits_4 : decode prog_1_method_11_code 4 = .ok (.iload_n 1, 1) := by decide +kernel
theorem d_Lir_fits_5 : decode prog_1_method_11_code 5 = .ok (.invokevirtual 74, 3) := by decide +kernel
theorem d_Lir_fits_8 : decode prog_1_method_11_code 8 = .ok (.astore_n 3, 1) := by decide +kernel
theorem d_Lir_fits_9 : decode prog_1_method_11_code 9 = .ok (.aload_n 0, 1) := by decide +kernel
theorem d_Lir_fits_10 : decode prog_1_method_11_code 10 = .ok (.getfield 19, 3) := by decide +kernel
theorem d_Lir_fits_13 : decode prog_1_method_11_code 13 = .ok (.iload_n 2, 1) := by decide +kernel
theorem d_Lir_fits_14 : decode prog_1_method_11_code 14 = .ok (.invokevirtual 104, 3) := by decide +kernel
theorem d_Lir_fits_17 : decode prog_1_method_11_code 17 = .ok (.astore 4, 2) := by decide +kernel
theorem d_Lir_fits_19 : decode prog_1_method_11_code 19 = .ok (.aload_n 3, 1) := by decide +kernel
theorem d_Lir_fits_20 : decode prog_1_method_11_code 20 = .ok (.ifnull 8, 3) := by decide +kernel
theorem d_Lir_fits_23 : decode prog_1_method_11_code 23 = .ok (.aload 4, 2) := by decide +kernel
theorem d_Lir_fits_25 : decode prog_1_method_11_code 25 = .ok (.ifnonnull 9, 3) := by decide +kernel
theorem d_Lir_fits_28 : decode prog_1_method_11_code 28 = .ok (.aload_n 0, 1) := by decide +kernel
theorem d_Lir_fits_29 : decode prog_1_method_11_code 29 = .ok (.iconst (-1), 1) := by decide +kernel
theorem d_Lir_fits_30 : decode prog_1_method_11_code 30 = .ok (.invokevirtual 37, 3) := by decide +kernel
theorem d_Lir_fits_33 : decode prog_1_method_11_code 33 = .ok (.ireturn, 1) := by decide +kernel
theorem d_Lir_fits_34 : decode prog_1_method_11_code 34 = .ok (.aload_n 0, 1) := by decide +kernel
theorem d_Lir_fits_35 : decode prog_1_method_11_code 35 = .ok (.getfield 19, 3) := by decide +kernel
theorem d_Lir_fits_38 : decode prog_1_method_11_code 38 = .ok (.aload_n 3, 1) := by decide +kernel
theorem d_Lir_fits_39 : decode prog_1_method_11_code 39 = .ok (.aload 4, 2) := by decide +kernel
theorem d_Lir_fits_41 : decode prog_1_method_11_code 41 = .ok (.invokevirtual 135, 3) := by decide +kernel
theorem d_Lir_fits_44 : decode prog_1_method_11_code 44 = .ok (.ifCond .ne 7, 3) := by decide +kernel
theorem d_Lir_fits_47 : decode prog_1_method_11_code 47 = .ok (.iconst 1, 1) := by decide +kernel
theorem d_Lir_fits_48 : decode prog_1_method_11_code 48 = .ok (.goto 4, 3) := by decide +kernel
theorem d_Lir_fits_51 : decode prog_1_method_11_code 51 = .ok (.iconst 0, 1) := by decide +kernel
theorem d_Lir_fits_52 : decode prog_1_method_11_code 52 = .ok (.ireturn, 1) := by decide +kernel
theorem d_Lir_share_0 : decode prog_1_method_12_code 0 = .ok (.aload_n 0, 1) := by decide +kernel
theorem d_Lir_share_1 : decode prog_1_method_12_code 1 = .ok (.getfield 19, 3) := by decide +kernel
theorem d_Lir_share_4 : decode prog_1_method_12_code 4 = .ok (.iload_n 1, 1) := by decide +kernel
theorem d_Lir_share_5 : decode prog_1_method_12_code 5 = .ok (.invokevirtual 104, 3) := by decide +kernel
theorem d_Lir_share_8 : decode prog_1_method_12_code 8 = .ok (.astore_n 3, 1) := by decide +kernel
theorem d_Lir_share_9 : decode prog_1_method_12_code 9 = .ok (.aload_n 3, 1) := by decide +kernel
theorem d_Lir_share_10 : decode prog_1_method_12_code 10 = .ok (.ifnonnull 9, 3) := by decide +kernel
theorem d_Lir_share_13 : decode prog_1_method_12_code 13 = .ok (.aload_n 0, 1) := by decide +kernel
theorem d_Lir_share_14 : decode prog_1_method_12_code 14 = .ok (.iconst (-1), 1) := by decide +kernel
theorem d_Lir_share_15 : decode prog_1_method_12_code 15 = .ok (.invokevirtual 139, 3) := by decide +kernel
theorem d_Lir_share_18 : decode prog_1_method_12_code 18 = .ok (.ireturn, 1) := by decide +kernel
theorem d_Lir_share_19 : decode prog_1_method_12_code 19 = .ok (.iload_n 2, 1) := by decide +kernel
theorem d_Lir_share_20 : decode prog_1_method_12_code 20 = .ok (.invokestatic 142, 3) := by decide +kernel
theorem d_Lir_share_23 : decode prog_1_method_12_code 23 = .ok (.ifCond .ne 10, 3) := by decide +kernel
theorem d_Lir_share_26 : decode prog_1_method_12_code 26 = .ok (.aload_n 0, 1) := by decide +kernel
theorem d_Lir_share_27 : decode prog_1_method_12_code 27 = .ok (.bipush (-2), 2) := by decide +kernel
theorem d_Lir_share_29 : decode prog_1_method_12_code 29 = .ok (.invokevirtual 139, 3) := by decide +kernel
theorem d_Lir_share_32 : decode prog_1_method_12_code 32 = .ok (.ireturn, 1) := by decide +kernel
theorem d_Lir_share_33 : decode prog_1_method_12_code 33 = .ok (.iconst 0, 1) := by decide +kernel
theorem d_Lir_share_34 : decode prog_1_method_12_code 34 = .ok (.istore 4, 2) := by decide +kernel
theorem d_Lir_share_36 : decode prog_1_method_12_code 36 = .ok (.iconst 0, 1) := by decide +kernel
theorem d_Lir_share_37 : decode prog_1_method_12_code 37 = .ok (.istore 5, 2) := by decide +kernel
theorem d_Lir_share_39 : decode prog_1_method_12_code 39 = .ok (.aload_n 0, 1) := by decide +kernel
theorem d_Lir_share_40 : decode prog_1_method_12_code 40 = .ok (.getfield 19, 3) := by decide +kernel
theorem d_Lir_share_43 : decode prog_1_method_12_code 43 = .ok (.getfield 145, 3) := by decide +kernel
theorem d_Lir_share_46 : decode prog_1_method_12_code 46 = .ok (.astore 6, 2) := by decide +kernel
theorem d_Lir_share_48 : decode prog_1_method_12_code 48 = .ok (.aload 6, 2) := by decide +kernel
theorem d_Lir_share_50 : decode prog_1_method_12_code 50 = .ok (.arraylength, 1) := by decide +kernel
theorem d_Lir_share_51 : decode prog_1_method_12_code 51 = .ok (.istore 7, 2) := by decide +kernel
theorem d_Lir_share_53 : decode prog_1_method_12_code 53 = .ok (.iconst 0, 1) := by decide +kernel
theorem d_Lir_share_54 : decode prog_1_method_12_code 54 = .ok (.istore 8, 2) := by decide +kernel
theorem d_Lir_share_56 : decode prog_1_method_12_code 56 = .ok (.iload 8, 2) := by decide +kernel
theorem d_Lir_share_58 : decode prog_1_method_12_code 58 = .ok (.iload 7, 2) := by decide +kernel
theorem d_Lir_share_60 : decode prog_1_method_12_code 60 = .ok (.if_icmp .ge 59, 3) := by decide +kernel
theorem d_Lir_share_63 : decode prog_1_method_12_code 63 = .ok (.aload 6, 2) := by decide +kernel
theorem d_Lir_share_65 : decode prog_1_method_12_code 65 = .ok (.iload 8, 2) := by decide +kernel
theorem d_Lir_share_67 : decode prog_1_method_12_code 67 = .ok (.aaload, 1) := by decide +kernel
theorem d_Lir_share_68 : decode prog_1_method_12_code 68 = .ok (.astore 9, 2) := by decide +kernel
theorem d_Lir_share_70 : decode prog_1_method_12_code 70 = .ok (.aload 9, 2) := by decide +kernel
theorem d_Lir_share_72 : decode prog_1_method_12_code 72 = .ok (.ifnull 41, 3) := by decide +kernel
theorem d_Lir_share_75 : decode prog_1_method_12_code 75 = .ok (.aload 9, 2) := by decide +kernel
theorem d_Lir_share_77 : decode prog_1_method_12_code 77 = .ok (.invokevirtual 101, 3) := by decide +kernel
theorem d_Lir_share_80 : decode prog_1_method_12_code 80 = .ok (.istore 10, 2) := by decide +kernel
theorem d_Lir_share_82 : decode prog_1_method_12_code 82 = .ok (.iload 5, 2) := by decide +kernel
theorem d_Lir_share_84 : decode prog_1_method_12_code 84 = .ok (.iload 10, 2) := by decide +kernel
theorem d_Lir_share_86 : decode prog_1_method_12_code 86 = .ok (.iadd, 1) := by decide +kernel
theorem d_Lir_share_87 : decode prog_1_method_12_code 87 = .ok (.istore 5, 2) := by decide +kernel
theorem d_Lir_share_89 : decode prog_1_method_12_code 89 = .ok (.iload 4, 2) := by decide +kernel
theorem d_Lir_share_91 : decode prog_1_method_12_code 91 = .ok (.aload_n 0, 1) := by decide +kernel
theorem d_Lir_share_92 : decode prog_1_method_12_code 92 = .ok (.getfield 19, 3) := by decide +kernel
theorem d_Lir_share_95 : decode prog_1_method_12_code 95 = .ok (.aload 9, 2) := by decide +kernel
theorem d_Lir_share_97 : decode prog_1_method_12_code 97 = .ok (.aload_n 3, 1) := by decide +kernel
theorem d_Lir_share_98 : decode prog_1_method_12_code 98 = .ok (.invokevirtual 135, 3) := by decide +kernel
theorem d_Lir_share_101 : decode prog_1_method_12_code 101 = .ok (.ifCond .ne 8, 3) := by decide +kernel
theorem d_Lir_share_104 : decode prog_1_method_12_code 104 = .ok (.iload 10, 2) := by decide +kernel
theorem d_Lir_share_106 : decode prog_1_method_12_code 106 = .ok (.goto 4, 3) := by decide +kernel
theorem d_Lir_share_109 : decode prog_1_method_12_code 109 = .ok (.iconst 0, 1) := by decide +kernel
theorem d_Lir_share_110 : decode prog_1_method_12_code 110 = .ok (.iadd, 1) := by decide +kernel
theorem d_Lir_share_111 : decode prog_1_method_12_code 111 = .ok (.istore 4, 2) := by decide +kernel
theorem d_Lir_share_113 : decode prog_1_method_12_code 113 = .ok (.iinc 8 1, 3) := by decide +kernel
theorem d_Lir_share_116 : decode prog_1_method_12_code 116 = .ok (.goto (-60), 3) := by decide +kernel
theorem d_Lir_share_119 : decode prog_1_method_12_code 119 = .ok (.iload 5, 2) := by decide +kernel
theorem d_Lir_share_121 : decode prog_1_method_12_code 121 = .ok (.ifCond .ne 12, 3) := by decide +kernel
theorem d_Lir_share_124 : decode prog_1_method_12_code 124 = .ok (.aload_n 0, 1) := by decide +kernel
theorem d_Lir_share_125 : decode prog_1_method_12_code 125 = .ok (.bipush (-3), 2) := by decide +kernel
theorem d_Lir_share_127 : decode prog_1_method_12_code 127 = .ok (.invokevirtual 139, 3) := by decide +kernel
theorem d_Lir_share_130 : decode prog_1_method_12_code 130 = .ok (.goto 11, 3) := by decide +kernel
theorem d_Lir_share_133 : decode prog_1_method_12_code 133 = .ok (.iload 4, 2) := by decide +kernel
theorem d_Lir_share_135 : decode prog_1_method_12_code 135 = .ok (.iload 5, 2) := by decide +kernel
theorem d_Lir_share_137 : decode prog_1_method_12_code 137 = .ok (.iload_n 2, 1) := by decide +kernel
theorem d_Lir_share_138 : decode prog_1_method_12_code 138 = .ok (.invokestatic 149, 3) := by decide +kernel
theorem d_Lir_share_141 : decode prog_1_method_12_code 141 = .ok (.ireturn, 1) := by decide +kernel
theorem d_Lir_only_0 : decode prog_1_method_13_code 0 = .ok (.aload_n 0, 1) := by decide +kernel
theorem d_Lir_only_1 : decode prog_1_method_13_code 1 = .ok (.getfield 19, 3) := by decide +kernel
theorem d_Lir_only_4 : decode prog_1_method_13_code 4 = .ok (.iload_n 1, 1) := by decide +kernel
theorem d_Lir_only_5 : decode prog_1_method_13_code 5 = .ok (.invokevirtual 104, 3) := by decide +kernel
theorem d_Lir_only_8 : decode prog_1_method_13_code 8 = .ok (.ifnonnull 11, 3) := by decide +kernel
theorem d_Lir_only_11 : decode prog_1_method_13_code 11 = .ok (.aload_n 0, 1) := by decide +kernel
theorem d_Lir_only_12 : decode prog_1_method_13_code 12 = .ok (.iconst (-1), 1) := by decide +kernel
theorem d_Lir_only_13 : decode prog_1_method_13_code 13 = .ok (.invokevirtual 37, 3) := by decide +kernel
theorem d_Lir_only_16 : decode prog_1_method_13_code 16 = .ok (.goto 9, 3) := by decide +kernel
theorem d_Lir_only_19 : decode prog_1_method_13_code 19 = .ok (.aload_n 0, 1) := by decide +kernel
theorem d_Lir_only_20 : decode prog_1_method_13_code 20 = .ok (.iload_n 1, 1) := by decide +kernel
theorem d_Lir_only_21 : decode prog_1_method_13_code 21 = .ok (.iconst 0, 1) := by decide +kernel
theorem d_Lir_only_22 : decode prog_1_method_13_code 22 = .ok (.invokevirtual 152, 3) := by decide +kernel
theorem d_Lir_only_25 : decode prog_1_method_13_code 25 = .ok (.ireturn, 1) := by decide +kernel
theorem d_Lir_cover_0 : decode prog_1_method_14_code 0 = .ok (.aload_n 0, 1) := by decide +kernel
theorem d_Lir_cover_1 : decode prog_1_method_14_code 1 = .ok (.invokevirtual 156, 3) := by decide +kernel
theorem d_Lir_cover_4 : decode prog_1_method_14_code 4 = .ok (.bipush 63, 2) := by decide +kernel
theorem d_Lir_cover_6 : decode prog_1_method_14_code 6 = .ok (.istore_n 1, 1) := by decide +kernel
theorem d_Lir_cover_7 : decode prog_1_method_14_code 7 = .ok (.iconst 0, 1) := by decide +kernel
theorem d_Lir_cover_8 : decode prog_1_method_14_code 8 = .ok (.istore_n 2, 1) := by decide +kernel
theorem d_Lir_cover_9 : decode prog_1_method_14_code 9 = .ok (.iload_n 2, 1) := by decide +kernel
theorem d_Lir_cover_10 : decode prog_1_method_14_code 10 = .ok (.bipush 64, 2) := by decide +kernel
theorem d_Lir_cover_12 : decode prog_1_method_14_code 12 = .ok (.if_icmp .ge 30, 3) := by decide +kernel
theorem d_Lir_cover_15 : decode prog_1_method_14_code 15 = .ok (.iload_n 2, 1) := by decide +kernel
theorem d_Lir_cover_16 : decode prog_1_method_14_code 16 = .ok (.invokestatic 159, 3) := by decide +kernel
theorem d_Lir_cover_19 : decode prog_1_method_14_code 19 = .ok (.iload_n 1, 1) := by decide +kernel
theorem d_Lir_cover_20 : decode prog_1_method_14_code 20 = .ok (.invokestatic 159, 3) := by decide +kernel
theorem d_Lir_cover_23 : decode prog_1_method_14_code 23 = .ok (.if_icmp .ge 13, 3) := by decide +kernel
theorem d_Lir_cover_26 : decode prog_1_method_14_code 26 = .ok (.aload_n 0, 1) := by decide +kernel
theorem d_Lir_cover_27 : decode prog_1_method_14_code 27 = .ok (.iload_n 2, 1) := by decide +kernel
theorem d_Lir_cover_28 : decode prog_1_method_14_code 28 = .ok (.invokevirtual 164, 3) := by decide +kernel
theorem d_Lir_cover_31 : decode prog_1_method_14_code 31 = .ok (.ifCond .eq 5, 3) := by decide +kernel
theorem d_Lir_cover_34 : decode prog_1_method_14_code 34 = .ok (.iload_n 2, 1) := by decide +kernel
theorem d_Lir_cover_35 : decode prog_1_method_14_code 35 = .ok (.istore_n 1, 1) := by decide +kernel
theorem d_Lir_cover_36 : decode prog_1_method_14_code 36 = .ok (.iinc 2 1, 3) := by decide +kernel
theorem d_Lir_cover_39 : decode prog_1_method_14_code 39 = .ok (.goto (-30), 3) := by decide +kernel
theorem d_Lir_cover_42 : decode prog_1_method_14_code 42 = .ok (.iload_n 1, 1) := by decide +kernel
theorem d_Lir_cover_43 : decode prog_1_method_14_code 43 = .ok (.ireturn, 1) := by decide +kernel
theorem d_Lir_half_0 : decode prog_1_method_15_code 0 = .ok (.aload_n 0, 1) := by decide +kernel
theorem d_Lir_half_1 : decode prog_1_method_15_code 1 = .ok (.getfield 19, 3) := by decide +kernel
theorem d_Lir_half_4 : decode prog_1_method_15_code 4 = .ok (.iload_n 1, 1) := by decide +kernel
theorem d_Lir_half_5 : decode prog_1_method_15_code 5 = .ok (.invokevirtual 104, 3) := by decide +kernel
theorem d_Lir_half_8 : decode prog_1_method_15_code 8 = .ok (.astore_n 2, 1) := by decide +kernel
theorem d_Lir_half_9 : decode prog_1_method_15_code 9 = .ok (.aload_n 2, 1) := by decide +kernel
theorem d_Lir_half_10 : decode prog_1_method_15_code 10 = .ok (.ifnonnull 9, 3) := by decide +kernel
theorem d_Lir_half_13 : decode prog_1_method_15_code 13 = .ok (.aload_n 0, 1) := by decide +kernel
theorem d_Lir_half_14 : decode prog_1_method_15_code 14 = .ok (.iconst (-1), 1) := by decide +kernel
theorem d_Lir_half_15 : decode prog_1_method_15_code 15 = .ok (.invokevirtual 37, 3) := by decide +kernel
theorem d_Lir_half_18 : decode prog_1_method_15_code 18 = .ok (.ireturn, 1) := by decide +kernel
theorem d_Lir_half_19 : decode prog_1_method_15_code 19 = .ok (.aload_n 0, 1) := by decide +kernel
theorem d_Lir_half_20 : decode prog_1_method_15_code 20 = .ok (.aload_n 2, 1) := by decide +kernel
theorem d_Lir_half_21 : decode prog_1_method_15_code 21 = .ok (.invokevirtual 167, 3) := by decide +kernel
theorem d_Lir_half_24 : decode prog_1_method_15_code 24 = .ok (.bipush 127, 2) := by decide +kernel
theorem d_Lir_half_26 : decode prog_1_method_15_code 26 = .ok (.istore_n 3, 1) := by decide +kernel
theorem d_Lir_half_27 : decode prog_1_method_15_code 27 = .ok (.iconst 0, 1) := by decide +kernel
theorem d_Lir_half_28 : decode prog_1_method_15_code 28 = .ok (.istore 4, 2) := by decide +kernel
theorem d_Lir_half_30 : decode prog_1_method_15_code 30 = .ok (.iload 4, 2) := by decide +kernel
theorem d_Lir_half_32 : decode prog_1_method_15_code 32 = .ok (.sipush 128, 3) := by decide +kernel
theorem d_Lir_half_35 : decode prog_1_method_15_code 35 = .ok (.if_icmp .ge 33, 3) := by decide +kernel
theorem d_Lir_half_38 : decode prog_1_method_15_code 38 = .ok (.iload 4, 2) := by decide +kernel
theorem d_Lir_half_40 : decode prog_1_method_15_code 40 = .ok (.invokestatic 159, 3) := by decide +kernel
theorem d_Lir_half_43 : decode prog_1_method_15_code 43 = .ok (.iload_n 3, 1) := by decide +kernel
theorem d_Lir_half_44 : decode prog_1_method_15_code 44 = .ok (.invokestatic 159, 3) := by decide +kernel
theorem d_Lir_half_47 : decode prog_1_method_15_code 47 = .ok (.if_icmp .ge 15, 3) := by decide +kernel
theorem d_Lir_half_50 : decode prog_1_method_15_code 50 = .ok (.aload_n 0, 1) := by decide +kernel
theorem d_Lir_half_51 : decode prog_1_method_15_code 51 = .ok (.iload 4, 2) := by decide +kernel
theorem d_Lir_half_53 : decode prog_1_method_15_code 53 = .ok (.invokevirtual 171, 3) := by decide +kernel
theorem d_Lir_half_56 : decode prog_1_method_15_code 56 = .ok (.ifCond .eq 6, 3) := by decide +kernel
theorem d_Lir_half_59 : decode prog_1_method_15_code 59 = .ok (.iload 4, 2) := by decide +kernel
theorem d_Lir_half_61 : decode prog_1_method_15_code 61 = .ok (.istore_n 3, 1) := by decide +kernel
theorem d_Lir_half_62 : decode prog_1_method_15_code 62 = .ok (.iinc 4 1, 3) := by decide +kernel
theorem d_Lir_half_65 : decode prog_1_method_15_code 65 = .ok (.goto (-35), 3) := by decide +kernel
theorem d_Lir_half_68 : decode prog_1_method_15_code 68 = .ok (.iload_n 3, 1) := by decide +kernel
theorem d_Lir_half_69 : decode prog_1_method_15_code 69 = .ok (.ireturn, 1) := by decide +kernel
theorem d_Lir_sorts_0 : decode prog_1_method_16_code 0 = .ok (.iload_n 1, 1) := by decide +kernel
theorem d_Lir_sorts_1 : decode prog_1_method_16_code 1 = .ok (.ifCond .eq 15, 3) := by decide +kernel
theorem d_Lir_sorts_4 : decode prog_1_method_16_code 4 = .ok (.iload_n 1, 1) := by decide +kernel
theorem d_Lir_sorts_5 : decode prog_1_method_16_code 5 = .ok (.iconst 1, 1) := by decide +kernel
theorem d_Lir_sorts_6 : decode prog_1_method_16_code 6 = .ok (.if_icmp .eq 10, 3) := by decide +kernel
theorem d_Lir_sorts_9 : decode prog_1_method_16_code 9 = .ok (.aload_n 0, 1) := by decide +kernel
theorem d_Lir_sorts_10 : decode prog_1_method_16_code 10 = .ok (.bipush (-2), 2) := by decide +kernel
theorem d_Lir_sorts_12 : decode prog_1_method_16_code 12 = .ok (.invokevirtual 37, 3) := by decide +kernel
theorem d_Lir_sorts_15 : decode prog_1_method_16_code 15 = .ok (.ireturn, 1) := by decide +kernel
theorem d_Lir_sorts_16 : decode prog_1_method_16_code 16 = .ok (.aload_n 0, 1) := by decide +kernel
theorem d_Lir_sorts_17 : decode prog_1_method_16_code 17 = .ok (.invokevirtual 156, 3) := by decide +kernel
theorem d_Lir_sorts_20 : decode prog_1_method_16_code 20 = .ok (.iconst 0, 1) := by decide +kernel
theorem d_Lir_sorts_21 : decode prog_1_method_16_code 21 = .ok (.istore_n 2, 1) := by decide +kernel
theorem d_Lir_sorts_22 : decode prog_1_method_16_code 22 = .ok (.iconst 0, 1) := by decide +kernel
theorem d_Lir_sorts_23 : decode prog_1_method_16_code 23 = .ok (.istore_n 3, 1) := by decide +kernel
theorem d_Lir_sorts_24 : decode prog_1_method_16_code 24 = .ok (.iconst 0, 1) := by decide +kernel
theorem d_Lir_sorts_25 : decode prog_1_method_16_code 25 = .ok (.istore 4, 2) := by decide +kernel
theorem d_Lir_sorts_27 : decode prog_1_method_16_code 27 = .ok (.iload 4, 2) := by decide +kernel
theorem d_Lir_sorts_29 : decode prog_1_method_16_code 29 = .ok (.aload_n 0, 1) := by decide +kernel
theorem d_Lir_sorts_30 : decode prog_1_method_16_code 30 = .ok (.getfield 19, 3) := by decide +kernel
theorem d_Lir_sorts_33 : decode prog_1_method_16_code 33 = .ok (.getfield 53, 3) := by decide +kernel
theorem d_Lir_sorts_36 : decode prog_1_method_16_code 36 = .ok (.if_icmp .ge 34, 3) := by decide +kernel
theorem d_Lir_sorts_39 : decode prog_1_method_16_code 39 = .ok (.aload_n 0, 1) := by decide +kernel
theorem d_Lir_sorts_40 : decode prog_1_method_16_code 40 = .ok (.iload 4, 2) := by decide +kernel
theorem d_Lir_sorts_42 : decode prog_1_method_16_code 42 = .ok (.invokevirtual 174, 3) := by decide +kernel
theorem d_Lir_sorts_45 : decode prog_1_method_16_code 45 = .ok (.iload 4, 2) := by decide +kernel
theorem d_Lir_sorts_47 : decode prog_1_method_16_code 47 = .ok (.if_icmp .ne 17, 3) := by decide +kernel
theorem d_Lir_sorts_50 : decode prog_1_method_16_code 50 = .ok (.iinc 2 1, 3) := by decide +kernel
theorem d_Lir_sorts_53 : decode prog_1_method_16_code 53 = .ok (.iload_n 3, 1) := by decide +kernel
theorem d_Lir_sorts_54 : decode prog_1_method_16_code 54 = .ok (.aload_n 0, 1) := by decide +kernel
theorem d_Lir_sorts_55 : decode prog_1_method_16_code 55 = .ok (.iload 4, 2) := by decide +kernel
theorem d_Lir_sorts_57 : decode prog_1_method_16_code 57 = .ok (.invokevirtual 177, 3) := by decide +kernel
theorem d_Lir_sorts_60 : decode prog_1_method_16_code 60 = .ok (.invokestatic 180, 3) := by decide +kernel
theorem d_Lir_sorts_63 : decode prog_1_method_16_code 63 = .ok (.istore_n 3, 1) := by decide +kernel
theorem d_Lir_sorts_64 : decode prog_1_method_16_code 64 = .ok (.iinc 4 1, 3) := by decide +kernel
theorem d_Lir_sorts_67 : decode prog_1_method_16_code 67 = .ok (.goto (-40), 3) := by decide +kernel
theorem d_Lir_sorts_70 : decode prog_1_method_16_code 70 = .ok (.iload_n 1, 1) := by decide +kernel
theorem d_Lir_sorts_71 : decode prog_1_method_16_code 71 = .ok (.ifCond .ne 7, 3) := by decide +kernel
theorem d_Lir_sorts_74 : decode prog_1_method_16_code 74 = .ok (.iload_n 2, 1) := by decide +kernel
theorem d_Lir_sorts_75 : decode prog_1_method_16_code 75 = .ok (.goto 4, 3) := by decide +kernel
theorem d_Lir_sorts_78 : decode prog_1_method_16_code 78 = .ok (.iload_n 3, 1) := by decide +kernel
theorem d_Lir_sorts_79 : decode prog_1_method_16_code 79 = .ok (.ireturn, 1) := by decide +kernel
theorem d_Lir_alike_0 : decode prog_1_method_17_code 0 = .ok (.aload_n 0, 1) := by decide +kernel
theorem d_Lir_alike_1 : decode prog_1_method_17_code 1 = .ok (.getfield 19, 3) := by decide +kernel
theorem d_Lir_alike_4 : decode prog_1_method_17_code 4 = .ok (.iload_n 1, 1) := by decide +kernel
theorem d_Lir_alike_5 : decode prog_1_method_17_code 5 = .ok (.invokevirtual 74, 3) := by decide +kernel
theorem d_Lir_alike_8 : decode prog_1_method_17_code 8 = .ok (.ifnonnull 9, 3) := by decide +kernel
theorem d_Lir_alike_11 : decode prog_1_method_17_code 11 = .ok (.aload_n 0, 1) := by decide +kernel
theorem d_Lir_alike_12 : decode prog_1_method_17_code 12 = .ok (.iconst (-1), 1) := by decide +kernel
theorem d_Lir_alike_13 : decode prog_1_method_17_code 13 = .ok (.invokevirtual 37, 3) := by decide +kernel
theorem d_Lir_alike_16 : decode prog_1_method_17_code 16 = .ok (.ireturn, 1) := by decide +kernel
theorem d_Lir_alike_17 : decode prog_1_method_17_code 17 = .ok (.aload_n 0, 1) := by decide +kernel
theorem d_Lir_alike_18 : decode prog_1_method_17_code 18 = .ok (.invokevirtual 156, 3) := by decide +kernel
theorem d_Lir_alike_21 : decode prog_1_method_17_code 21 = .ok (.aload_n 0, 1) := by decide +kernel
theorem d_Lir_alike_22 : decode prog_1_method_17_code 22 = .ok (.iload_n 1, 1) := by decide +kernel
theorem d_Lir_alike_23 : decode prog_1_method_17_code 23 = .ok (.invokevirtual 174, 3) := by decide +kernel
theorem d_Lir_alike_26 : decode prog_1_method_17_code 26 = .ok (.ireturn, 1) := by decide +kernel
theorem d_Lir_together_0 : decode prog_1_method_18_code 0 = .ok (.iload_n 1, 1) := by decide +kernel
theorem d_Lir_together_1 : decode prog_1_method_18_code 1 = .ok (.invokestatic 185, 3) := by decide +kernel
theorem d_Lir_together_4 : decode prog_1_method_18_code 4 = .ok (.ifCond .eq 10, 3) := by decide +kernel
theorem d_Lir_together_7 : decode prog_1_method_18_code 7 = .ok (.iload_n 2, 1) := by decide +kernel
theorem d_Lir_together_8 : decode prog_1_method_18_code 8 = .ok (.invokestatic 185, 3) := by decide +kernel
theorem d_Lir_together_11 : decode prog_1_method_18_code 11 = .ok (.ifCond .ne 9, 3) := by decide +kernel
theorem d_Lir_together_14 : decode prog_1_method_18_code 14 = .ok (.aload_n 0, 1) := by decide +kernel
theorem d_Lir_together_15 : decode prog_1_method_18_code 15 = .ok (.iconst (-1), 1) := by decide +kernel
theorem d_Lir_together_16 : decode prog_1_method_18_code 16 = .ok (.invokevirtual 139, 3) := by decide +kernel
theorem d_Lir_together_19 : decode prog_1_method_18_code 19 = .ok (.ireturn, 1) := by decide +kernel
theorem d_Lir_together_20 : decode prog_1_method_18_code 20 = .ok (.iconst 0, 1) := by decide +kernel
theorem d_Lir_together_21 : decode prog_1_method_18_code 21 = .ok (.istore_n 3, 1) := by decide +kernel
theorem d_Lir_together_22 : decode prog_1_method_18_code 22 = .ok (.iconst 0, 1) := by decide +kernel
theorem d_Lir_together_23 : decode prog_1_method_18_code 23 = .ok (.istore 4, 2) := by decide +kernel
theorem d_Lir_together_25 : decode prog_1_method_18_code 25 = .ok (.iconst 0, 1) := by decide +kernel
theorem d_Lir_together_26 : decode prog_1_method_18_code 26 = .ok (.istore 5, 2) := by decide +kernel
theorem d_Lir_together_28 : decode prog_1_method_18_code 28 = .ok (.iconst 0, 1) := by decide +kernel
theorem d_Lir_together_29 : decode prog_1_method_18_code 29 = .ok (.istore 6, 2) := by decide +kernel
theorem d_Lir_together_31 : decode prog_1_method_18_code 31 = .ok (.aload_n 0, 1) := by decide +kernel
theorem d_Lir_together_32 : decode prog_1_method_18_code 32 = .ok (.getfield 19, 3) := by decide +kernel
theorem d_Lir_together_35 : decode prog_1_method_18_code 35 = .ok (.getfield 145, 3) := by decide +kernel
theorem d_Lir_together_38 : decode prog_1_method_18_code 38 = .ok (.astore 7, 2) := by decide +kernel
theorem d_Lir_together_40 : decode prog_1_method_18_code 40 = .ok (.aload 7, 2) := by decide +kernel
theorem d_Lir_together_42 : decode prog_1_method_18_code 42 = .ok (.arraylength, 1) := by decide +kernel
theorem d_Lir_together_43 : decode prog_1_method_18_code 43 = .ok (.istore 8, 2) := by decide +kernel
theorem d_Lir_together_45 : decode prog_1_method_18_code 45 = .ok (.iconst 0, 1) := by decide +kernel
theorem d_Lir_together_46 : decode prog_1_method_18_code 46 = .ok (.istore 9, 2) := by decide +kernel
theorem d_Lir_together_48 : decode prog_1_method_18_code 48 = .ok (.iload 9, 2) := by decide +kernel
theorem d_Lir_together_50 : decode prog_1_method_18_code 50 = .ok (.iload 8, 2) := by decide +kernel
theorem d_Lir_together_52 : decode prog_1_method_18_code 52 = .ok (.if_icmp .ge 69, 3) := by decide +kernel
theorem d_Lir_together_55 : decode prog_1_method_18_code 55 = .ok (.aload 7, 2) := by decide +kernel
theorem d_Lir_together_57 : decode prog_1_method_18_code 57 = .ok (.iload 9, 2) := by decide +kernel
theorem d_Lir_together_59 : decode prog_1_method_18_code 59 = .ok (.aaload, 1) := by decide +kernel
theorem d_Lir_together_60 : decode prog_1_method_18_code 60 = .ok (.astore 10, 2) := by decide +kernel
theorem d_Lir_together_62 : decode prog_1_method_18_code 62 = .ok (.aload 10, 2) := by decide +kernel
theorem d_Lir_together_64 : decode prog_1_method_18_code 64 = .ok (.ifnull 51, 3) := by decide +kernel
theorem d_Lir_together_67 : decode prog_1_method_18_code 67 = .ok (.aload 10, 2) := by decide +kernel
theorem d_Lir_together_69 : decode prog_1_method_18_code 69 = .ok (.iload_n 2, 1) := by decide +kernel
theorem d_Lir_together_70 : decode prog_1_method_18_code 70 = .ok (.invokevirtual 188, 3) := by decide +kernel
theorem d_Lir_together_73 : decode prog_1_method_18_code 73 = .ok (.ifCond .eq 7, 3) := by decide +kernel
theorem d_Lir_together_76 : decode prog_1_method_18_code 76 = .ok (.iconst 1, 1) := by decide +kernel
theorem d_Lir_together_77 : decode prog_1_method_18_code 77 = .ok (.goto 4, 3) := by decide +kernel
theorem d_Lir_together_80 : decode prog_1_method_18_code 80 = .ok (.iconst 0, 1) := by decide +kernel
theorem d_Lir_together_81 : decode prog_1_method_18_code 81 = .ok (.istore 11, 2) := by decide +kernel
theorem d_Lir_together_83 : decode prog_1_method_18_code 83 = .ok (.aload 10, 2) := by decide +kernel
theorem d_Lir_together_85 : decode prog_1_method_18_code 85 = .ok (.iload_n 1, 1) := by decide +kernel
theorem d_Lir_together_86 : decode prog_1_method_18_code 86 = .ok (.invokevirtual 188, 3) := by decide +kernel
theorem d_Lir_together_89 : decode prog_1_method_18_code 89 = .ok (.ifCond .eq 16, 3) := by decide +kernel
theorem d_Lir_together_92 : decode prog_1_method_18_code 92 = .ok (.iinc 3 1, 3) := by decide +kernel
theorem d_Lir_together_95 : decode prog_1_method_18_code 95 = .ok (.iload 4, 2) := by decide +kernel
theorem d_Lir_together_97 : decode prog_1_method_18_code 97 = .ok (.iload 11, 2) := by decide +kernel
theorem d_Lir_together_99 : decode prog_1_method_18_code 99 = .ok (.iadd, 1) := by decide +kernel
theorem d_Lir_together_100 : decode prog_1_method_18_code 100 = .ok (.istore 4, 2) := by decide +kernel
theorem d_Lir_together_102 : decode prog_1_method_18_code 102 = .ok (.goto 13, 3) := by decide +kernel
theorem d_Lir_together_105 : decode prog_1_method_18_code 105 = .ok (.iinc 5 1, 3) := by decide +kernel
theorem d_Lir_together_108 : decode prog_1_method_18_code 108 = .ok (.iload 6, 2) := by decide +kernel
theorem d_Lir_together_110 : decode prog_1_method_18_code 110 = .ok (.iload 11, 2) := by decide +kernel
theorem d_Lir_together_112 : decode prog_1_method_18_code 112 = .ok (.iadd, 1) := by decide +kernel
theorem d_Lir_together_113 : decode prog_1_method_18_code 113 = .ok (.istore 6, 2) := by decide +kernel
theorem d_Lir_together_115 : decode prog_1_method_18_code 115 = .ok (.iinc 9 1, 3) := by decide +kernel
theorem d_Lir_together_118 : decode prog_1_method_18_code 118 = .ok (.goto (-70), 3) := by decide +kernel
theorem d_Lir_together_121 : decode prog_1_method_18_code 121 = .ok (.iload_n 3, 1) := by decide +kernel
theorem d_Lir_together_122 : decode prog_1_method_18_code 122 = .ok (.ifCond .eq 8, 3) := by decide +kernel
theorem d_Lir_together_125 : decode prog_1_method_18_code 125 = .ok (.iload 5, 2) := by decide +kernel
theorem d_Lir_together_127 : decode prog_1_method_18_code 127 = .ok (.ifCond .ne 10, 3) := by decide +kernel
theorem d_Lir_together_130 : decode prog_1_method_18_code 130 = .ok (.aload_n 0, 1) := by decide +kernel
theorem d_Lir_together_131 : decode prog_1_method_18_code 131 = .ok (.bipush (-3), 2) := by decide +kernel
theorem d_Lir_together_133 : decode prog_1_method_18_code 133 = .ok (.invokevirtual 139, 3) := by decide +kernel
theorem d_Lir_together_136 : decode prog_1_method_18_code 136 = .ok (.ireturn, 1) := by decide +kernel
theorem d_Lir_together_137 : decode prog_1_method_18_code 137 = .ok (.iload 4, 2) := by decide +kernel
theorem d_Lir_together_139 : decode prog_1_method_18_code 139 = .ok (.iload_n 3, 1) := by decide +kernel
theorem d_Lir_together_140 : decode prog_1_method_18_code 140 = .ok (.invokestatic 191, 3) := by decide +kernel
theorem d_Lir_together_143 : decode prog_1_method_18_code 143 = .ok (.iload 6, 2) := by decide +kernel
theorem d_Lir_together_145 : decode prog_1_method_18_code 145 = .ok (.iload 5, 2) := by decide +kernel
theorem d_Lir_together_147 : decode prog_1_method_18_code 147 = .ok (.invokestatic 191, 3) := by decide +kernel
theorem d_Lir_together_150 : decode prog_1_method_18_code 150 = .ok (.isub, 1) := by decide +kernel
theorem d_Lir_together_151 : decode prog_1_method_18_code 151 = .ok (.ireturn, 1) := by decide +kernel
theorem d_Lir_twice_0 : decode prog_1_method_19_code 0 = .ok (.aload_n 0, 1) := by decide +kernel
theorem d_Lir_twice_1 : decode prog_1_method_19_code 1 = .ok (.getfield 19, 3) := by decide +kernel
theorem d_Lir_twice_4 : decode prog_1_method_19_code 4 = .ok (.iload_n 1, 1) := by decide +kernel
theorem d_Lir_twice_5 : decode prog_1_method_19_code 5 = .ok (.invokevirtual 74, 3) := by decide +kernel
theorem d_Lir_twice_8 : decode prog_1_method_19_code 8 = .ok (.astore_n 3, 1) := by decide +kernel
theorem d_Lir_twice_9 : decode prog_1_method_19_code 9 = .ok (.aload_n 0, 1) := by decide +kernel
theorem d_Lir_twice_10 : decode prog_1_method_19_code 10 = .ok (.getfield 19, 3) := by decide +kernel
theorem d_Lir_twice_13 : decode prog_1_method_19_code 13 = .ok (.iload_n 2, 1) := by decide +kernel
theorem d_Lir_twice_14 : decode prog_1_method_19_code 14 = .ok (.invokevirtual 74, 3) := by decide +kernel
theorem d_Lir_twice_17 : decode prog_1_method_19_code 17 = .ok (.astore 4, 2) := by decide +kernel
theorem d_Lir_twice_19 : decode prog_1_method_19_code 19 = .ok (.aload_n 3, 1) := by decide +kernel
theorem d_Lir_twice_20 : decode prog_1_method_19_code 20 = .ok (.ifnull 8, 3) := by decide +kernel
theorem d_Lir_twice_23 : decode prog_1_method_19_code 23 = .ok (.aload 4, 2) := by decide +kernel
theorem d_Lir_twice_25 : decode prog_1_method_19_code 25 = .ok (.ifnonnull 9, 3) := by decide +kernel
theorem d_Lir_twice_28 : decode prog_1_method_19_code 28 = .ok (.aload_n 0, 1) := by decide +kernel
theorem d_Lir_twice_29 : decode prog_1_method_19_code 29 = .ok (.iconst (-1), 1) := by decide +kernel
theorem d_Lir_twice_30 : decode prog_1_method_19_code 30 = .ok (.invokevirtual 37, 3) := by decide +kernel
theorem d_Lir_twice_33 : decode prog_1_method_19_code 33 = .ok (.ireturn, 1) := by decide +kernel
theorem d_Lir_twice_34 : decode prog_1_method_19_code 34 = .ok (.aload 4, 2) := by decide +kernel
theorem d_Lir_twice_36 : decode prog_1_method_19_code 36 = .ok (.getfield 92, 3) := by decide +kernel
theorem d_Lir_twice_39 : decode prog_1_method_19_code 39 = .ok (.aload_n 3, 1) := by decide +kernel
theorem d_Lir_twice_40 : decode prog_1_method_19_code 40 = .ok (.getfield 92, 3) := by decide +kernel
theorem d_Lir_twice_43 : decode prog_1_method_19_code 43 = .ok (.if_icmp .gt 10, 3) := by decide +kernel
theorem d_Lir_twice_46 : decode prog_1_method_19_code 46 = .ok (.aload_n 0, 1) := by decide +kernel
theorem d_Lir_twice_47 : decode prog_1_method_19_code 47 = .ok (.bipush (-3), 2) := by decide +kernel
theorem d_Lir_twice_49 : decode prog_1_method_19_code 49 = .ok (.invokevirtual 37, 3) := by decide +kernel
theorem d_Lir_twice_52 : decode prog_1_method_19_code 52 = .ok (.ireturn, 1) := by decide +kernel
theorem d_Lir_twice_53 : decode prog_1_method_19_code 53 = .ok (.aload_n 0, 1) := by decide +kernel
theorem d_Lir_twice_54 : decode prog_1_method_19_code 54 = .ok (.getfield 19, 3) := by decide +kernel
theorem d_Lir_twice_57 : decode prog_1_method_19_code 57 = .ok (.getfield 194, 3) := by decide +kernel
theorem d_Lir_twice_60 : decode prog_1_method_19_code 60 = .ok (.bipush 10, 2) := by decide +kernel
theorem d_Lir_twice_62 : decode prog_1_method_19_code 62 = .ok (.if_icmp .lt 12, 3) := by decide +kernel
theorem d_Lir_twice_65 : decode prog_1_method_19_code 65 = .ok (.aload_n 0, 1) := by decide +kernel
theorem d_Lir_twice_66 : decode prog_1_method_19_code 66 = .ok (.bipush (-6), 2) := by decide +kernel
theorem d_Lir_twice_68 : decode prog_1_method_19_code 68 = .ok (.invokevirtual 37, 3) := by decide +kernel
theorem d_Lir_twice_71 : decode prog_1_method_19_code 71 = .ok (.goto 13, 3) := by decide +kernel
theorem d_Lir_twice_74 : decode prog_1_method_19_code 74 = .ok (.aload_n 0, 1) := by decide +kernel
theorem d_Lir_twice_75 : decode prog_1_method_19_code 75 = .ok (.getfield 19, 3) := by decide +kernel
theorem d_Lir_twice_78 : decode prog_1_method_19_code 78 = .ok (.aload_n 3, 1) := by decide +kernel
theorem d_Lir_twice_79 : decode prog_1_method_19_code 79 = .ok (.aload 4, 2) := by decide +kernel
theorem d_Lir_twice_81 : decode prog_1_method_19_code 81 = .ok (.invokevirtual 197, 3) := by decide +kernel
theorem d_Lir_twice_84 : decode prog_1_method_19_code 84 = .ok (.ireturn, 1) := by decide +kernel
theorem d_Lir_grows_0 : decode prog_1_method_20_code 0 = .ok (.iload_n 1, 1) := by decide +kernel
theorem d_Lir_grows_1 : decode prog_1_method_20_code 1 = .ok (.invokestatic 124, 3) := by decide +kernel
theorem d_Lir_grows_4 : decode prog_1_method_20_code 4 = .ok (.ifCond .eq 10, 3) := by decide +kernel
theorem d_Lir_grows_7 : decode prog_1_method_20_code 7 = .ok (.iload_n 2, 1) := by decide +kernel
theorem d_Lir_grows_8 : decode prog_1_method_20_code 8 = .ok (.invokestatic 142, 3) := by decide +kernel
theorem d_Lir_grows_11 : decode prog_1_method_20_code 11 = .ok (.ifCond .ne 10, 3) := by decide +kernel
theorem d_Lir_grows_14 : decode prog_1_method_20_code 14 = .ok (.aload_n 0, 1) := by decide +kernel
theorem d_Lir_grows_15 : decode prog_1_method_20_code 15 = .ok (.bipush (-2), 2) := by decide +kernel
theorem d_Lir_grows_17 : decode prog_1_method_20_code 17 = .ok (.invokevirtual 139, 3) := by decide +kernel
theorem d_Lir_grows_20 : decode prog_1_method_20_code 20 = .ok (.ireturn, 1) := by decide +kernel
theorem d_Lir_grows_21 : decode prog_1_method_20_code 21 = .ok (.iconst 0, 1) := by decide +kernel
theorem d_Lir_grows_22 : decode prog_1_method_20_code 22 = .ok (.istore_n 3, 1) := by decide +kernel
theorem d_Lir_grows_23 : decode prog_1_method_20_code 23 = .ok (.iconst 0, 1) := by decide +kernel
theorem d_Lir_grows_24 : decode prog_1_method_20_code 24 = .ok (.istore 4, 2) := by decide +kernel
theorem d_Lir_grows_26 : decode prog_1_method_20_code 26 = .ok (.iconst 0, 1) := by decide +kernel
theorem d_Lir_grows_27 : decode prog_1_method_20_code 27 = .ok (.istore 5, 2) := by decide +kernel
theorem d_Lir_grows_29 : decode prog_1_method_20_code 29 = .ok (.iload 5, 2) := by decide +kernel
theorem d_Lir_grows_31 : decode prog_1_method_20_code 31 = .ok (.aload_n 0, 1) := by decide +kernel
theorem d_Lir_grows_32 : decode prog_1_method_20_code 32 = .ok (.getfield 19, 3) := by decide +kernel
theorem d_Lir_grows_35 : decode prog_1_method_20_code 35 = .ok (.getfield 194, 3) := by decide +kernel
theorem d_Lir_grows_38 : decode prog_1_method_20_code 38 = .ok (.if_icmp .ge 79, 3) := by decide +kernel
theorem d_Lir_grows_41 : decode prog_1_method_20_code 41 = .ok (.aload_n 0, 1) := by decide +kernel
theorem d_Lir_grows_42 : decode prog_1_method_20_code 42 = .ok (.getfield 19, 3) := by decide +kernel
theorem d_Lir_grows_45 : decode prog_1_method_20_code 45 = .ok (.iload 5, 2) := by decide +kernel
theorem d_Lir_grows_47 : decode prog_1_method_20_code 47 = .ok (.invokevirtual 201, 3) := by decide +kernel
theorem d_Lir_grows_50 : decode prog_1_method_20_code 50 = .ok (.astore 6, 2) := by decide +kernel
theorem d_Lir_grows_52 : decode prog_1_method_20_code 52 = .ok (.aload_n 0, 1) := by decide +kernel
theorem d_Lir_grows_53 : decode prog_1_method_20_code 53 = .ok (.getfield 19, 3) := by decide +kernel
theorem d_Lir_grows_56 : decode prog_1_method_20_code 56 = .ok (.iload 5, 2) := by decide +kernel
theorem d_Lir_grows_58 : decode prog_1_method_20_code 58 = .ok (.invokevirtual 204, 3) := by decide +kernel
theorem d_Lir_grows_61 : decode prog_1_method_20_code 61 = .ok (.astore 7, 2) := by decide +kernel
theorem d_Lir_grows_63 : decode prog_1_method_20_code 63 = .ok (.aload 6, 2) := by decide +kernel
theorem d_Lir_grows_65 : decode prog_1_method_20_code 65 = .ok (.ifnull 46, 3) := by decide +kernel
theorem d_Lir_grows_68 : decode prog_1_method_20_code 68 = .ok (.aload 7, 2) := by decide +kernel
theorem d_Lir_grows_70 : decode prog_1_method_20_code 70 = .ok (.ifnull 41, 3) := by decide +kernel
theorem d_Lir_grows_73 : decode prog_1_method_20_code 73 = .ok (.aload 6, 2) := by decide +kernel
theorem d_Lir_grows_75 : decode prog_1_method_20_code 75 = .ok (.iload_n 1, 1) := by decide +kernel
theorem d_Lir_grows_76 : decode prog_1_method_20_code 76 = .ok (.invokevirtual 207, 3) := by decide +kernel
theorem d_Lir_grows_79 : decode prog_1_method_20_code 79 = .ok (.ifCond .ne 32, 3) := by decide +kernel
theorem d_Lir_grows_82 : decode prog_1_method_20_code 82 = .ok (.aload 7, 2) := by decide +kernel
theorem d_Lir_grows_84 : decode prog_1_method_20_code 84 = .ok (.iload_n 1, 1) := by decide +kernel
theorem d_Lir_grows_85 : decode prog_1_method_20_code 85 = .ok (.invokevirtual 207, 3) := by decide +kernel
theorem d_Lir_grows_88 : decode prog_1_method_20_code 88 = .ok (.ifCond .ne 23, 3) := by decide +kernel
theorem d_Lir_grows_91 : decode prog_1_method_20_code 91 = .ok (.iload_n 3, 1) := by decide +kernel
theorem d_Lir_grows_92 : decode prog_1_method_20_code 92 = .ok (.aload 6, 2) := by decide +kernel
theorem d_Lir_grows_94 : decode prog_1_method_20_code 94 = .ok (.iload_n 1, 1) := by decide +kernel
theorem d_Lir_grows_95 : decode prog_1_method_20_code 95 = .ok (.invokevirtual 210, 3) := by decide +kernel
theorem d_Lir_grows_98 : decode prog_1_method_20_code 98 = .ok (.iadd, 1) := by decide +kernel
theorem d_Lir_grows_99 : decode prog_1_method_20_code 99 = .ok (.istore_n 3, 1) := by decide +kernel
theorem d_Lir_grows_100 : decode prog_1_method_20_code 100 = .ok (.iload 4, 2) := by decide +kernel
theorem d_Lir_grows_102 : decode prog_1_method_20_code 102 = .ok (.aload 7, 2) := by decide +kernel
theorem d_Lir_grows_104 : decode prog_1_method_20_code 104 = .ok (.iload_n 1, 1) := by decide +kernel
theorem d_Lir_grows_105 : decode prog_1_method_20_code 105 = .ok (.invokevirtual 210, 3) := by decide +kernel
theorem d_Lir_grows_108 : decode prog_1_method_20_code 108 = .ok (.iadd, 1) := by decide +kernel
theorem d_Lir_grows_109 : decode prog_1_method_20_code 109 = .ok (.istore 4, 2) := by decide +kernel
theorem d_Lir_grows_111 : decode prog_1_method_20_code 111 = .ok (.iinc 5 1, 3) := by decide +kernel
theorem d_Lir_grows_114 : decode prog_1_method_20_code 114 = .ok (.goto (-85), 3) := by decide +kernel
theorem d_Lir_grows_117 : decode prog_1_method_20_code 117 = .ok (.iload_n 3, 1) := by decide +kernel
theorem d_Lir_grows_118 : decode prog_1_method_20_code 118 = .ok (.ifCond .ne 12, 3) := by decide +kernel
theorem d_Lir_grows_121 : decode prog_1_method_20_code 121 = .ok (.aload_n 0, 1) := by decide +kernel
theorem d_Lir_grows_122 : decode prog_1_method_20_code 122 = .ok (.bipush (-3), 2) := by decide +kernel
theorem d_Lir_grows_124 : decode prog_1_method_20_code 124 = .ok (.invokevirtual 139, 3) := by decide +kernel
theorem d_Lir_grows_127 : decode prog_1_method_20_code 127 = .ok (.goto 10, 3) := by decide +kernel
theorem d_Lir_grows_130 : decode prog_1_method_20_code 130 = .ok (.iload 4, 2) := by decide +kernel
theorem d_Lir_grows_132 : decode prog_1_method_20_code 132 = .ok (.iload_n 3, 1) := by decide +kernel
theorem d_Lir_grows_133 : decode prog_1_method_20_code 133 = .ok (.iload_n 2, 1) := by decide +kernel
theorem d_Lir_grows_134 : decode prog_1_method_20_code 134 = .ok (.invokestatic 149, 3) := by decide +kernel
theorem d_Lir_grows_137 : decode prog_1_method_20_code 137 = .ok (.ireturn, 1) := by decide +kernel
theorem d_Lir_people_0 : decode prog_1_method_21_code 0 = .ok (.iload_n 1, 1) := by decide +kernel
theorem d_Lir_people_1 : decode prog_1_method_21_code 1 = .ok (.ifCond .lt 9, 3) := by decide +kernel
theorem d_Lir_people_4 : decode prog_1_method_21_code 4 = .ok (.iload_n 1, 1) := by decide +kernel
theorem d_Lir_people_5 : decode prog_1_method_21_code 5 = .ok (.bipush 10, 2) := by decide +kernel
theorem d_Lir_people_7 : decode prog_1_method_21_code 7 = .ok (.if_icmp .lt 9, 3) := by decide +kernel
theorem d_Lir_people_10 : decode prog_1_method_21_code 10 = .ok (.aload_n 0, 1) := by decide +kernel
theorem d_Lir_people_11 : decode prog_1_method_21_code 11 = .ok (.iconst (-1), 1) := by decide +kernel
theorem d_Lir_people_12 : decode prog_1_method_21_code 12 = .ok (.invokevirtual 37, 3) := by decide +kernel
theorem d_Lir_people_15 : decode prog_1_method_21_code 15 = .ok (.ireturn, 1) := by decide +kernel
theorem d_Lir_people_16 : decode prog_1_method_21_code 16 = .ok (.iload_n 2, 1) := by decide +kernel
theorem d_Lir_people_17 : decode prog_1_method_21_code 17 = .ok (.iconst 0, 1) := by decide +kernel
theorem d_Lir_people_18 : decode prog_1_method_21_code 18 = .ok (.sipush 999, 3) := by decide +kernel
theorem d_Lir_people_21 : decode prog_1_method_21_code 21 = .ok (.invokestatic 108, 3) := by decide +kernel
theorem d_Lir_people_24 : decode prog_1_method_21_code 24 = .ok (.istore_n 3, 1) := by decide +kernel
theorem d_Lir_people_25 : decode prog_1_method_21_code 25 = .ok (.iload_n 3, 1) := by decide +kernel
theorem d_Lir_people_26 : decode prog_1_method_21_code 26 = .ok (.ifCond .eq 11, 3) := by decide +kernel
theorem d_Lir_people_29 : decode prog_1_method_21_code 29 = .ok (.aload_n 0, 1) := by decide +kernel
theorem d_Lir_people_30 : decode prog_1_method_21_code 30 = .ok (.iload_n 3, 1) := by decide +kernel
theorem d_Lir_people_31 : decode prog_1_method_21_code 31 = .ok (.invokevirtual 37, 3) := by decide +kernel
theorem d_Lir_people_34 : decode prog_1_method_21_code 34 = .ok (.goto 15, 3) := by decide +kernel
theorem d_Lir_people_37 : decode prog_1_method_21_code 37 = .ok (.aload_n 0, 1) := by decide +kernel
theorem d_Lir_people_38 : decode prog_1_method_21_code 38 = .ok (.getfield 19, 3) := by decide +kernel
theorem d_Lir_people_41 : decode prog_1_method_21_code 41 = .ok (.getfield 213, 3) := by decide +kernel
theorem d_Lir_people_44 : decode prog_1_method_21_code 44 = .ok (.iload_n 1, 1) := by decide +kernel
theorem d_Lir_people_45 : decode prog_1_method_21_code 45 = .ok (.iload_n 2, 1) := by decide +kernel
theorem d_Lir_people_46 : decode prog_1_method_21_code 46 = .ok (.invokestatic 117, 3) := by decide +kernel
theorem d_Lir_people_49 : decode prog_1_method_21_code 49 = .ok (.ireturn, 1) := by decide +kernel
theorem d_Lir_strokes_0 : decode prog_1_method_22_code 0 = .ok (.iload_n 1, 1) := by decide +kernel
theorem d_Lir_strokes_1 : decode prog_1_method_22_code 1 = .ok (.iconst 0, 1) := by decide +kernel
theorem d_Lir_strokes_2 : decode prog_1_method_22_code 2 = .ok (.bipush 99, 2) := by decide +kernel
theorem d_Lir_strokes_4 : decode prog_1_method_22_code 4 = .ok (.invokestatic 108, 3) := by decide +kernel
theorem d_Lir_strokes_7 : decode prog_1_method_22_code 7 = .ok (.istore_n 2, 1) := by decide +kernel
theorem d_Lir_strokes_8 : decode prog_1_method_22_code 8 = .ok (.iload_n 2, 1) := by decide +kernel
theorem d_Lir_strokes_9 : decode prog_1_method_22_code 9 = .ok (.ifCond .eq 9, 3) := by decide +kernel
theorem d_Lir_strokes_12 : decode prog_1_method_22_code 12 = .ok (.aload_n 0, 1) := by decide +kernel
theorem d_Lir_strokes_13 : decode prog_1_method_22_code 13 = .ok (.iload_n 2, 1) := by decide +kernel
theorem d_Lir_strokes_14 : decode prog_1_method_22_code 14 = .ok (.invokevirtual 37, 3) := by decide +kernel
theorem d_Lir_strokes_17 : decode prog_1_method_22_code 17 = .ok (.ireturn, 1) := by decide +kernel
theorem d_Lir_strokes_18 : decode prog_1_method_22_code 18 = .ok (.aload_n 0, 1) := by decide +kernel
theorem d_Lir_strokes_19 : decode prog_1_method_22_code 19 = .ok (.getfield 19, 3) := by decide +kernel
theorem d_Lir_strokes_22 : decode prog_1_method_22_code 22 = .ok (.getfield 216, 3) := by decide +kernel
theorem d_Lir_strokes_25 : decode prog_1_method_22_code 25 = .ok (.istore_n 3, 1) := by decide +kernel
theorem d_Lir_strokes_26 : decode prog_1_method_22_code 26 = .ok (.aload_n 0, 1) := by decide +kernel
theorem d_Lir_strokes_27 : decode prog_1_method_22_code 27 = .ok (.getfield 19, 3) := by decide +kernel
theorem d_Lir_strokes_30 : decode prog_1_method_22_code 30 = .ok (.iload_n 1, 1) := by decide +kernel
theorem d_Lir_strokes_31 : decode prog_1_method_22_code 31 = .ok (.putfield 216, 3) := by decide +kernel
theorem d_Lir_strokes_34 : decode prog_1_method_22_code 34 = .ok (.iload_n 3, 1) := by decide +kernel
theorem d_Lir_strokes_35 : decode prog_1_method_22_code 35 = .ok (.ireturn, 1) := by decide +kernel
theorem d_Lir_reach_0 : decode prog_1_method_23_code 0 = .ok (.aload_n 0, 1) := by decide +kernel
theorem d_Lir_reach_1 : decode prog_1_method_23_code 1 = .ok (.getfield 19, 3) := by decide +kernel
theorem d_Lir_reach_4 : decode prog_1_method_23_code 4 = .ok (.iload_n 1, 1) := by decide +kernel
theorem d_Lir_reach_5 : decode prog_1_method_23_code 5 = .ok (.invokevirtual 104, 3) := by decide +kernel
theorem d_Lir_reach_8 : decode prog_1_method_23_code 8 = .ok (.astore_n 3, 1) := by decide +kernel
theorem d_Lir_reach_9 : decode prog_1_method_23_code 9 = .ok (.aload_n 3, 1) := by decide +kernel
theorem d_Lir_reach_10 : decode prog_1_method_23_code 10 = .ok (.ifnonnull 9, 3) := by decide +kernel
theorem d_Lir_reach_13 : decode prog_1_method_23_code 13 = .ok (.aload_n 0, 1) := by decide +kernel
theorem d_Lir_reach_14 : decode prog_1_method_23_code 14 = .ok (.iconst (-1), 1) := by decide +kernel
theorem d_Lir_reach_15 : decode prog_1_method_23_code 15 = .ok (.invokevirtual 37, 3) := by decide +kernel
theorem d_Lir_reach_18 : decode prog_1_method_23_code 18 = .ok (.ireturn, 1) := by decide +kernel
theorem d_Lir_reach_19 : decode prog_1_method_23_code 19 = .ok (.iload_n 2, 1) := by decide +kernel
theorem d_Lir_reach_20 : decode prog_1_method_23_code 20 = .ok (.iconst 0, 1) := by decide +kernel
theorem d_Lir_reach_21 : decode prog_1_method_23_code 21 = .ok (.bipush 10, 2) := by decide +kernel
theorem d_Lir_reach_23 : decode prog_1_method_23_code 23 = .ok (.invokestatic 108, 3) := by decide +kernel
theorem d_Lir_reach_26 : decode prog_1_method_23_code 26 = .ok (.istore 4, 2) := by decide +kernel
theorem d_Lir_reach_28 : decode prog_1_method_23_code 28 = .ok (.iload 4, 2) := by decide +kernel
theorem d_Lir_reach_30 : decode prog_1_method_23_code 30 = .ok (.ifCond .eq 10, 3) := by decide +kernel
theorem d_Lir_reach_33 : decode prog_1_method_23_code 33 = .ok (.aload_n 0, 1) := by decide +kernel
theorem d_Lir_reach_34 : decode prog_1_method_23_code 34 = .ok (.iload 4, 2) := by decide +kernel
theorem d_Lir_reach_36 : decode prog_1_method_23_code 36 = .ok (.invokevirtual 37, 3) := by decide +kernel
theorem d_Lir_reach_39 : decode prog_1_method_23_code 39 = .ok (.ireturn, 1) := by decide +kernel
theorem d_Lir_reach_40 : decode prog_1_method_23_code 40 = .ok (.aload_n 3, 1) := by decide +kernel
theorem d_Lir_reach_41 : decode prog_1_method_23_code 41 = .ok (.getfield 219, 3) := by decide +kernel
theorem d_Lir_reach_44 : decode prog_1_method_23_code 44 = .ok (.istore 5, 2) := by decide +kernel
theorem d_Lir_reach_46 : decode prog_1_method_23_code 46 = .ok (.aload_n 3, 1) := by decide +kernel
theorem d_Lir_reach_47 : decode prog_1_method_23_code 47 = .ok (.iload_n 2, 1) := by decide +kernel
theorem d_Lir_reach_48 : decode prog_1_method_23_code 48 = .ok (.putfield 219, 3) := by decide +kernel
theorem d_Lir_reach_51 : decode prog_1_method_23_code 51 = .ok (.iload 5, 2) := by decide +kernel
theorem d_Lir_reach_53 : decode prog_1_method_23_code 53 = .ok (.ireturn, 1) := by decide +kernel
theorem d_Lir_should_0 : decode prog_1_method_24_code 0 = .ok (.aload_n 0, 1) := by decide +kernel
theorem d_Lir_should_1 : decode prog_1_method_24_code 1 = .ok (.getfield 19, 3) := by decide +kernel
theorem d_Lir_should_4 : decode prog_1_method_24_code 4 = .ok (.iload_n 1, 1) := by decide +kernel
theorem d_Lir_should_5 : decode prog_1_method_24_code 5 = .ok (.invokevirtual 104, 3) := by decide +kernel
theorem d_Lir_should_8 : decode prog_1_method_24_code 8 = .ok (.astore_n 2, 1) := by decide +kernel
theorem d_Lir_should_9 : decode prog_1_method_24_code 9 = .ok (.aload_n 2, 1) := by decide +kernel
theorem d_Lir_should_10 : decode prog_1_method_24_code 10 = .ok (.ifnonnull 11, 3) := by decide +kernel
theorem d_Lir_should_13 : decode prog_1_method_24_code 13 = .ok (.aload_n 0, 1) := by decide +kernel
theorem d_Lir_should_14 : decode prog_1_method_24_code 14 = .ok (.iconst (-1), 1) := by decide +kernel
theorem d_Lir_should_15 : decode prog_1_method_24_code 15 = .ok (.invokevirtual 37, 3) := by decide +kernel
theorem d_Lir_should_18 : decode prog_1_method_24_code 18 = .ok (.goto 11, 3) := by decide +kernel
theorem d_Lir_should_21 : decode prog_1_method_24_code 21 = .ok (.aload_n 0, 1) := by decide +kernel
theorem d_Lir_should_22 : decode prog_1_method_24_code 22 = .ok (.getfield 19, 3) := by decide +kernel
theorem d_Lir_should_25 : decode prog_1_method_24_code 25 = .ok (.aload_n 2, 1) := by decide +kernel
theorem d_Lir_should_26 : decode prog_1_method_24_code 26 = .ok (.invokevirtual 222, 3) := by decide +kernel
theorem d_Lir_should_29 : decode prog_1_method_24_code 29 = .ok (.ireturn, 1) := by decide +kernel
theorem d_Lir_seen_0 : decode prog_1_method_25_code 0 = .ok (.aload_n 0, 1) := by decide +kernel
theorem d_Lir_seen_1 : decode prog_1_method_25_code 1 = .ok (.getfield 19, 3) := by decide +kernel
theorem d_Lir_seen_4 : decode prog_1_method_25_code 4 = .ok (.iload_n 1, 1) := by decide +kernel
theorem d_Lir_seen_5 : decode prog_1_method_25_code 5 = .ok (.invokevirtual 104, 3) := by decide +kernel
theorem d_Lir_seen_8 : decode prog_1_method_25_code 8 = .ok (.astore_n 2, 1) := by decide +kernel
theorem d_Lir_seen_9 : decode prog_1_method_25_code 9 = .ok (.aload_n 2, 1) := by decide +kernel
theorem d_Lir_seen_10 : decode prog_1_method_25_code 10 = .ok (.ifnonnull 11, 3) := by decide +kernel
theorem d_Lir_seen_13 : decode prog_1_method_25_code 13 = .ok (.aload_n 0, 1) := by decide +kernel
theorem d_Lir_seen_14 : decode prog_1_method_25_code 14 = .ok (.iconst (-1), 1) := by decide +kernel
theorem d_Lir_seen_15 : decode prog_1_method_25_code 15 = .ok (.invokevirtual 37, 3) := by decide +kernel
theorem d_Lir_seen_18 : decode prog_1_method_25_code 18 = .ok (.goto 11, 3) := by decide +kernel
theorem d_Lir_seen_21 : decode prog_1_method_25_code 21 = .ok (.aload_n 0, 1) := by decide +kernel
theorem d_Lir_seen_22 : decode prog_1_method_25_code 22 = .ok (.getfield 19, 3) := by decide +kernel
theorem d_Lir_seen_25 : decode prog_1_method_25_code 25 = .ok (.aload_n 2, 1) := by decide +kernel
theorem d_Lir_seen_26 : decode prog_1_method_25_code 26 = .ok (.invokevirtual 226, 3) := by decide +kernel
theorem d_Lir_seen_29 : decode prog_1_method_25_code 29 = .ok (.ireturn, 1) := by decide +kernel
theorem d_Lir_beyond_0 : decode prog_1_method_26_code 0 = .ok (.aload_n 0, 1) := by decide +kernel
theorem d_Lir_beyond_1 : decode prog_1_method_26_code 1 = .ok (.getfield 19, 3) := by decide +kernel
theorem d_Lir_beyond_4 : decode prog_1_method_26_code 4 = .ok (.iload_n 1, 1) := by decide +kernel
theorem d_Lir_beyond_5 : decode prog_1_method_26_code 5 = .ok (.invokevirtual 104, 3) := by decide +kernel
theorem d_Lir_beyond_8 : decode prog_1_method_26_code 8 = .ok (.astore_n 3, 1) := by decide +kernel
theorem d_Lir_beyond_9 : decode prog_1_method_26_code 9 = .ok (.aload_n 3, 1) := by decide +kernel
theorem d_Lir_beyond_10 : decode prog_1_method_26_code 10 = .ok (.ifnonnull 9, 3) := by decide +kernel
theorem d_Lir_beyond_13 : decode prog_1_method_26_code 13 = .ok (.aload_n 0, 1) := by decide +kernel
theorem d_Lir_beyond_14 : decode prog_1_method_26_code 14 = .ok (.iconst (-1), 1) := by decide +kernel
theorem d_Lir_beyond_15 : decode prog_1_method_26_code 15 = .ok (.invokevirtual 139, 3) := by decide +kernel
theorem d_Lir_beyond_18 : decode prog_1_method_26_code 18 = .ok (.ireturn, 1) := by decide +kernel
theorem d_Lir_beyond_19 : decode prog_1_method_26_code 19 = .ok (.iload_n 2, 1) := by decide +kernel
theorem d_Lir_beyond_20 : decode prog_1_method_26_code 20 = .ok (.iconst 1, 1) := by decide +kernel
theorem d_Lir_beyond_21 : decode prog_1_method_26_code 21 = .ok (.sipush 999, 3) := by decide +kernel
theorem d_Lir_beyond_24 : decode prog_1_method_26_code 24 = .ok (.invokestatic 108, 3) := by decide +kernel
theorem d_Lir_beyond_27 : decode prog_1_method_26_code 27 = .ok (.istore 4, 2) := by decide +kernel
theorem d_Lir_beyond_29 : decode prog_1_method_26_code 29 = .ok (.iload 4, 2) := by decide +kernel
theorem d_Lir_beyond_31 : decode prog_1_method_26_code 31 = .ok (.ifCond .eq 10, 3) := by decide +kernel
theorem d_Lir_beyond_34 : decode prog_1_method_26_code 34 = .ok (.aload_n 0, 1) := by decide +kernel
theorem d_Lir_beyond_35 : decode prog_1_method_26_code 35 = .ok (.iload 4, 2) := by decide +kernel
theorem d_Lir_beyond_37 : decode prog_1_method_26_code 37 = .ok (.invokevirtual 139, 3) := by decide +kernel
theorem d_Lir_beyond_40 : decode prog_1_method_26_code 40 = .ok (.ireturn, 1) := by decide +kernel
theorem d_Lir_beyond_41 : decode prog_1_method_26_code 41 = .ok (.aload_n 0, 1) := by decide +kernel
theorem d_Lir_beyond_42 : decode prog_1_method_26_code 42 = .ok (.getfield 19, 3) := by decide +kernel
theorem d_Lir_beyond_45 : decode prog_1_method_26_code 45 = .ok (.aload_n 3, 1) := by decide +kernel
theorem d_Lir_beyond_46 : decode prog_1_method_26_code 46 = .ok (.invokevirtual 226, 3) := by decide +kernel
theorem d_Lir_beyond_49 : decode prog_1_method_26_code 49 = .ok (.iload_n 2, 1) := by decide +kernel
theorem d_Lir_beyond_50 : decode prog_1_method_26_code 50 = .ok (.imul, 1) := by decide +kernel
theorem d_Lir_beyond_51 : decode prog_1_method_26_code 51 = .ok (.aload_n 0, 1) := by decide +kernel
theorem d_Lir_beyond_52 : decode prog_1_method_26_code 52 = .ok (.getfield 19, 3) := by decide +kernel
theorem d_Lir_beyond_55 : decode prog_1_method_26_code 55 = .ok (.aload_n 3, 1) := by decide +kernel
theorem d_Lir_beyond_56 : decode prog_1_method_26_code 56 = .ok (.invokevirtual 222, 3) := by decide +kernel
theorem d_Lir_beyond_59 : decode prog_1_method_26_code 59 = .ok (.isub, 1) := by decide +kernel
theorem d_Lir_beyond_60 : decode prog_1_method_26_code 60 = .ok (.ireturn, 1) := by decide +kernel
theorem d_Lir_leads_0 : decode prog_1_method_27_code 0 = .ok (.aload_n 0, 1) := by decide +kernel
theorem d_Lir_leads_1 : decode prog_1_method_27_code 1 = .ok (.getfield 19, 3) := by decide +kernel
theorem d_Lir_leads_4 : decode prog_1_method_27_code 4 = .ok (.invokevirtual 229, 3) := by decide +kernel
theorem d_Lir_leads_7 : decode prog_1_method_27_code 7 = .ok (.istore_n 1, 1) := by decide +kernel
theorem d_Lir_leads_8 : decode prog_1_method_27_code 8 = .ok (.aload_n 0, 1) := by decide +kernel
theorem d_Lir_leads_9 : decode prog_1_method_27_code 9 = .ok (.getfield 19, 3) := by decide +kernel
theorem d_Lir_leads_12 : decode prog_1_method_27_code 12 = .ok (.getfield 53, 3) := by decide +kernel
theorem d_Lir_leads_15 : decode prog_1_method_27_code 15 = .ok (.iload_n 1, 1) := by decide +kernel
theorem d_Lir_leads_16 : decode prog_1_method_27_code 16 = .ok (.isub, 1) := by decide +kernel
theorem d_Lir_leads_17 : decode prog_1_method_27_code 17 = .ok (.istore_n 2, 1) := by decide +kernel
theorem d_Lir_leads_18 : decode prog_1_method_27_code 18 = .ok (.iload_n 1, 1) := by decide +kernel
theorem d_Lir_leads_19 : decode prog_1_method_27_code 19 = .ok (.ifCond .eq 7, 3) := by decide +kernel
theorem d_Lir_leads_22 : decode prog_1_method_27_code 22 = .ok (.iload_n 2, 1) := by decide +kernel
theorem d_Lir_leads_23 : decode prog_1_method_27_code 23 = .ok (.ifCond .ne 6, 3) := by decide +kernel
theorem d_Lir_leads_26 : decode prog_1_method_27_code 26 = .ok (.bipush (-9), 2) := by decide +kernel
theorem d_Lir_leads_28 : decode prog_1_method_27_code 28 = .ok (.ireturn, 1) := by decide +kernel
theorem d_Lir_leads_29 : decode prog_1_method_27_code 29 = .ok (.bipush (-9), 2) := by decide +kernel
theorem d_Lir_leads_31 : decode prog_1_method_27_code 31 = .ok (.istore_n 3, 1) := by decide +kernel
theorem d_Lir_leads_32 : decode prog_1_method_27_code 32 = .ok (.iconst 0, 1) := by decide +kernel
theorem d_Lir_leads_33 : decode prog_1_method_27_code 33 = .ok (.istore 4, 2) := by decide +kernel
theorem d_Lir_leads_35 : decode prog_1_method_27_code 35 = .ok (.iconst 0, 1) := by decide +kernel
theorem d_Lir_leads_36 : decode prog_1_method_27_code 36 = .ok (.istore 5, 2) := by decide +kernel
theorem d_Lir_leads_38 : decode prog_1_method_27_code 38 = .ok (.iload 5, 2) := by decide +kernel
theorem d_Lir_leads_40 : decode prog_1_method_27_code 40 = .ok (.bipush 6, 2) := by decide +kernel
theorem d_Lir_leads_42 : decode prog_1_method_27_code 42 = .ok (.if_icmp .ge 85, 3) := by decide +kernel
theorem d_Lir_leads_45 : decode prog_1_method_27_code 45 = .ok (.aload_n 0, 1) := by decide +kernel
theorem d_Lir_leads_46 : decode prog_1_method_27_code 46 = .ok (.getfield 19, 3) := by decide +kernel
theorem d_Lir_leads_49 : decode prog_1_method_27_code 49 = .ok (.iload 5, 2) := by decide +kernel
theorem d_Lir_leads_51 : decode prog_1_method_27_code 51 = .ok (.invokevirtual 104, 3) := by decide +kernel
theorem d_Lir_leads_54 : decode prog_1_method_27_code 54 = .ok (.astore 6, 2) := by decide +kernel
theorem d_Lir_leads_56 : decode prog_1_method_27_code 56 = .ok (.aload 6, 2) := by decide +kernel
theorem d_Lir_leads_58 : decode prog_1_method_27_code 58 = .ok (.ifnull 63, 3) := by decide +kernel
theorem d_Lir_leads_61 : decode prog_1_method_27_code 61 = .ok (.aload_n 0, 1) := by decide +kernel
theorem d_Lir_leads_62 : decode prog_1_method_27_code 62 = .ok (.getfield 19, 3) := by decide +kernel
theorem d_Lir_leads_65 : decode prog_1_method_27_code 65 = .ok (.aload 6, 2) := by decide +kernel
theorem d_Lir_leads_67 : decode prog_1_method_27_code 67 = .ok (.invokevirtual 226, 3) := by decide +kernel
theorem d_Lir_leads_70 : decode prog_1_method_27_code 70 = .ok (.istore 7, 2) := by decide +kernel
theorem d_Lir_leads_72 : decode prog_1_method_27_code 72 = .ok (.aload_n 0, 1) := by decide +kernel
theorem d_Lir_leads_73 : decode prog_1_method_27_code 73 = .ok (.getfield 19, 3) := by decide +kernel
theorem d_Lir_leads_76 : decode prog_1_method_27_code 76 = .ok (.aload 6, 2) := by decide +kernel
theorem d_Lir_leads_78 : decode prog_1_method_27_code 78 = .ok (.invokevirtual 232, 3) := by decide +kernel
theorem d_Lir_leads_81 : decode prog_1_method_27_code 81 = .ok (.istore 8, 2) := by decide +kernel
theorem d_Lir_leads_83 : decode prog_1_method_27_code 83 = .ok (.iload 8, 2) := by decide +kernel
theorem d_Lir_leads_85 : decode prog_1_method_27_code 85 = .ok (.iload_n 1, 1) := by decide +kernel
theorem d_Lir_leads_86 : decode prog_1_method_27_code 86 = .ok (.invokestatic 191, 3) := by decide +kernel
theorem d_Lir_leads_89 : decode prog_1_method_27_code 89 = .ok (.iload 7, 2) := by decide +kernel
theorem d_Lir_leads_91 : decode prog_1_method_27_code 91 = .ok (.iload 8, 2) := by decide +kernel
theorem d_Lir_leads_93 : decode prog_1_method_27_code 93 = .ok (.isub, 1) := by decide +kernel
theorem d_Lir_leads_94 : decode prog_1_method_27_code 94 = .ok (.iload_n 2, 1) := by decide +kernel
theorem d_Lir_leads_95 : decode prog_1_method_27_code 95 = .ok (.invokestatic 191, 3) := by decide +kernel
theorem d_Lir_leads_98 : decode prog_1_method_27_code 98 = .ok (.isub, 1) := by decide +kernel
theorem d_Lir_leads_99 : decode prog_1_method_27_code 99 = .ok (.istore 9, 2) := by decide +kernel
theorem d_Lir_leads_101 : decode prog_1_method_27_code 101 = .ok (.iload_n 3, 1) := by decide +kernel
theorem d_Lir_leads_102 : decode prog_1_method_27_code 102 = .ok (.bipush (-9), 2) := by decide +kernel
theorem d_Lir_leads_104 : decode prog_1_method_27_code 104 = .ok (.if_icmp .eq 10, 3) := by decide +kernel
theorem d_Lir_leads_107 : decode prog_1_method_27_code 107 = .ok (.iload 9, 2) := by decide +kernel
theorem d_Lir_leads_109 : decode prog_1_method_27_code 109 = .ok (.iload 4, 2) := by decide +kernel
theorem d_Lir_leads_111 : decode prog_1_method_27_code 111 = .ok (.if_icmp .le 10, 3) := by decide +kernel
theorem d_Lir_leads_114 : decode prog_1_method_27_code 114 = .ok (.iload 5, 2) := by decide +kernel
theorem d_Lir_leads_116 : decode prog_1_method_27_code 116 = .ok (.istore_n 3, 1) := by decide +kernel
theorem d_Lir_leads_117 : decode prog_1_method_27_code 117 = .ok (.iload 9, 2) := by decide +kernel
theorem d_Lir_leads_119 : decode prog_1_method_27_code 119 = .ok (.istore 4, 2) := by decide +kernel
theorem d_Lir_leads_121 : decode prog_1_method_27_code 121 = .ok (.iinc 5 1, 3) := by decide +kernel
theorem d_Lir_leads_124 : decode prog_1_method_27_code 124 = .ok (.goto (-86), 3) := by decide +kernel
theorem d_Lir_leads_127 : decode prog_1_method_27_code 127 = .ok (.iload_n 3, 1) := by decide +kernel
theorem d_Lir_leads_128 : decode prog_1_method_27_code 128 = .ok (.ireturn, 1) := by decide +kernel
theorem d_Lir_pictures_0 : decode prog_1_method_28_code 0 = .ok (.aload_n 0, 1) := by decide +kernel
theorem d_Lir_pictures_1 : decode prog_1_method_28_code 1 = .ok (.getfield 19, 3) := by decide +kernel
theorem d_Lir_pictures_4 : decode prog_1_method_28_code 4 = .ok (.iload_n 1, 1) := by decide +kernel
theorem d_Lir_pictures_5 : decode prog_1_method_28_code 5 = .ok (.invokevirtual 104, 3) := by decide +kernel
theorem d_Lir_pictures_8 : decode prog_1_method_28_code 8 = .ok (.ifnonnull 11, 3) := by decide +kernel
theorem d_Lir_pictures_11 : decode prog_1_method_28_code 11 = .ok (.aload_n 0, 1) := by decide +kernel
theorem d_Lir_pictures_12 : decode prog_1_method_28_code 12 = .ok (.iconst (-1), 1) := by decide +kernel
theorem d_Lir_pictures_13 : decode prog_1_method_28_code 13 = .ok (.invokevirtual 37, 3) := by decide +kernel
theorem d_Lir_pictures_16 : decode prog_1_method_28_code 16 = .ok (.goto 11, 3) := by decide +kernel
theorem d_Lir_pictures_19 : decode prog_1_method_28_code 19 = .ok (.aload_n 0, 1) := by decide +kernel
theorem d_Lir_pictures_20 : decode prog_1_method_28_code 20 = .ok (.iload_n 1, 1) := by decide +kernel
theorem d_Lir_pictures_21 : decode prog_1_method_28_code 21 = .ok (.sipush 128, 3) := by decide +kernel
theorem d_Lir_pictures_24 : decode prog_1_method_28_code 24 = .ok (.invokevirtual 152, 3) := by decide +kernel
theorem d_Lir_pictures_27 : decode prog_1_method_28_code 27 = .ok (.ireturn, 1) := by decide +kernel
theorem d_Lir_bench_0 : decode prog_1_method_29_code 0 = .ok (.iload_n 3, 1) := by decide +kernel
theorem d_Lir_bench_1 : decode prog_1_method_29_code 1 = .ok (.ifCond .lt 22, 3) := by decide +kernel
theorem d_Lir_bench_4 : decode prog_1_method_29_code 4 = .ok (.iload_n 3, 1) := by decide +kernel
theorem d_Lir_bench_5 : decode prog_1_method_29_code 5 = .ok (.bipush 7, 2) := by decide +kernel
theorem d_Lir_bench_7 : decode prog_1_method_29_code 7 = .ok (.if_icmp .gt 16, 3) := by decide +kernel
theorem d_Lir_bench_10 : decode prog_1_method_29_code 10 = .ok (.iload 4, 2) := by decide +kernel
theorem d_Lir_bench_12 : decode prog_1_method_29_code 12 = .ok (.ifCond .lt 11, 3) := by decide +kernel
theorem d_Lir_bench_15 : decode prog_1_method_29_code 15 = .ok (.iload 4, 2) := by decide +kernel
theorem d_Lir_bench_17 : decode prog_1_method_29_code 17 = .ok (.sipush 255, 3) := by decide +kernel
theorem d_Lir_bench_20 : decode prog_1_method_29_code 20 = .ok (.if_icmp .le 9, 3) := by decide +kernel
theorem d_Lir_bench_23 : decode prog_1_method_29_code 23 = .ok (.aload_n 0, 1) := by decide +kernel
theorem d_Lir_bench_24 : decode prog_1_method_29_code 24 = .ok (.iconst (-1), 1) := by decide +kernel
theorem d_Lir_bench_25 : decode prog_1_method_29_code 25 = .ok (.invokevirtual 37, 3) := by decide +kernel
theorem d_Lir_bench_28 : decode prog_1_method_29_code 28 = .ok (.ireturn, 1) := by decide +kernel
theorem d_Lir_bench_29 : decode prog_1_method_29_code 29 = .ok (.iload_n 1, 1) := by decide +kernel
theorem d_Lir_bench_30 : decode prog_1_method_29_code 30 = .ok (.ifCond .lt 7, 3) := by decide +kernel
theorem d_Lir_bench_33 : decode prog_1_method_29_code 33 = .ok (.iload_n 2, 1) := by decide +kernel
theorem d_Lir_bench_34 : decode prog_1_method_29_code 34 = .ok (.ifCond .ge 10, 3) := by decide +kernel
theorem d_Lir_bench_37 : decode prog_1_method_29_code 37 = .ok (.aload_n 0, 1) := by decide +kernel
theorem d_Lir_bench_38 : decode prog_1_method_29_code 38 = .ok (.bipush (-4), 2) := by decide +kernel
theorem d_Lir_bench_40 : decode prog_1_method_29_code 40 = .ok (.invokevirtual 37, 3) := by decide +kernel
theorem d_Lir_bench_43 : decode prog_1_method_29_code 43 = .ok (.ireturn, 1) := by decide +kernel
theorem d_Lir_bench_44 : decode prog_1_method_29_code 44 = .ok (.iload_n 1, 1) := by decide +kernel
theorem d_Lir_bench_45 : decode prog_1_method_29_code 45 = .ok (.sipush 999, 3) := by decide +kernel
theorem d_Lir_bench_48 : decode prog_1_method_29_code 48 = .ok (.if_icmp .gt 10, 3) := by decide +kernel
theorem d_Lir_bench_51 : decode prog_1_method_29_code 51 = .ok (.iload_n 2, 1) := by decide +kernel
theorem d_Lir_bench_52 : decode prog_1_method_29_code 52 = .ok (.sipush 999, 3) := by decide +kernel
theorem d_Lir_bench_55 : decode prog_1_method_29_code 55 = .ok (.if_icmp .le 10, 3) := by decide +kernel
theorem d_Lir_bench_58 : decode prog_1_method_29_code 58 = .ok (.aload_n 0, 1) := by decide +kernel
theorem d_Lir_bench_59 : decode prog_1_method_29_code 59 = .ok (.bipush (-6), 2) := by decide +kernel
theorem d_Lir_bench_61 : decode prog_1_method_29_code 61 = .ok (.invokevirtual 37, 3) := by decide +kernel
theorem d_Lir_bench_64 : decode prog_1_method_29_code 64 = .ok (.ireturn, 1) := by decide +kernel
theorem d_Lir_bench_65 : decode prog_1_method_29_code 65 = .ok (.aload_n 0, 1) := by decide +kernel
theorem d_Lir_bench_66 : decode prog_1_method_29_code 66 = .ok (.getfield 19, 3) := by decide +kernel
theorem d_Lir_bench_69 : decode prog_1_method_29_code 69 = .ok (.getfield 235, 3) := by decide +kernel
theorem d_Lir_bench_72 : decode prog_1_method_29_code 72 = .ok (.iload_n 1, 1) := by decide +kernel
theorem d_Lir_bench_73 : decode prog_1_method_29_code 73 = .ok (.iload_n 2, 1) := by decide +kernel
theorem d_Lir_bench_74 : decode prog_1_method_29_code 74 = .ok (.iload_n 3, 1) := by decide +kernel
theorem d_Lir_bench_75 : decode prog_1_method_29_code 75 = .ok (.iload 4, 2) := by decide +kernel
theorem d_Lir_bench_77 : decode prog_1_method_29_code 77 = .ok (.invokevirtual 239, 3) := by decide +kernel
theorem d_Lir_bench_80 : decode prog_1_method_29_code 80 = .ok (.iconst 1, 1) := by decide +kernel
theorem d_Lir_bench_81 : decode prog_1_method_29_code 81 = .ok (.ireturn, 1) := by decide +kernel
theorem d_Lir_lines_0 : decode prog_1_method_30_code 0 = .ok (.aload_n 0, 1) := by decide +kernel
theorem d_Lir_lines_1 : decode prog_1_method_30_code 1 = .ok (.getfield 19, 3) := by decide +kernel
theorem d_Lir_lines_4 : decode prog_1_method_30_code 4 = .ok (.iload_n 1, 1) := by decide +kernel
theorem d_Lir_lines_5 : decode prog_1_method_30_code 5 = .ok (.invokevirtual 74, 3) := by decide +kernel
theorem d_Lir_lines_8 : decode prog_1_method_30_code 8 = .ok (.astore_n 2, 1) := by decide +kernel
theorem d_Lir_lines_9 : decode prog_1_method_30_code 9 = .ok (.aload_n 2, 1) := by decide +kernel
theorem d_Lir_lines_10 : decode prog_1_method_30_code 10 = .ok (.ifnonnull 9, 3) := by decide +kernel
theorem d_Lir_lines_13 : decode prog_1_method_30_code 13 = .ok (.aload_n 0, 1) := by decide +kernel
theorem d_Lir_lines_14 : decode prog_1_method_30_code 14 = .ok (.iconst (-1), 1) := by decide +kernel
theorem d_Lir_lines_15 : decode prog_1_method_30_code 15 = .ok (.invokevirtual 37, 3) := by decide +kernel
theorem d_Lir_lines_18 : decode prog_1_method_30_code 18 = .ok (.ireturn, 1) := by decide +kernel
theorem d_Lir_lines_19 : decode prog_1_method_30_code 19 = .ok (.bipush 11, 2) := by decide +kernel
theorem d_Lir_lines_21 : decode prog_1_method_30_code 21 = .ok (.aload_n 0, 1) := by decide +kernel
theorem d_Lir_lines_22 : decode prog_1_method_30_code 22 = .ok (.getfield 19, 3) := by decide +kernel
theorem d_Lir_lines_25 : decode prog_1_method_30_code 25 = .ok (.getfield 235, 3) := by decide +kernel
theorem d_Lir_lines_28 : decode prog_1_method_30_code 28 = .ok (.aload_n 2, 1) := by decide +kernel
theorem d_Lir_lines_29 : decode prog_1_method_30_code 29 = .ok (.invokevirtual 245, 3) := by decide +kernel
theorem d_Lir_lines_32 : decode prog_1_method_30_code 32 = .ok (.invokestatic 159, 3) := by decide +kernel
theorem d_Lir_lines_35 : decode prog_1_method_30_code 35 = .ok (.isub, 1) := by decide +kernel
theorem d_Lir_lines_36 : decode prog_1_method_30_code 36 = .ok (.ireturn, 1) := by decide +kernel
theorem d_Lir_misses_0 : decode prog_1_method_31_code 0 = .ok (.aload_n 0, 1) := by decide +kernel
theorem d_Lir_misses_1 : decode prog_1_method_31_code 1 = .ok (.getfield 19, 3) := by decide +kernel
theorem d_Lir_misses_4 : decode prog_1_method_31_code 4 = .ok (.iload_n 1, 1) := by decide +kernel
theorem d_Lir_misses_5 : decode prog_1_method_31_code 5 = .ok (.invokevirtual 74, 3) := by decide +kernel
theorem d_Lir_misses_8 : decode prog_1_method_31_code 8 = .ok (.astore_n 2, 1) := by decide +kernel
theorem d_Lir_misses_9 : decode prog_1_method_31_code 9 = .ok (.aload_n 2, 1) := by decide +kernel
theorem d_Lir_misses_10 : decode prog_1_method_31_code 10 = .ok (.ifnonnull 9, 3) := by decide +kernel
theorem d_Lir_misses_13 : decode prog_1_method_31_code 13 = .ok (.aload_n 0, 1) := by decide +kernel
theorem d_Lir_misses_14 : decode prog_1_method_31_code 14 = .ok (.iconst (-1), 1) := by decide +kernel
theorem d_Lir_misses_15 : decode prog_1_method_31_code 15 = .ok (.invokevirtual 37, 3) := by decide +kernel
theorem d_Lir_misses_18 : decode prog_1_method_31_code 18 = .ok (.ireturn, 1) := by decide +kernel
theorem d_Lir_misses_19 : decode prog_1_method_31_code 19 = .ok (.aload_n 0, 1) := by decide +kernel
theorem d_Lir_misses_20 : decode prog_1_method_31_code 20 = .ok (.getfield 19, 3) := by decide +kernel
theorem d_Lir_misses_23 : decode prog_1_method_31_code 23 = .ok (.getfield 235, 3) := by decide +kernel
theorem d_Lir_misses_26 : decode prog_1_method_31_code 26 = .ok (.aload_n 2, 1) := by decide +kernel
theorem d_Lir_misses_27 : decode prog_1_method_31_code 27 = .ok (.invokevirtual 245, 3) := by decide +kernel
theorem d_Lir_misses_30 : decode prog_1_method_31_code 30 = .ok (.istore_n 3, 1) := by decide +kernel
theorem d_Lir_misses_31 : decode prog_1_method_31_code 31 = .ok (.iconst 0, 1) := by decide +kernel
theorem d_Lir_misses_32 : decode prog_1_method_31_code 32 = .ok (.istore 4, 2) := by decide +kernel
theorem d_Lir_misses_34 : decode prog_1_method_31_code 34 = .ok (.iload 4, 2) := by decide +kernel
theorem d_Lir_misses_36 : decode prog_1_method_31_code 36 = .ok (.bipush 11, 2) := by decide +kernel
theorem d_Lir_misses_38 : decode prog_1_method_31_code 38 = .ok (.if_icmp .ge 21, 3) := by decide +kernel
theorem d_Lir_misses_41 : decode prog_1_method_31_code 41 = .ok (.iload_n 3, 1) := by decide +kernel
theorem d_Lir_misses_42 : decode prog_1_method_31_code 42 = .ok (.iload 4, 2) := by decide +kernel
theorem d_Lir_misses_44 : decode prog_1_method_31_code 44 = .ok (.invokestatic 248, 3) := by decide +kernel
theorem d_Lir_misses_47 : decode prog_1_method_31_code 47 = .ok (.ifCond .eq 6, 3) := by decide +kernel
theorem d_Lir_misses_50 : decode prog_1_method_31_code 50 = .ok (.iload 4, 2) := by decide +kernel
theorem d_Lir_misses_52 : decode prog_1_method_31_code 52 = .ok (.ireturn, 1) := by decide +kernel
theorem d_Lir_misses_53 : decode prog_1_method_31_code 53 = .ok (.iinc 4 1, 3) := by decide +kernel
theorem d_Lir_misses_56 : decode prog_1_method_31_code 56 = .ok (.goto (-22), 3) := by decide +kernel
theorem d_Lir_misses_59 : decode prog_1_method_31_code 59 = .ok (.bipush (-9), 2) := by decide +kernel
theorem d_Lir_misses_61 : decode prog_1_method_31_code 61 = .ok (.ireturn, 1) := by decide +kernel
theorem d_Lir_barred_0 : decode prog_1_method_32_code 0 = .ok (.iload_n 1, 1) := by decide +kernel
theorem d_Lir_barred_1 : decode prog_1_method_32_code 1 = .ok (.ifCond .lt 10, 3) := by decide +kernel
theorem d_Lir_barred_4 : decode prog_1_method_32_code 4 = .ok (.iload_n 1, 1) := by decide +kernel
theorem d_Lir_barred_5 : decode prog_1_method_32_code 5 = .ok (.sipush 255, 3) := by decide +kernel
theorem d_Lir_barred_8 : decode prog_1_method_32_code 8 = .ok (.if_icmp .le 9, 3) := by decide +kernel
theorem d_Lir_barred_11 : decode prog_1_method_32_code 11 = .ok (.aload_n 0, 1) := by decide +kernel
theorem d_Lir_barred_12 : decode prog_1_method_32_code 12 = .ok (.iconst (-1), 1) := by decide +kernel
theorem d_Lir_barred_13 : decode prog_1_method_32_code 13 = .ok (.invokevirtual 37, 3) := by decide +kernel
theorem d_Lir_barred_16 : decode prog_1_method_32_code 16 = .ok (.ireturn, 1) := by decide +kernel
theorem d_Lir_barred_17 : decode prog_1_method_32_code 17 = .ok (.iconst 0, 1) := by decide +kernel
theorem d_Lir_barred_18 : decode prog_1_method_32_code 18 = .ok (.istore_n 2, 1) := by decide +kernel
theorem d_Lir_barred_19 : decode prog_1_method_32_code 19 = .ok (.iconst 0, 1) := by decide +kernel
theorem d_Lir_barred_20 : decode prog_1_method_32_code 20 = .ok (.istore_n 3, 1) := by decide +kernel
theorem d_Lir_barred_21 : decode prog_1_method_32_code 21 = .ok (.iload_n 3, 1) := by decide +kernel
theorem d_Lir_barred_22 : decode prog_1_method_32_code 22 = .ok (.bipush 6, 2) := by decide +kernel
theorem d_Lir_barred_24 : decode prog_1_method_32_code 24 = .ok (.if_icmp .ge 44, 3) := by decide +kernel
theorem d_Lir_barred_27 : decode prog_1_method_32_code 27 = .ok (.aload_n 0, 1) := by decide +kernel
theorem d_Lir_barred_28 : decode prog_1_method_32_code 28 = .ok (.getfield 19, 3) := by decide +kernel
theorem d_Lir_barred_31 : decode prog_1_method_32_code 31 = .ok (.iload_n 3, 1) := by decide +kernel
theorem d_Lir_barred_32 : decode prog_1_method_32_code 32 = .ok (.invokevirtual 104, 3) := by decide +kernel
theorem d_Lir_barred_35 : decode prog_1_method_32_code 35 = .ok (.astore 4, 2) := by decide +kernel
theorem d_Lir_barred_37 : decode prog_1_method_32_code 37 = .ok (.aload 4, 2) := by decide +kernel
theorem d_Lir_barred_39 : decode prog_1_method_32_code 39 = .ok (.ifnull 23, 3) := by decide +kernel
theorem d_Lir_barred_42 : decode prog_1_method_32_code 42 = .ok (.iload_n 1, 1) := by decide +kernel
theorem d_Lir_barred_43 : decode prog_1_method_32_code 43 = .ok (.aload 4, 2) := by decide +kernel
theorem d_Lir_barred_45 : decode prog_1_method_32_code 45 = .ok (.getfield 112, 3) := by decide +kernel
theorem d_Lir_barred_48 : decode prog_1_method_32_code 48 = .ok (.iconst 4, 1) := by decide +kernel
theorem d_Lir_barred_49 : decode prog_1_method_32_code 49 = .ok (.iaload, 1) := by decide +kernel
theorem d_Lir_barred_50 : decode prog_1_method_32_code 50 = .ok (.iconst (-1), 1) := by decide +kernel
theorem d_Lir_barred_51 : decode prog_1_method_32_code 51 = .ok (.ixor, 1) := by decide +kernel
theorem d_Lir_barred_52 : decode prog_1_method_32_code 52 = .ok (.iand, 1) := by decide +kernel
theorem d_Lir_barred_53 : decode prog_1_method_32_code 53 = .ok (.ifCond .eq 9, 3) := by decide +kernel
theorem d_Lir_barred_56 : decode prog_1_method_32_code 56 = .ok (.iload_n 2, 1) := by decide +kernel
theorem d_Lir_barred_57 : decode prog_1_method_32_code 57 = .ok (.iconst 1, 1) := by decide +kernel
theorem d_Lir_barred_58 : decode prog_1_method_32_code 58 = .ok (.iload_n 3, 1) := by decide +kernel
theorem d_Lir_barred_59 : decode prog_1_method_32_code 59 = .ok (.ishl, 1) := by decide +kernel
theorem d_Lir_barred_60 : decode prog_1_method_32_code 60 = .ok (.ior, 1) := by decide +kernel
theorem d_Lir_barred_61 : decode prog_1_method_32_code 61 = .ok (.istore_n 2, 1) := by decide +kernel
theorem d_Lir_barred_62 : decode prog_1_method_32_code 62 = .ok (.iinc 3 1, 3) := by decide +kernel
theorem d_Lir_barred_65 : decode prog_1_method_32_code 65 = .ok (.goto (-44), 3) := by decide +kernel
theorem d_Lir_barred_68 : decode prog_1_method_32_code 68 = .ok (.iload_n 2, 1) := by decide +kernel
theorem d_Lir_barred_69 : decode prog_1_method_32_code 69 = .ok (.ireturn, 1) := by decide +kernel
theorem d_Lir_glasses_0 : decode prog_1_method_33_code 0 = .ok (.aload_n 0, 1) := by decide +kernel
theorem d_Lir_glasses_1 : decode prog_1_method_33_code 1 = .ok (.getfield 19, 3) := by decide +kernel
theorem d_Lir_glasses_4 : decode prog_1_method_33_code 4 = .ok (.iload_n 1, 1) := by decide +kernel
theorem d_Lir_glasses_5 : decode prog_1_method_33_code 5 = .ok (.invokevirtual 104, 3) := by decide +kernel
theorem d_Lir_glasses_8 : decode prog_1_method_33_code 8 = .ok (.astore_n 3, 1) := by decide +kernel
theorem d_Lir_glasses_9 : decode prog_1_method_33_code 9 = .ok (.aload_n 3, 1) := by decide +kernel
theorem d_Lir_glasses_10 : decode prog_1_method_33_code 10 = .ok (.ifnonnull 9, 3) := by decide +kernel
theorem d_Lir_glasses_13 : decode prog_1_method_33_code 13 = .ok (.aload_n 0, 1) := by decide +kernel
theorem d_Lir_glasses_14 : decode prog_1_method_33_code 14 = .ok (.iconst (-1), 1) := by decide +kernel
theorem d_Lir_glasses_15 : decode prog_1_method_33_code 15 = .ok (.invokevirtual 37, 3) := by decide +kernel
theorem d_Lir_glasses_18 : decode prog_1_method_33_code 18 = .ok (.ireturn, 1) := by decide +kernel
theorem d_Lir_glasses_19 : decode prog_1_method_33_code 19 = .ok (.iload_n 2, 1) := by decide +kernel
theorem d_Lir_glasses_20 : decode prog_1_method_33_code 20 = .ok (.iconst 1, 1) := by decide +kernel
theorem d_Lir_glasses_21 : decode prog_1_method_33_code 21 = .ok (.iconst 5, 1) := by decide +kernel
theorem d_Lir_glasses_22 : decode prog_1_method_33_code 22 = .ok (.invokestatic 108, 3) := by decide +kernel
theorem d_Lir_glasses_25 : decode prog_1_method_33_code 25 = .ok (.istore 4, 2) := by decide +kernel
theorem d_Lir_glasses_27 : decode prog_1_method_33_code 27 = .ok (.iload 4, 2) := by decide +kernel
theorem d_Lir_glasses_29 : decode prog_1_method_33_code 29 = .ok (.ifCond .eq 10, 3) := by decide +kernel
theorem d_Lir_glasses_32 : decode prog_1_method_33_code 32 = .ok (.aload_n 0, 1) := by decide +kernel
theorem d_Lir_glasses_33 : decode prog_1_method_33_code 33 = .ok (.iload 4, 2) := by decide +kernel
theorem d_Lir_glasses_35 : decode prog_1_method_33_code 35 = .ok (.invokevirtual 37, 3) := by decide +kernel
theorem d_Lir_glasses_38 : decode prog_1_method_33_code 38 = .ok (.ireturn, 1) := by decide +kernel
theorem d_Lir_glasses_39 : decode prog_1_method_33_code 39 = .ok (.iconst 0, 1) := by decide +kernel
theorem d_Lir_glasses_40 : decode prog_1_method_33_code 40 = .ok (.istore 5, 2) := by decide +kernel
theorem d_Lir_glasses_42 : decode prog_1_method_33_code 42 = .ok (.iconst 0, 1) := by decide +kernel
theorem d_Lir_glasses_43 : decode prog_1_method_33_code 43 = .ok (.istore 6, 2) := by decide +kernel
theorem d_Lir_glasses_45 : decode prog_1_method_33_code 45 = .ok (.iload 6, 2) := by decide +kernel
theorem d_Lir_glasses_47 : decode prog_1_method_33_code 47 = .ok (.iload_n 2, 1) := by decide +kernel
theorem d_Lir_glasses_48 : decode prog_1_method_33_code 48 = .ok (.if_icmp .ge 38, 3) := by decide +kernel
theorem d_Lir_glasses_51 : decode prog_1_method_33_code 51 = .ok (.aload_n 0, 1) := by decide +kernel
theorem d_Lir_glasses_52 : decode prog_1_method_33_code 52 = .ok (.getfield 19, 3) := by decide +kernel
theorem d_Lir_glasses_55 : decode prog_1_method_33_code 55 = .ok (.aload_n 3, 1) := by decide +kernel
theorem d_Lir_glasses_56 : decode prog_1_method_33_code 56 = .ok (.getfield 219, 3) := by decide +kernel
theorem d_Lir_glasses_59 : decode prog_1_method_33_code 59 = .ok (.iload 5, 2) := by decide +kernel
theorem d_Lir_glasses_61 : decode prog_1_method_33_code 61 = .ok (.invokevirtual 252, 3) := by decide +kernel
theorem d_Lir_glasses_64 : decode prog_1_method_33_code 64 = .ok (.istore 7, 2) := by decide +kernel
theorem d_Lir_glasses_66 : decode prog_1_method_33_code 66 = .ok (.iload 7, 2) := by decide +kernel
theorem d_Lir_glasses_68 : decode prog_1_method_33_code 68 = .ok (.ifCond .lt 12, 3) := by decide +kernel
theorem d_Lir_glasses_71 : decode prog_1_method_33_code 71 = .ok (.iload 5, 2) := by decide +kernel
theorem d_Lir_glasses_73 : decode prog_1_method_33_code 73 = .ok (.iconst 1, 1) := by decide +kernel
theorem d_Lir_glasses_74 : decode prog_1_method_33_code 74 = .ok (.iload 7, 2) := by decide +kernel
theorem d_Lir_glasses_76 : decode prog_1_method_33_code 76 = .ok (.ishl, 1) := by decide +kernel
theorem d_Lir_glasses_77 : decode prog_1_method_33_code 77 = .ok (.ior, 1) := by decide +kernel
theorem d_Lir_glasses_78 : decode prog_1_method_33_code 78 = .ok (.istore 5, 2) := by decide +kernel
theorem d_Lir_glasses_80 : decode prog_1_method_33_code 80 = .ok (.iinc 6 1, 3) := by decide +kernel
theorem d_Lir_glasses_83 : decode prog_1_method_33_code 83 = .ok (.goto (-38), 3) := by decide +kernel
theorem d_Lir_glasses_86 : decode prog_1_method_33_code 86 = .ok (.iload 5, 2) := by decide +kernel
theorem d_Lir_glasses_88 : decode prog_1_method_33_code 88 = .ok (.ireturn, 1) := by decide +kernel
theorem d_Lir_image_0 : decode prog_1_method_34_code 0 = .ok (.aload_n 0, 1) := by decide +kernel
theorem d_Lir_image_1 : decode prog_1_method_34_code 1 = .ok (.getfield 23, 3) := by decide +kernel
theorem d_Lir_image_4 : decode prog_1_method_34_code 4 = .ok (.aload_n 0, 1) := by decide +kernel
theorem d_Lir_image_5 : decode prog_1_method_34_code 5 = .ok (.getfield 19, 3) := by decide +kernel
theorem d_Lir_image_8 : decode prog_1_method_34_code 8 = .ok (.invokevirtual 255, 3) := by decide +kernel
theorem d_Lir_image_11 : decode prog_1_method_34_code 11 = .ok (.aload_n 0, 1) := by decide +kernel
theorem d_Lir_image_12 : decode prog_1_method_34_code 12 = .ok (.iconst 1, 1) := by decide +kernel
theorem d_Lir_image_13 : decode prog_1_method_34_code 13 = .ok (.putfield 33, 3) := by decide +kernel
theorem d_Lir_image_16 : decode prog_1_method_34_code 16 = .ok (.aload_n 0, 1) := by decide +kernel
theorem d_Lir_image_17 : decode prog_1_method_34_code 17 = .ok (.getfield 19, 3) := by decide +kernel
theorem d_Lir_image_20 : decode prog_1_method_34_code 20 = .ok (.getfield 53, 3) := by decide +kernel
theorem d_Lir_image_23 : decode prog_1_method_34_code 23 = .ok (.ireturn, 1) := by decide +kernel
theorem d_Lir_on_0 : decode prog_1_method_35_code 0 = .ok (.aload_n 0, 1) := by decide +kernel
theorem d_Lir_on_1 : decode prog_1_method_35_code 1 = .ok (.getfield 33, 3) := by decide +kernel
theorem d_Lir_on_4 : decode prog_1_method_35_code 4 = .ok (.ifCond .ne 10, 3) := by decide +kernel
theorem d_Lir_on_7 : decode prog_1_method_35_code 7 = .ok (.aload_n 0, 1) := by decide +kernel
theorem d_Lir_on_8 : decode prog_1_method_35_code 8 = .ok (.bipush (-3), 2) := by decide +kernel
theorem d_Lir_on_10 : decode prog_1_method_35_code 10 = .ok (.invokevirtual 37, 3) := by decide +kernel
theorem d_Lir_on_13 : decode prog_1_method_35_code 13 = .ok (.ireturn, 1) := by decide +kernel
theorem d_Lir_on_14 : decode prog_1_method_35_code 14 = .ok (.aload_n 0, 1) := by decide +kernel
theorem d_Lir_on_15 : decode prog_1_method_35_code 15 = .ok (.getfield 19, 3) := by decide +kernel
theorem d_Lir_on_18 : decode prog_1_method_35_code 18 = .ok (.aload_n 0, 1) := by decide +kernel
theorem d_Lir_on_19 : decode prog_1_method_35_code 19 = .ok (.getfield 23, 3) := by decide +kernel
theorem d_Lir_on_22 : decode prog_1_method_35_code 22 = .ok (.invokevirtual 255, 3) := by decide +kernel
theorem d_Lir_on_25 : decode prog_1_method_35_code 25 = .ok (.aload_n 0, 1) := by decide +kernel
theorem d_Lir_on_26 : decode prog_1_method_35_code 26 = .ok (.getfield 19, 3) := by decide +kernel
theorem d_Lir_on_29 : decode prog_1_method_35_code 29 = .ok (.getfield 53, 3) := by decide +kernel
theorem d_Lir_on_32 : decode prog_1_method_35_code 32 = .ok (.ireturn, 1) := by decide +kernel
theorem d_Lir_count_0 : decode prog_1_method_36_code 0 = .ok (.iload_n 1, 1) := by decide +kernel
theorem d_Lir_count_1 : decode prog_1_method_36_code 1 = .ok (.tableswitch 87 0 5 #[39, 47, 55, 63, 71, 79], 39) := by decide +kernel
theorem d_Lir_count_40 : decode prog_1_method_36_code 40 = .ok (.aload_n 0, 1) := by decide +kernel
theorem d_Lir_count_41 : decode prog_1_method_36_code 41 = .ok (.getfield 19, 3) := by decide +kernel
theorem d_Lir_count_44 : decode prog_1_method_36_code 44 = .ok (.getfield 53, 3) := by decide +kernel
theorem d_Lir_count_47 : decode prog_1_method_36_code 47 = .ok (.ireturn, 1) := by decide +kernel
theorem d_Lir_count_48 : decode prog_1_method_36_code 48 = .ok (.aload_n 0, 1) := by decide +kernel
theorem d_Lir_count_49 : decode prog_1_method_36_code 49 = .ok (.getfield 19, 3) := by decide +kernel
theorem d_Lir_count_52 : decode prog_1_method_36_code 52 = .ok (.invokevirtual 229, 3) := by decide +kernel
theorem d_Lir_count_55 : decode prog_1_method_36_code 55 = .ok (.ireturn, 1) := by decide +kernel
theorem d_Lir_count_56 : decode prog_1_method_36_code 56 = .ok (.aload_n 0, 1) := by decide +kernel
theorem d_Lir_count_57 : decode prog_1_method_36_code 57 = .ok (.getfield 19, 3) := by decide +kernel
theorem d_Lir_count_60 : decode prog_1_method_36_code 60 = .ok (.getfield 194, 3) := by decide +kernel
theorem d_Lir_count_63 : decode prog_1_method_36_code 63 = .ok (.ireturn, 1) := by decide +kernel
theorem d_Lir_count_64 : decode prog_1_method_36_code 64 = .ok (.aload_n 0, 1) := by decide +kernel
theorem d_Lir_count_65 : decode prog_1_method_36_code 65 = .ok (.getfield 19, 3) := by decide +kernel
theorem d_Lir_count_68 : decode prog_1_method_36_code 68 = .ok (.invokevirtual 259, 3) := by decide +kernel
theorem d_Lir_count_71 : decode prog_1_method_36_code 71 = .ok (.ireturn, 1) := by decide +kernel
theorem d_Lir_count_72 : decode prog_1_method_36_code 72 = .ok (.aload_n 0, 1) := by decide +kernel
theorem d_Lir_count_73 : decode prog_1_method_36_code 73 = .ok (.getfield 19, 3) := by decide +kernel
theorem d_Lir_count_76 : decode prog_1_method_36_code 76 = .ok (.invokevirtual 262, 3) := by decide +kernel
theorem d_Lir_count_79 : decode prog_1_method_36_code 79 = .ok (.ireturn, 1) := by decide +kernel
theorem d_Lir_count_80 : decode prog_1_method_36_code 80 = .ok (.aload_n 0, 1) := by decide +kernel
theorem d_Lir_count_81 : decode prog_1_method_36_code 81 = .ok (.getfield 10, 3) := by decide +kernel
theorem d_Lir_count_84 : decode prog_1_method_36_code 84 = .ok (.getfield 49, 3) := by decide +kernel
theorem d_Lir_count_87 : decode prog_1_method_36_code 87 = .ok (.ireturn, 1) := by decide +kernel
theorem d_Lir_count_88 : decode prog_1_method_36_code 88 = .ok (.aload_n 0, 1) := by decide +kernel
theorem d_Lir_count_89 : decode prog_1_method_36_code 89 = .ok (.iload_n 1, 1) := by decide +kernel
theorem d_Lir_count_90 : decode prog_1_method_36_code 90 = .ok (.invokevirtual 265, 3) := by decide +kernel
theorem d_Lir_count_93 : decode prog_1_method_36_code 93 = .ok (.ireturn, 1) := by decide +kernel
theorem d_Lir_refuse_0 : decode prog_1_method_37_code 0 = .ok (.iload_n 1, 1) := by decide +kernel
theorem d_Lir_refuse_1 : decode prog_1_method_37_code 1 = .ok (.ineg, 1) := by decide +kernel
theorem d_Lir_refuse_2 : decode prog_1_method_37_code 2 = .ok (.istore_n 2, 1) := by decide +kernel
theorem d_Lir_refuse_3 : decode prog_1_method_37_code 3 = .ok (.iload_n 2, 1) := by decide +kernel
theorem d_Lir_refuse_4 : decode prog_1_method_37_code 4 = .ok (.ifCond .lt 22, 3) := by decide +kernel
theorem d_Lir_refuse_7 : decode prog_1_method_37_code 7 = .ok (.iload_n 2, 1) := by decide +kernel
theorem d_Lir_refuse_8 : decode prog_1_method_37_code 8 = .ok (.aload_n 0, 1) := by decide +kernel
theorem d_Lir_refuse_9 : decode prog_1_method_37_code 9 = .ok (.getfield 26, 3) := by decide +kernel
theorem d_Lir_refuse_12 : decode prog_1_method_37_code 12 = .ok (.arraylength, 1) := by decide +kernel
theorem d_Lir_refuse_13 : decode prog_1_method_37_code 13 = .ok (.if_icmp .ge 13, 3) := by decide +kernel
theorem d_Lir_refuse_16 : decode prog_1_method_37_code 16 = .ok (.aload_n 0, 1) := by decide +kernel
theorem d_Lir_refuse_17 : decode prog_1_method_37_code 17 = .ok (.getfield 26, 3) := by decide +kernel
theorem d_Lir_refuse_20 : decode prog_1_method_37_code 20 = .ok (.iload_n 2, 1) := by decide +kernel
theorem d_Lir_refuse_21 : decode prog_1_method_37_code 21 = .ok (.dup2, 1) := by decide +kernel
theorem d_Lir_refuse_22 : decode prog_1_method_37_code 22 = .ok (.iaload, 1) := by decide +kernel
theorem d_Lir_refuse_23 : decode prog_1_method_37_code 23 = .ok (.iconst 1, 1) := by decide +kernel
theorem d_Lir_refuse_24 : decode prog_1_method_37_code 24 = .ok (.iadd, 1) := by decide +kernel
theorem d_Lir_refuse_25 : decode prog_1_method_37_code 25 = .ok (.iastore, 1) := by decide +kernel
theorem d_Lir_refuse_26 : decode prog_1_method_37_code 26 = .ok (.iload_n 1, 1) := by decide +kernel
theorem d_Lir_refuse_27 : decode prog_1_method_37_code 27 = .ok (.ireturn, 1) := by decide +kernel
theorem d_Lir_refuseAsTold_0 : decode prog_1_method_38_code 0 = .ok (.ldc_w 268, 3) := by decide +kernel
theorem d_Lir_refuseAsTold_3 : decode prog_1_method_38_code 3 = .ok (.aload_n 0, 1) := by decide +kernel
theorem d_Lir_refuseAsTold_4 : decode prog_1_method_38_code 4 = .ok (.iload_n 1, 1) := by decide +kernel
theorem d_Lir_refuseAsTold_5 : decode prog_1_method_38_code 5 = .ok (.invokevirtual 37, 3) := by decide +kernel
theorem d_Lir_refuseAsTold_8 : decode prog_1_method_38_code 8 = .ok (.isub, 1) := by decide +kernel
theorem d_Lir_refuseAsTold_9 : decode prog_1_method_38_code 9 = .ok (.ireturn, 1) := by decide +kernel
theorem d_Lir_refusalsCounted_0 : decode prog_1_method_39_code 0 = .ok (.iload_n 1, 1) := by decide +kernel
theorem d_Lir_refusalsCounted_1 : decode prog_1_method_39_code 1 = .ok (.bipush 11, 2) := by decide +kernel
theorem d_Lir_refusalsCounted_3 : decode prog_1_method_39_code 3 = .ok (.if_icmp .lt 9, 3) := by decide +kernel
theorem d_Lir_refusalsCounted_6 : decode prog_1_method_39_code 6 = .ok (.iload_n 1, 1) := by decide +kernel
theorem d_Lir_refusalsCounted_7 : decode prog_1_method_39_code 7 = .ok (.bipush 17, 2) := by decide +kernel
theorem d_Lir_refusalsCounted_9 : decode prog_1_method_39_code 9 = .ok (.if_icmp .lt 6, 3) := by decide +kernel
theorem d_Lir_refusalsCounted_12 : decode prog_1_method_39_code 12 = .ok (.bipush (-9), 2) := by decide +kernel
theorem d_Lir_refusalsCounted_14 : decode prog_1_method_39_code 14 = .ok (.ireturn, 1) := by decide +kernel
theorem d_Lir_refusalsCounted_15 : decode prog_1_method_39_code 15 = .ok (.aload_n 0, 1) := by decide +kernel
theorem d_Lir_refusalsCounted_16 : decode prog_1_method_39_code 16 = .ok (.getfield 26, 3) := by decide +kernel
theorem d_Lir_refusalsCounted_19 : decode prog_1_method_39_code 19 = .ok (.iload_n 1, 1) := by decide +kernel
theorem d_Lir_refusalsCounted_20 : decode prog_1_method_39_code 20 = .ok (.bipush 11, 2) := by decide +kernel
theorem d_Lir_refusalsCounted_22 : decode prog_1_method_39_code 22 = .ok (.isub, 1) := by decide +kernel
theorem d_Lir_refusalsCounted_23 : decode prog_1_method_39_code 23 = .ok (.iconst 1, 1) := by decide +kernel
theorem d_Lir_refusalsCounted_24 : decode prog_1_method_39_code 24 = .ok (.iadd, 1) := by decide +kernel
theorem d_Lir_refusalsCounted_25 : decode prog_1_method_39_code 25 = .ok (.iaload, 1) := by decide +kernel
theorem d_Lir_refusalsCounted_26 : decode prog_1_method_39_code 26 = .ok (.ireturn, 1) := by decide +kernel
theorem d_Lir_outside_0 : decode prog_1_method_40_code 0 = .ok (.iload_n 0, 1) := by decide +kernel
theorem d_Lir_outside_1 : decode prog_1_method_40_code 1 = .ok (.iload_n 1, 1) := by decide +kernel
theorem d_Lir_outside_2 : decode prog_1_method_40_code 2 = .ok (.if_icmp .ge 6, 3) := by decide +kernel
theorem d_Lir_outside_5 : decode prog_1_method_40_code 5 = .ok (.bipush (-4), 2) := by decide +kernel
theorem d_Lir_outside_7 : decode prog_1_method_40_code 7 = .ok (.ireturn, 1) := by decide +kernel
theorem d_Lir_outside_8 : decode prog_1_method_40_code 8 = .ok (.iload_n 0, 1) := by decide +kernel
theorem d_Lir_outside_9 : decode prog_1_method_40_code 9 = .ok (.iload_n 2, 1) := by decide +kernel
theorem d_Lir_outside_10 : decode prog_1_method_40_code 10 = .ok (.if_icmp .le 8, 3) := by decide +kernel
theorem d_Lir_outside_13 : decode prog_1_method_40_code 13 = .ok (.bipush (-6), 2) := by decide +kernel
theorem d_Lir_outside_15 : decode prog_1_method_40_code 15 = .ok (.goto 4, 3) := by decide +kernel
theorem d_Lir_outside_18 : decode prog_1_method_40_code 18 = .ok (.iconst 0, 1) := by decide +kernel
theorem d_Lir_outside_19 : decode prog_1_method_40_code 19 = .ok (.ireturn, 1) := by decide +kernel
theorem d_Lir_isSizeOrSeconds_0 : decode prog_1_method_41_code 0 = .ok (.iload_n 0, 1) := by decide +kernel
theorem d_Lir_isSizeOrSeconds_1 : decode prog_1_method_41_code 1 = .ok (.ifCond .eq 8, 3) := by decide +kernel
theorem d_Lir_isSizeOrSeconds_4 : decode prog_1_method_41_code 4 = .ok (.iload_n 0, 1) := by decide +kernel
theorem d_Lir_isSizeOrSeconds_5 : decode prog_1_method_41_code 5 = .ok (.iconst 1, 1) := by decide +kernel
theorem d_Lir_isSizeOrSeconds_6 : decode prog_1_method_41_code 6 = .ok (.if_icmp .ne 7, 3) := by decide +kernel
theorem d_Lir_isSizeOrSeconds_9 : decode prog_1_method_41_code 9 = .ok (.iconst 1, 1) := by decide +kernel
theorem d_Lir_isSizeOrSeconds_10 : decode prog_1_method_41_code 10 = .ok (.goto 4, 3) := by decide +kernel
theorem d_Lir_isSizeOrSeconds_13 : decode prog_1_method_41_code 13 = .ok (.iconst 0, 1) := by decide +kernel
theorem d_Lir_isSizeOrSeconds_14 : decode prog_1_method_41_code 14 = .ok (.ireturn, 1) := by decide +kernel
theorem d_Lir_isPart_0 : decode prog_1_method_42_code 0 = .ok (.iload_n 0, 1) := by decide +kernel
theorem d_Lir_isPart_1 : decode prog_1_method_42_code 1 = .ok (.ifCond .eq 8, 3) := by decide +kernel
theorem d_Lir_isPart_4 : decode prog_1_method_42_code 4 = .ok (.iload_n 0, 1) := by decide +kernel
theorem d_Lir_isPart_5 : decode prog_1_method_42_code 5 = .ok (.iconst 1, 1) := by decide +kernel
theorem d_Lir_isPart_6 : decode prog_1_method_42_code 6 = .ok (.if_icmp .ne 7, 3) := by decide +kernel
theorem d_Lir_isPart_9 : decode prog_1_method_42_code 9 = .ok (.iconst 1, 1) := by decide +kernel
theorem d_Lir_isPart_10 : decode prog_1_method_42_code 10 = .ok (.goto 4, 3) := by decide +kernel
theorem d_Lir_isPart_13 : decode prog_1_method_42_code 13 = .ok (.iconst 0, 1) := by decide +kernel
theorem d_Lir_isPart_14 : decode prog_1_method_42_code 14 = .ok (.ireturn, 1) := by decide +kernel
theorem d_Lir_isMark_0 : decode prog_1_method_43_code 0 = .ok (.iload_n 0, 1) := by decide +kernel
theorem d_Lir_isMark_1 : decode prog_1_method_43_code 1 = .ok (.ifCond .lt 13, 3) := by decide +kernel
theorem d_Lir_isMark_4 : decode prog_1_method_43_code 4 = .ok (.iload_n 0, 1) := by decide +kernel
theorem d_Lir_isMark_5 : decode prog_1_method_43_code 5 = .ok (.bipush 8, 2) := by decide +kernel
theorem d_Lir_isMark_7 : decode prog_1_method_43_code 7 = .ok (.if_icmp .ge 7, 3) := by decide +kernel
theorem d_Lir_isMark_10 : decode prog_1_method_43_code 10 = .ok (.iconst 1, 1) := by decide +kernel
theorem d_Lir_isMark_11 : decode prog_1_method_43_code 11 = .ok (.goto 4, 3) := by decide +kernel
theorem d_Lir_isMark_14 : decode prog_1_method_43_code 14 = .ok (.iconst 0, 1) := by decide +kernel
theorem d_Lir_isMark_15 : decode prog_1_method_43_code 15 = .ok (.ireturn, 1) := by decide +kernel
theorem d_Lir_hasBit_0 : decode prog_1_method_44_code 0 = .ok (.iload_n 0, 1) := by decide +kernel
theorem d_Lir_hasBit_1 : decode prog_1_method_44_code 1 = .ok (.iload_n 1, 1) := by decide +kernel
theorem d_Lir_hasBit_2 : decode prog_1_method_44_code 2 = .ok (.ishr, 1) := by decide +kernel
theorem d_Lir_hasBit_3 : decode prog_1_method_44_code 3 = .ok (.iconst 1, 1) := by decide +kernel
theorem d_Lir_hasBit_4 : decode prog_1_method_44_code 4 = .ok (.iand, 1) := by decide +kernel
theorem d_Lir_hasBit_5 : decode prog_1_method_44_code 5 = .ok (.ifCond .eq 7, 3) := by decide +kernel
theorem d_Lir_hasBit_8 : decode prog_1_method_44_code 8 = .ok (.iconst 1, 1) := by decide +kernel
theorem d_Lir_hasBit_9 : decode prog_1_method_44_code 9 = .ok (.goto 4, 3) := by decide +kernel
theorem d_Lir_hasBit_12 : decode prog_1_method_44_code 12 = .ok (.iconst 0, 1) := by decide +kernel
theorem d_Lir_hasBit_13 : decode prog_1_method_44_code 13 = .ok (.ireturn, 1) := by decide +kernel
theorem d_Lir_exchange_0 : decode prog_1_method_45_code 0 = .ok (.iload_n 1, 1) := by decide +kernel
theorem d_Lir_exchange_1 : decode prog_1_method_45_code 1 = .ok (.ifCond .lt 9, 3) := by decide +kernel
theorem d_Lir_exchange_4 : decode prog_1_method_45_code 4 = .ok (.iload_n 1, 1) := by decide +kernel
theorem d_Lir_exchange_5 : decode prog_1_method_45_code 5 = .ok (.aload_n 0, 1) := by decide +kernel
theorem d_Lir_exchange_6 : decode prog_1_method_45_code 6 = .ok (.arraylength, 1) := by decide +kernel
theorem d_Lir_exchange_7 : decode prog_1_method_45_code 7 = .ok (.if_icmp .lt 6, 3) := by decide +kernel
theorem d_Lir_exchange_10 : decode prog_1_method_45_code 10 = .ok (.bipush (-9), 2) := by decide +kernel
theorem d_Lir_exchange_12 : decode prog_1_method_45_code 12 = .ok (.ireturn, 1) := by decide +kernel
theorem d_Lir_exchange_13 : decode prog_1_method_45_code 13 = .ok (.aload_n 0, 1) := by decide +kernel
theorem d_Lir_exchange_14 : decode prog_1_method_45_code 14 = .ok (.iload_n 1, 1) := by decide +kernel
theorem d_Lir_exchange_15 : decode prog_1_method_45_code 15 = .ok (.iaload, 1) := by decide +kernel
theorem d_Lir_exchange_16 : decode prog_1_method_45_code 16 = .ok (.istore_n 3, 1) := by decide +kernel
theorem d_Lir_exchange_17 : decode prog_1_method_45_code 17 = .ok (.aload_n 0, 1) := by decide +kernel
theorem d_Lir_exchange_18 : decode prog_1_method_45_code 18 = .ok (.iload_n 1, 1) := by decide +kernel
theorem d_Lir_exchange_19 : decode prog_1_method_45_code 19 = .ok (.iload_n 2, 1) := by decide +kernel
theorem d_Lir_exchange_20 : decode prog_1_method_45_code 20 = .ok (.iastore, 1) := by decide +kernel
theorem d_Lir_exchange_21 : decode prog_1_method_45_code 21 = .ok (.iload_n 3, 1) := by decide +kernel
theorem d_Lir_exchange_22 : decode prog_1_method_45_code 22 = .ok (.ireturn, 1) := by decide +kernel
theorem d_Lir_hundredths_0 : decode prog_1_method_46_code 0 = .ok (.iload_n 1, 1) := by decide +kernel
theorem d_Lir_hundredths_1 : decode prog_1_method_46_code 1 = .ok (.iconst 1, 1) := by decide +kernel
theorem d_Lir_hundredths_2 : decode prog_1_method_46_code 2 = .ok (.if_icmp .ge 7, 3) := by decide +kernel
theorem d_Lir_hundredths_5 : decode prog_1_method_46_code 5 = .ok (.iconst 0, 1) := by decide +kernel
theorem d_Lir_hundredths_6 : decode prog_1_method_46_code 6 = .ok (.goto 9, 3) := by decide +kernel
theorem d_Lir_hundredths_9 : decode prog_1_method_46_code 9 = .ok (.bipush 100, 2) := by decide +kernel
theorem d_Lir_hundredths_11 : decode prog_1_method_46_code 11 = .ok (.iload_n 0, 1) := by decide +kernel
theorem d_Lir_hundredths_12 : decode prog_1_method_46_code 12 = .ok (.imul, 1) := by decide +kernel
theorem d_Lir_hundredths_13 : decode prog_1_method_46_code 13 = .ok (.iload_n 1, 1) := by decide +kernel
theorem d_Lir_hundredths_14 : decode prog_1_method_46_code 14 = .ok (.idiv, 1) := by decide +kernel
theorem d_Lir_hundredths_15 : decode prog_1_method_46_code 15 = .ok (.ireturn, 1) := by decide +kernel
theorem d_Lir_leastTerms_0 : decode prog_1_method_47_code 0 = .ok (.iload_n 0, 1) := by decide +kernel
theorem d_Lir_leastTerms_1 : decode prog_1_method_47_code 1 = .ok (.iload_n 1, 1) := by decide +kernel
theorem d_Lir_leastTerms_2 : decode prog_1_method_47_code 2 = .ok (.invokestatic 269, 3) := by decide +kernel
theorem d_Lir_leastTerms_5 : decode prog_1_method_47_code 5 = .ok (.istore_n 3, 1) := by decide +kernel
theorem d_Lir_leastTerms_6 : decode prog_1_method_47_code 6 = .ok (.iload_n 3, 1) := by decide +kernel
theorem d_Lir_leastTerms_7 : decode prog_1_method_47_code 7 = .ok (.iconst 1, 1) := by decide +kernel
theorem d_Lir_leastTerms_8 : decode prog_1_method_47_code 8 = .ok (.if_icmp .ge 5, 3) := by decide +kernel
theorem d_Lir_leastTerms_11 : decode prog_1_method_47_code 11 = .ok (.iconst 0, 1) := by decide +kernel
theorem d_Lir_leastTerms_12 : decode prog_1_method_47_code 12 = .ok (.ireturn, 1) := by decide +kernel
theorem d_Lir_leastTerms_13 : decode prog_1_method_47_code 13 = .ok (.iload_n 2, 1) := by decide +kernel
theorem d_Lir_leastTerms_14 : decode prog_1_method_47_code 14 = .ok (.ifCond .ne 7, 3) := by decide +kernel
theorem d_Lir_leastTerms_17 : decode prog_1_method_47_code 17 = .ok (.iload_n 0, 1) := by decide +kernel
theorem d_Lir_leastTerms_18 : decode prog_1_method_47_code 18 = .ok (.goto 4, 3) := by decide +kernel
theorem d_Lir_leastTerms_21 : decode prog_1_method_47_code 21 = .ok (.iload_n 1, 1) := by decide +kernel
theorem d_Lir_leastTerms_22 : decode prog_1_method_47_code 22 = .ok (.iload_n 3, 1) := by decide +kernel
theorem d_Lir_leastTerms_23 : decode prog_1_method_47_code 23 = .ok (.idiv, 1) := by decide +kernel
theorem d_Lir_leastTerms_24 : decode prog_1_method_47_code 24 = .ok (.ireturn, 1) := by decide +kernel
theorem d_Lir_greatestCommon_0 : decode prog_1_method_48_code 0 = .ok (.iload_n 0, 1) := by decide +kernel
theorem d_Lir_greatestCommon_1 : decode prog_1_method_48_code 1 = .ok (.istore_n 2, 1) := by decide +kernel
theorem d_Lir_greatestCommon_2 : decode prog_1_method_48_code 2 = .ok (.iload_n 1, 1) := by decide +kernel
theorem d_Lir_greatestCommon_3 : decode prog_1_method_48_code 3 = .ok (.istore_n 3, 1) := by decide +kernel
theorem d_Lir_greatestCommon_4 : decode prog_1_method_48_code 4 = .ok (.iconst 0, 1) := by decide +kernel
theorem d_Lir_greatestCommon_5 : decode prog_1_method_48_code 5 = .ok (.istore 4, 2) := by decide +kernel
theorem d_Lir_greatestCommon_7 : decode prog_1_method_48_code 7 = .ok (.iload 4, 2) := by decide +kernel
theorem d_Lir_greatestCommon_9 : decode prog_1_method_48_code 9 = .ok (.bipush 64, 2) := by decide +kernel
theorem d_Lir_greatestCommon_11 : decode prog_1_method_48_code 11 = .ok (.if_icmp .ge 23, 3) := by decide +kernel
theorem d_Lir_greatestCommon_14 : decode prog_1_method_48_code 14 = .ok (.iload_n 3, 1) := by decide +kernel
theorem d_Lir_greatestCommon_15 : decode prog_1_method_48_code 15 = .ok (.ifCond .eq 19, 3) := by decide +kernel
theorem d_Lir_greatestCommon_18 : decode prog_1_method_48_code 18 = .ok (.iload_n 2, 1) := by decide +kernel
theorem d_Lir_greatestCommon_19 : decode prog_1_method_48_code 19 = .ok (.iload_n 3, 1) := by decide +kernel
theorem d_Lir_greatestCommon_20 : decode prog_1_method_48_code 20 = .ok (.irem, 1) := by decide +kernel
theorem d_Lir_greatestCommon_21 : decode prog_1_method_48_code 21 = .ok (.istore 5, 2) := by decide +kernel
theorem d_Lir_greatestCommon_23 : decode prog_1_method_48_code 23 = .ok (.iload_n 3, 1) := by decide +kernel
theorem d_Lir_greatestCommon_24 : decode prog_1_method_48_code 24 = .ok (.istore_n 2, 1) := by decide +kernel
theorem d_Lir_greatestCommon_25 : decode prog_1_method_48_code 25 = .ok (.iload 5, 2) := by decide +kernel
theorem d_Lir_greatestCommon_27 : decode prog_1_method_48_code 27 = .ok (.istore_n 3, 1) := by decide +kernel
theorem d_Lir_greatestCommon_28 : decode prog_1_method_48_code 28 = .ok (.iinc 4 1, 3) := by decide +kernel
theorem d_Lir_greatestCommon_31 : decode prog_1_method_48_code 31 = .ok (.goto (-24), 3) := by decide +kernel
theorem d_Lir_greatestCommon_34 : decode prog_1_method_48_code 34 = .ok (.iload_n 2, 1) := by decide +kernel
theorem d_Lir_greatestCommon_35 : decode prog_1_method_48_code 35 = .ok (.ireturn, 1) := by decide +kernel
theorem d_Lir_copyRow_0 : decode prog_1_method_49_code 0 = .ok (.aload_n 0, 1) := by decide +kernel
theorem d_Lir_copyRow_1 : decode prog_1_method_49_code 1 = .ok (.iconst 0, 1) := by decide +kernel
theorem d_Lir_copyRow_2 : decode prog_1_method_49_code 2 = .ok (.aload_n 1, 1) := by decide +kernel
theorem d_Lir_copyRow_3 : decode prog_1_method_49_code 3 = .ok (.iconst 0, 1) := by decide +kernel
theorem d_Lir_copyRow_4 : decode prog_1_method_49_code 4 = .ok (.aload_n 0, 1) := by decide +kernel
theorem d_Lir_copyRow_5 : decode prog_1_method_49_code 5 = .ok (.arraylength, 1) := by decide +kernel
theorem d_Lir_copyRow_6 : decode prog_1_method_49_code 6 = .ok (.aload_n 1, 1) := by decide +kernel
theorem d_Lir_copyRow_7 : decode prog_1_method_49_code 7 = .ok (.arraylength, 1) := by decide +kernel
theorem d_Lir_copyRow_8 : decode prog_1_method_49_code 8 = .ok (.invokestatic 272, 3) := by decide +kernel
theorem d_Lir_copyRow_11 : decode prog_1_method_49_code 11 = .ok (.invokestatic 275, 3) := by decide +kernel
theorem d_Lir_copyRow_14 : decode prog_1_method_49_code 14 = .ok (.return_, 1) := by decide +kernel
theorem d_Lir_howManyFitOnly_0 : decode prog_1_method_50_code 0 = .ok (.iconst 0, 1) := by decide +kernel
theorem d_Lir_howManyFitOnly_1 : decode prog_1_method_50_code 1 = .ok (.istore_n 3, 1) := by decide +kernel
theorem d_Lir_howManyFitOnly_2 : decode prog_1_method_50_code 2 = .ok (.aload_n 0, 1) := by decide +kernel
theorem d_Lir_howManyFitOnly_3 : decode prog_1_method_50_code 3 = .ok (.getfield 19, 3) := by decide +kernel
theorem d_Lir_howManyFitOnly_6 : decode prog_1_method_50_code 6 = .ok (.getfield 145, 3) := by decide +kernel
theorem d_Lir_howManyFitOnly_9 : decode prog_1_method_50_code 9 = .ok (.astore 4, 2) := by decide +kernel
theorem d_Lir_howManyFitOnly_11 : decode prog_1_method_50_code 11 = .ok (.aload 4, 2) := by decide +kernel
theorem d_Lir_howManyFitOnly_13 : decode prog_1_method_50_code 13 = .ok (.arraylength, 1) := by decide +kernel
theorem d_Lir_howManyFitOnly_14 : decode prog_1_method_50_code 14 = .ok (.istore 5, 2) := by decide +kernel
theorem d_Lir_howManyFitOnly_16 : decode prog_1_method_50_code 16 = .ok (.iconst 0, 1) := by decide +kernel
theorem d_Lir_howManyFitOnly_17 : decode prog_1_method_50_code 17 = .ok (.istore 6, 2) := by decide +kernel
theorem d_Lir_howManyFitOnly_19 : decode prog_1_method_50_code 19 = .ok (.iload 6, 2) := by decide +kernel
theorem d_Lir_howManyFitOnly_21 : decode prog_1_method_50_code 21 = .ok (.iload 5, 2) := by decide +kernel
theorem d_Lir_howManyFitOnly_23 : decode prog_1_method_50_code 23 = .ok (.if_icmp .ge 50, 3) := by decide +kernel
theorem d_Lir_howManyFitOnly_26 : decode prog_1_method_50_code 26 = .ok (.aload 4, 2) := by decide +kernel
theorem d_Lir_howManyFitOnly_28 : decode prog_1_method_50_code 28 = .ok (.iload 6, 2) := by decide +kernel
theorem d_Lir_howManyFitOnly_30 : decode prog_1_method_50_code 30 = .ok (.aaload, 1) := by decide +kernel
theorem d_Lir_howManyFitOnly_31 : decode prog_1_method_50_code 31 = .ok (.astore 7, 2) := by decide +kernel
theorem d_Lir_howManyFitOnly_33 : decode prog_1_method_50_code 33 = .ok (.aload 7, 2) := by decide +kernel
theorem d_Lir_howManyFitOnly_35 : decode prog_1_method_50_code 35 = .ok (.ifnull 32, 3) := by decide +kernel
theorem d_Lir_howManyFitOnly_38 : decode prog_1_method_50_code 38 = .ok (.aload 7, 2) := by decide +kernel
theorem d_Lir_howManyFitOnly_40 : decode prog_1_method_50_code 40 = .ok (.getfield 89, 3) := by decide +kernel
theorem d_Lir_howManyFitOnly_43 : decode prog_1_method_50_code 43 = .ok (.iload_n 2, 1) := by decide +kernel
theorem d_Lir_howManyFitOnly_44 : decode prog_1_method_50_code 44 = .ok (.iand, 1) := by decide +kernel
theorem d_Lir_howManyFitOnly_45 : decode prog_1_method_50_code 45 = .ok (.iload_n 2, 1) := by decide +kernel
theorem d_Lir_howManyFitOnly_46 : decode prog_1_method_50_code 46 = .ok (.if_icmp .ne 21, 3) := by decide +kernel
theorem d_Lir_howManyFitOnly_49 : decode prog_1_method_50_code 49 = .ok (.aload_n 0, 1) := by decide +kernel
theorem d_Lir_howManyFitOnly_50 : decode prog_1_method_50_code 50 = .ok (.getfield 19, 3) := by decide +kernel
theorem d_Lir_howManyFitOnly_53 : decode prog_1_method_50_code 53 = .ok (.aload 7, 2) := by decide +kernel
theorem d_Lir_howManyFitOnly_55 : decode prog_1_method_50_code 55 = .ok (.invokevirtual 281, 3) := by decide +kernel
theorem d_Lir_howManyFitOnly_58 : decode prog_1_method_50_code 58 = .ok (.iconst 1, 1) := by decide +kernel
theorem d_Lir_howManyFitOnly_59 : decode prog_1_method_50_code 59 = .ok (.iload_n 1, 1) := by decide +kernel
theorem d_Lir_howManyFitOnly_60 : decode prog_1_method_50_code 60 = .ok (.ishl, 1) := by decide +kernel
theorem d_Lir_howManyFitOnly_61 : decode prog_1_method_50_code 61 = .ok (.if_icmp .ne 6, 3) := by decide +kernel
theorem d_Lir_howManyFitOnly_64 : decode prog_1_method_50_code 64 = .ok (.iinc 3 1, 3) := by decide +kernel
theorem d_Lir_howManyFitOnly_67 : decode prog_1_method_50_code 67 = .ok (.iinc 6 1, 3) := by decide +kernel
theorem d_Lir_howManyFitOnly_70 : decode prog_1_method_50_code 70 = .ok (.goto (-51), 3) := by decide +kernel
theorem d_Lir_howManyFitOnly_73 : decode prog_1_method_50_code 73 = .ok (.iload_n 3, 1) := by decide +kernel
theorem d_Lir_howManyFitOnly_74 : decode prog_1_method_50_code 74 = .ok (.ireturn, 1) := by decide +kernel
theorem d_Lir_noteLaws_0 : decode prog_1_method_51_code 0 = .ok (.iconst 0, 1) := by decide +kernel
theorem d_Lir_noteLaws_1 : decode prog_1_method_51_code 1 = .ok (.istore_n 1, 1) := by decide +kernel
theorem d_Lir_noteLaws_2 : decode prog_1_method_51_code 2 = .ok (.iload_n 1, 1) := by decide +kernel
theorem d_Lir_noteLaws_3 : decode prog_1_method_51_code 3 = .ok (.aload_n 0, 1) := by decide +kernel
theorem d_Lir_noteLaws_4 : decode prog_1_method_51_code 4 = .ok (.getfield 19, 3) := by decide +kernel
theorem d_Lir_noteLaws_7 : decode prog_1_method_51_code 7 = .ok (.getfield 53, 3) := by decide +kernel
theorem d_Lir_noteLaws_10 : decode prog_1_method_51_code 10 = .ok (.if_icmp .ge 49, 3) := by decide +kernel
theorem d_Lir_noteLaws_13 : decode prog_1_method_51_code 13 = .ok (.iload_n 1, 1) := by decide +kernel
theorem d_Lir_noteLaws_14 : decode prog_1_method_51_code 14 = .ok (.aload_n 0, 1) := by decide +kernel
theorem d_Lir_noteLaws_15 : decode prog_1_method_51_code 15 = .ok (.getfield 30, 3) := by decide +kernel
theorem d_Lir_noteLaws_18 : decode prog_1_method_51_code 18 = .ok (.arraylength, 1) := by decide +kernel
theorem d_Lir_noteLaws_19 : decode prog_1_method_51_code 19 = .ok (.if_icmp .ge 40, 3) := by decide +kernel
theorem d_Lir_noteLaws_22 : decode prog_1_method_51_code 22 = .ok (.aload_n 0, 1) := by decide +kernel
theorem d_Lir_noteLaws_23 : decode prog_1_method_51_code 23 = .ok (.getfield 19, 3) := by decide +kernel
theorem d_Lir_noteLaws_26 : decode prog_1_method_51_code 26 = .ok (.iload_n 1, 1) := by decide +kernel
theorem d_Lir_noteLaws_27 : decode prog_1_method_51_code 27 = .ok (.invokevirtual 74, 3) := by decide +kernel
theorem d_Lir_noteLaws_30 : decode prog_1_method_51_code 30 = .ok (.astore_n 2, 1) := by decide +kernel
theorem d_Lir_noteLaws_31 : decode prog_1_method_51_code 31 = .ok (.aload_n 0, 1) := by decide +kernel
theorem d_Lir_noteLaws_32 : decode prog_1_method_51_code 32 = .ok (.getfield 30, 3) := by decide +kernel
theorem d_Lir_noteLaws_35 : decode prog_1_method_51_code 35 = .ok (.iload_n 1, 1) := by decide +kernel
theorem d_Lir_noteLaws_36 : decode prog_1_method_51_code 36 = .ok (.aload_n 2, 1) := by decide +kernel
theorem d_Lir_noteLaws_37 : decode prog_1_method_51_code 37 = .ok (.ifnonnull 7, 3) := by decide +kernel
theorem d_Lir_noteLaws_40 : decode prog_1_method_51_code 40 = .ok (.iconst 0, 1) := by decide +kernel
theorem d_Lir_noteLaws_41 : decode prog_1_method_51_code 41 = .ok (.goto 11, 3) := by decide +kernel
theorem d_Lir_noteLaws_44 : decode prog_1_method_51_code 44 = .ok (.aload_n 0, 1) := by decide +kernel
theorem d_Lir_noteLaws_45 : decode prog_1_method_51_code 45 = .ok (.getfield 19, 3) := by decide +kernel
theorem d_Lir_noteLaws_48 : decode prog_1_method_51_code 48 = .ok (.aload_n 2, 1) := by decide +kernel
theorem d_Lir_noteLaws_49 : decode prog_1_method_51_code 49 = .ok (.invokevirtual 281, 3) := by decide +kernel
theorem d_Lir_noteLaws_52 : decode prog_1_method_51_code 52 = .ok (.iastore, 1) := by decide +kernel
theorem d_Lir_noteLaws_53 : decode prog_1_method_51_code 53 = .ok (.iinc 1 1, 3) := by decide +kernel
theorem d_Lir_noteLaws_56 : decode prog_1_method_51_code 56 = .ok (.goto (-54), 3) := by decide +kernel
theorem d_Lir_noteLaws_59 : decode prog_1_method_51_code 59 = .ok (.return_, 1) := by decide +kernel
theorem d_Lir_noteBroken_0 : decode prog_1_method_52_code 0 = .ok (.iconst 0, 1) := by decide +kernel
theorem d_Lir_noteBroken_1 : decode prog_1_method_52_code 1 = .ok (.istore_n 2, 1) := by decide +kernel
theorem d_Lir_noteBroken_2 : decode prog_1_method_52_code 2 = .ok (.iload_n 2, 1) := by decide +kernel
theorem d_Lir_noteBroken_3 : decode prog_1_method_52_code 3 = .ok (.aload_n 0, 1) := by decide +kernel
theorem d_Lir_noteBroken_4 : decode prog_1_method_52_code 4 = .ok (.getfield 19, 3) := by decide +kernel
theorem d_Lir_noteBroken_7 : decode prog_1_method_52_code 7 = .ok (.getfield 53, 3) := by decide +kernel
theorem d_Lir_noteBroken_10 : decode prog_1_method_52_code 10 = .ok (.if_icmp .ge 50, 3) := by decide +kernel
theorem d_Lir_noteBroken_13 : decode prog_1_method_52_code 13 = .ok (.iload_n 2, 1) := by decide +kernel
theorem d_Lir_noteBroken_14 : decode prog_1_method_52_code 14 = .ok (.aload_n 0, 1) := by decide +kernel
theorem d_Lir_noteBroken_15 : decode prog_1_method_52_code 15 = .ok (.getfield 30, 3) := by decide +kernel
theorem d_Lir_noteBroken_18 : decode prog_1_method_52_code 18 = .ok (.arraylength, 1) := by decide +kernel
theorem d_Lir_noteBroken_19 : decode prog_1_method_52_code 19 = .ok (.if_icmp .ge 41, 3) := by decide +kernel
theorem d_Lir_noteBroken_22 : decode prog_1_method_52_code 22 = .ok (.aload_n 0, 1) := by decide +kernel
theorem d_Lir_noteBroken_23 : decode prog_1_method_52_code 23 = .ok (.getfield 19, 3) := by decide +kernel
theorem d_Lir_noteBroken_26 : decode prog_1_method_52_code 26 = .ok (.iload_n 2, 1) := by decide +kernel
theorem d_Lir_noteBroken_27 : decode prog_1_method_52_code 27 = .ok (.invokevirtual 74, 3) := by decide +kernel
theorem d_Lir_noteBroken_30 : decode prog_1_method_52_code 30 = .ok (.astore_n 3, 1) := by decide +kernel
theorem d_Lir_noteBroken_31 : decode prog_1_method_52_code 31 = .ok (.aload_n 0, 1) := by decide +kernel
theorem d_Lir_noteBroken_32 : decode prog_1_method_52_code 32 = .ok (.getfield 30, 3) := by decide +kernel
theorem d_Lir_noteBroken_35 : decode prog_1_method_52_code 35 = .ok (.iload_n 2, 1) := by decide +kernel
theorem d_Lir_noteBroken_36 : decode prog_1_method_52_code 36 = .ok (.aload_n 3, 1) := by decide +kernel
theorem d_Lir_noteBroken_37 : decode prog_1_method_52_code 37 = .ok (.ifnonnull 7, 3) := by decide +kernel
theorem d_Lir_noteBroken_40 : decode prog_1_method_52_code 40 = .ok (.iconst 0, 1) := by decide +kernel
theorem d_Lir_noteBroken_41 : decode prog_1_method_52_code 41 = .ok (.goto 12, 3) := by decide +kernel
theorem d_Lir_noteBroken_44 : decode prog_1_method_52_code 44 = .ok (.aload_n 0, 1) := by decide +kernel
theorem d_Lir_noteBroken_45 : decode prog_1_method_52_code 45 = .ok (.getfield 19, 3) := by decide +kernel
theorem d_Lir_noteBroken_48 : decode prog_1_method_52_code 48 = .ok (.aload_n 3, 1) := by decide +kernel
theorem d_Lir_noteBroken_49 : decode prog_1_method_52_code 49 = .ok (.aload_n 1, 1) := by decide +kernel
theorem d_Lir_noteBroken_50 : decode prog_1_method_52_code 50 = .ok (.invokevirtual 135, 3) := by decide +kernel
theorem d_Lir_noteBroken_53 : decode prog_1_method_52_code 53 = .ok (.iastore, 1) := by decide +kernel
theorem d_Lir_noteBroken_54 : decode prog_1_method_52_code 54 = .ok (.iinc 2 1, 3) := by decide +kernel
theorem d_Lir_noteBroken_57 : decode prog_1_method_52_code 57 = .ok (.goto (-55), 3) := by decide +kernel
theorem d_Lir_noteBroken_60 : decode prog_1_method_52_code 60 = .ok (.return_, 1) := by decide +kernel
theorem d_Lir_coversAll_0 : decode prog_1_method_53_code 0 = .ok (.iconst 0, 1) := by decide +kernel
theorem d_Lir_coversAll_1 : decode prog_1_method_53_code 1 = .ok (.istore_n 2, 1) := by decide +kernel
theorem d_Lir_coversAll_2 : decode prog_1_method_53_code 2 = .ok (.iload_n 2, 1) := by decide +kernel
theorem d_Lir_coversAll_3 : decode prog_1_method_53_code 3 = .ok (.aload_n 0, 1) := by decide +kernel
theorem d_Lir_coversAll_4 : decode prog_1_method_53_code 4 = .ok (.getfield 19, 3) := by decide +kernel
theorem d_Lir_coversAll_7 : decode prog_1_method_53_code 7 = .ok (.getfield 53, 3) := by decide +kernel
theorem d_Lir_coversAll_10 : decode prog_1_method_53_code 10 = .ok (.if_icmp .ge 40, 3) := by decide +kernel
theorem d_Lir_coversAll_13 : decode prog_1_method_53_code 13 = .ok (.iload_n 2, 1) := by decide +kernel
theorem d_Lir_coversAll_14 : decode prog_1_method_53_code 14 = .ok (.aload_n 0, 1) := by decide +kernel
theorem d_Lir_coversAll_15 : decode prog_1_method_53_code 15 = .ok (.getfield 30, 3) := by decide +kernel
theorem d_Lir_coversAll_18 : decode prog_1_method_53_code 18 = .ok (.arraylength, 1) := by decide +kernel
theorem d_Lir_coversAll_19 : decode prog_1_method_53_code 19 = .ok (.if_icmp .ge 31, 3) := by decide +kernel
theorem d_Lir_coversAll_22 : decode prog_1_method_53_code 22 = .ok (.aload_n 0, 1) := by decide +kernel
theorem d_Lir_coversAll_23 : decode prog_1_method_53_code 23 = .ok (.getfield 30, 3) := by decide +kernel
theorem d_Lir_coversAll_26 : decode prog_1_method_53_code 26 = .ok (.iload_n 2, 1) := by decide +kernel
theorem d_Lir_coversAll_27 : decode prog_1_method_53_code 27 = .ok (.iaload, 1) := by decide +kernel
theorem d_Lir_coversAll_28 : decode prog_1_method_53_code 28 = .ok (.ifCond .eq 16, 3) := by decide +kernel
theorem d_Lir_coversAll_31 : decode prog_1_method_53_code 31 = .ok (.aload_n 0, 1) := by decide +kernel
theorem d_Lir_coversAll_32 : decode prog_1_method_53_code 32 = .ok (.getfield 30, 3) := by decide +kernel
theorem d_Lir_coversAll_35 : decode prog_1_method_53_code 35 = .ok (.iload_n 2, 1) := by decide +kernel
theorem d_Lir_coversAll_36 : decode prog_1_method_53_code 36 = .ok (.iaload, 1) := by decide +kernel
theorem d_Lir_coversAll_37 : decode prog_1_method_53_code 37 = .ok (.iload_n 1, 1) := by decide +kernel
theorem d_Lir_coversAll_38 : decode prog_1_method_53_code 38 = .ok (.iand, 1) := by decide +kernel
theorem d_Lir_coversAll_39 : decode prog_1_method_53_code 39 = .ok (.ifCond .ne 5, 3) := by decide +kernel
theorem d_Lir_coversAll_42 : decode prog_1_method_53_code 42 = .ok (.iconst 0, 1) := by decide +kernel
theorem d_Lir_coversAll_43 : decode prog_1_method_53_code 43 = .ok (.ireturn, 1) := by decide +kernel
theorem d_Lir_coversAll_44 : decode prog_1_method_53_code 44 = .ok (.iinc 2 1, 3) := by decide +kernel
theorem d_Lir_coversAll_47 : decode prog_1_method_53_code 47 = .ok (.goto (-45), 3) := by decide +kernel
theorem d_Lir_coversAll_50 : decode prog_1_method_53_code 50 = .ok (.iconst 1, 1) := by decide +kernel
theorem d_Lir_coversAll_51 : decode prog_1_method_53_code 51 = .ok (.ireturn, 1) := by decide +kernel
theorem d_Lir_halfFitsWithout_0 : decode prog_1_method_54_code 0 = .ok (.iconst 0, 1) := by decide +kernel
theorem d_Lir_halfFitsWithout_1 : decode prog_1_method_54_code 1 = .ok (.istore_n 2, 1) := by decide +kernel
theorem d_Lir_halfFitsWithout_2 : decode prog_1_method_54_code 2 = .ok (.iconst 0, 1) := by decide +kernel
theorem d_Lir_halfFitsWithout_3 : decode prog_1_method_54_code 3 = .ok (.istore_n 3, 1) := by decide +kernel
theorem d_Lir_halfFitsWithout_4 : decode prog_1_method_54_code 4 = .ok (.iload_n 3, 1) := by decide +kernel
theorem d_Lir_halfFitsWithout_5 : decode prog_1_method_54_code 5 = .ok (.aload_n 0, 1) := by decide +kernel
theorem d_Lir_halfFitsWithout_6 : decode prog_1_method_54_code 6 = .ok (.getfield 19, 3) := by decide +kernel
theorem d_Lir_halfFitsWithout_9 : decode prog_1_method_54_code 9 = .ok (.getfield 53, 3) := by decide +kernel
theorem d_Lir_halfFitsWithout_12 : decode prog_1_method_54_code 12 = .ok (.if_icmp .ge 34, 3) := by decide +kernel
theorem d_Lir_halfFitsWithout_15 : decode prog_1_method_54_code 15 = .ok (.iload_n 3, 1) := by decide +kernel
theorem d_Lir_halfFitsWithout_16 : decode prog_1_method_54_code 16 = .ok (.aload_n 0, 1) := by decide +kernel
theorem d_Lir_halfFitsWithout_17 : decode prog_1_method_54_code 17 = .ok (.getfield 30, 3) := by decide +kernel
theorem d_Lir_halfFitsWithout_20 : decode prog_1_method_54_code 20 = .ok (.arraylength, 1) := by decide +kernel
theorem d_Lir_halfFitsWithout_21 : decode prog_1_method_54_code 21 = .ok (.if_icmp .ge 25, 3) := by decide +kernel
theorem d_Lir_halfFitsWithout_24 : decode prog_1_method_54_code 24 = .ok (.aload_n 0, 1) := by decide +kernel
theorem d_Lir_halfFitsWithout_25 : decode prog_1_method_54_code 25 = .ok (.getfield 30, 3) := by decide +kernel
theorem d_Lir_halfFitsWithout_28 : decode prog_1_method_54_code 28 = .ok (.iload_n 3, 1) := by decide +kernel
theorem d_Lir_halfFitsWithout_29 : decode prog_1_method_54_code 29 = .ok (.iaload, 1) := by decide +kernel
theorem d_Lir_halfFitsWithout_30 : decode prog_1_method_54_code 30 = .ok (.iload_n 1, 1) := by decide +kernel
theorem d_Lir_halfFitsWithout_31 : decode prog_1_method_54_code 31 = .ok (.iconst (-1), 1) := by decide +kernel
theorem d_Lir_halfFitsWithout_32 : decode prog_1_method_54_code 32 = .ok (.ixor, 1) := by decide +kernel
theorem d_Lir_halfFitsWithout_33 : decode prog_1_method_54_code 33 = .ok (.iand, 1) := by decide +kernel
theorem d_Lir_halfFitsWithout_34 : decode prog_1_method_54_code 34 = .ok (.ifCond .ne 6, 3) := by decide +kernel
theorem d_Lir_halfFitsWithout_37 : decode prog_1_method_54_code 37 = .ok (.iinc 2 1, 3) := by decide +kernel
theorem d_Lir_halfFitsWithout_40 : decode prog_1_method_54_code 40 = .ok (.iinc 3 1, 3) := by decide +kernel
theorem d_Lir_halfFitsWithout_43 : decode prog_1_method_54_code 43 = .ok (.goto (-39), 3) := by decide +kernel
theorem d_Lir_halfFitsWithout_46 : decode prog_1_method_54_code 46 = .ok (.iconst 2, 1) := by decide +kernel
theorem d_Lir_halfFitsWithout_47 : decode prog_1_method_54_code 47 = .ok (.iload_n 2, 1) := by decide +kernel
theorem d_Lir_halfFitsWithout_48 : decode prog_1_method_54_code 48 = .ok (.imul, 1) := by decide +kernel
theorem d_Lir_halfFitsWithout_49 : decode prog_1_method_54_code 49 = .ok (.aload_n 0, 1) := by decide +kernel
theorem d_Lir_halfFitsWithout_50 : decode prog_1_method_54_code 50 = .ok (.getfield 19, 3) := by decide +kernel
theorem d_Lir_halfFitsWithout_53 : decode prog_1_method_54_code 53 = .ok (.getfield 53, 3) := by decide +kernel
theorem d_Lir_halfFitsWithout_56 : decode prog_1_method_54_code 56 = .ok (.if_icmp .lt 7, 3) := by decide +kernel
theorem d_Lir_halfFitsWithout_59 : decode prog_1_method_54_code 59 = .ok (.iconst 1, 1) := by decide +kernel
theorem d_Lir_halfFitsWithout_60 : decode prog_1_method_54_code 60 = .ok (.goto 4, 3) := by decide +kernel
theorem d_Lir_halfFitsWithout_63 : decode prog_1_method_54_code 63 = .ok (.iconst 0, 1) := by decide +kernel
theorem d_Lir_halfFitsWithout_64 : decode prog_1_method_54_code 64 = .ok (.ireturn, 1) := by decide +kernel
theorem d_Lir_firstNotedLike_0 : decode prog_1_method_55_code 0 = .ok (.iconst 0, 1) := by decide +kernel
theorem d_Lir_firstNotedLike_1 : decode prog_1_method_55_code 1 = .ok (.istore_n 2, 1) := by decide +kernel
theorem d_Lir_firstNotedLike_2 : decode prog_1_method_55_code 2 = .ok (.iload_n 2, 1) := by decide +kernel
theorem d_Lir_firstNotedLike_3 : decode prog_1_method_55_code 3 = .ok (.iload_n 1, 1) := by decide +kernel
theorem d_Lir_firstNotedLike_4 : decode prog_1_method_55_code 4 = .ok (.if_icmp .ge 35, 3) := by decide +kernel
theorem d_Lir_firstNotedLike_7 : decode prog_1_method_55_code 7 = .ok (.iload_n 1, 1) := by decide +kernel
theorem d_Lir_firstNotedLike_8 : decode prog_1_method_55_code 8 = .ok (.aload_n 0, 1) := by decide +kernel
theorem d_Lir_firstNotedLike_9 : decode prog_1_method_55_code 9 = .ok (.getfield 30, 3) := by decide +kernel
theorem d_Lir_firstNotedLike_12 : decode prog_1_method_55_code 12 = .ok (.arraylength, 1) := by decide +kernel
theorem d_Lir_firstNotedLike_13 : decode prog_1_method_55_code 13 = .ok (.if_icmp .ge 26, 3) := by decide +kernel
theorem d_Lir_firstNotedLike_16 : decode prog_1_method_55_code 16 = .ok (.aload_n 0, 1) := by decide +kernel
theorem d_Lir_firstNotedLike_17 : decode prog_1_method_55_code 17 = .ok (.getfield 30, 3) := by decide +kernel
theorem d_Lir_firstNotedLike_20 : decode prog_1_method_55_code 20 = .ok (.iload_n 2, 1) := by decide +kernel
theorem d_Lir_firstNotedLike_21 : decode prog_1_method_55_code 21 = .ok (.iaload, 1) := by decide +kernel
theorem d_Lir_firstNotedLike_22 : decode prog_1_method_55_code 22 = .ok (.aload_n 0, 1) := by decide +kernel
theorem d_Lir_firstNotedLike_23 : decode prog_1_method_55_code 23 = .ok (.getfield 30, 3) := by decide +kernel
theorem d_Lir_firstNotedLike_26 : decode prog_1_method_55_code 26 = .ok (.iload_n 1, 1) := by decide +kernel
theorem d_Lir_firstNotedLike_27 : decode prog_1_method_55_code 27 = .ok (.iaload, 1) := by decide +kernel
theorem d_Lir_firstNotedLike_28 : decode prog_1_method_55_code 28 = .ok (.if_icmp .ne 5, 3) := by decide +kernel
theorem d_Lir_firstNotedLike_31 : decode prog_1_method_55_code 31 = .ok (.iload_n 2, 1) := by decide +kernel
theorem d_Lir_firstNotedLike_32 : decode prog_1_method_55_code 32 = .ok (.ireturn, 1) := by decide +kernel
theorem d_Lir_firstNotedLike_33 : decode prog_1_method_55_code 33 = .ok (.iinc 2 1, 3) := by decide +kernel
theorem d_Lir_firstNotedLike_36 : decode prog_1_method_55_code 36 = .ok (.goto (-34), 3) := by decide +kernel
theorem d_Lir_firstNotedLike_39 : decode prog_1_method_55_code 39 = .ok (.iload_n 1, 1) := by decide +kernel
theorem d_Lir_firstNotedLike_40 : decode prog_1_method_55_code 40 = .ok (.ireturn, 1) := by decide +kernel
theorem d_Lir_howManyNotedLike_0 : decode prog_1_method_56_code 0 = .ok (.iconst 0, 1) := by decide +kernel
theorem d_Lir_howManyNotedLike_1 : decode prog_1_method_56_code 1 = .ok (.istore_n 2, 1) := by decide +kernel
theorem d_Lir_howManyNotedLike_2 : decode prog_1_method_56_code 2 = .ok (.iconst 0, 1) := by decide +kernel
theorem d_Lir_howManyNotedLike_3 : decode prog_1_method_56_code 3 = .ok (.istore_n 3, 1) := by decide +kernel
theorem d_Lir_howManyNotedLike_4 : decode prog_1_method_56_code 4 = .ok (.iload_n 3, 1) := by decide +kernel
theorem d_Lir_howManyNotedLike_5 : decode prog_1_method_56_code 5 = .ok (.aload_n 0, 1) := by decide +kernel
theorem d_Lir_howManyNotedLike_6 : decode prog_1_method_56_code 6 = .ok (.getfield 19, 3) := by decide +kernel
theorem d_Lir_howManyNotedLike_9 : decode prog_1_method_56_code 9 = .ok (.getfield 53, 3) := by decide +kernel
theorem d_Lir_howManyNotedLike_12 : decode prog_1_method_56_code 12 = .ok (.if_icmp .ge 49, 3) := by decide +kernel
theorem d_Lir_howManyNotedLike_15 : decode prog_1_method_56_code 15 = .ok (.iload_n 3, 1) := by decide +kernel
theorem d_Lir_howManyNotedLike_16 : decode prog_1_method_56_code 16 = .ok (.aload_n 0, 1) := by decide +kernel
theorem d_Lir_howManyNotedLike_17 : decode prog_1_method_56_code 17 = .ok (.getfield 30, 3) := by decide +kernel
theorem d_Lir_howManyNotedLike_20 : decode prog_1_method_56_code 20 = .ok (.arraylength, 1) := by decide +kernel
theorem d_Lir_howManyNotedLike_21 : decode prog_1_method_56_code 21 = .ok (.if_icmp .ge 40, 3) := by decide +kernel
theorem d_Lir_howManyNotedLike_24 : decode prog_1_method_56_code 24 = .ok (.iload_n 1, 1) := by decide +kernel
theorem d_Lir_howManyNotedLike_25 : decode prog_1_method_56_code 25 = .ok (.ifCond .lt 30, 3) := by decide +kernel
theorem d_Lir_howManyNotedLike_28 : decode prog_1_method_56_code 28 = .ok (.iload_n 1, 1) := by decide +kernel
theorem d_Lir_howManyNotedLike_29 : decode prog_1_method_56_code 29 = .ok (.aload_n 0, 1) := by decide +kernel
theorem d_Lir_howManyNotedLike_30 : decode prog_1_method_56_code 30 = .ok (.getfield 30, 3) := by decide +kernel
theorem d_Lir_howManyNotedLike_33 : decode prog_1_method_56_code 33 = .ok (.arraylength, 1) := by decide +kernel
theorem d_Lir_howManyNotedLike_34 : decode prog_1_method_56_code 34 = .ok (.if_icmp .ge 21, 3) := by decide +kernel
theorem d_Lir_howManyNotedLike_37 : decode prog_1_method_56_code 37 = .ok (.aload_n 0, 1) := by decide +kernel
theorem d_Lir_howManyNotedLike_38 : decode prog_1_method_56_code 38 = .ok (.getfield 30, 3) := by decide +kernel
theorem d_Lir_howManyNotedLike_41 : decode prog_1_method_56_code 41 = .ok (.iload_n 3, 1) := by decide +kernel
theorem d_Lir_howManyNotedLike_42 : decode prog_1_method_56_code 42 = .ok (.iaload, 1) := by decide +kernel
theorem d_Lir_howManyNotedLike_43 : decode prog_1_method_56_code 43 = .ok (.aload_n 0, 1) := by decide +kernel
theorem d_Lir_howManyNotedLike_44 : decode prog_1_method_56_code 44 = .ok (.getfield 30, 3) := by decide +kernel
theorem d_Lir_howManyNotedLike_47 : decode prog_1_method_56_code 47 = .ok (.iload_n 1, 1) := by decide +kernel
theorem d_Lir_howManyNotedLike_48 : decode prog_1_method_56_code 48 = .ok (.iaload, 1) := by decide +kernel
theorem d_Lir_howManyNotedLike_49 : decode prog_1_method_56_code 49 = .ok (.if_icmp .ne 6, 3) := by decide +kernel
theorem d_Lir_howManyNotedLike_52 : decode prog_1_method_56_code 52 = .ok (.iinc 2 1, 3) := by decide +kernel
theorem d_Lir_howManyNotedLike_55 : decode prog_1_method_56_code 55 = .ok (.iinc 3 1, 3) := by decide +kernel
theorem d_Lir_howManyNotedLike_58 : decode prog_1_method_56_code 58 = .ok (.goto (-54), 3) := by decide +kernel
theorem d_Lir_howManyNotedLike_61 : decode prog_1_method_56_code 61 = .ok (.iload_n 2, 1) := by decide +kernel
theorem d_Lir_howManyNotedLike_62 : decode prog_1_method_56_code 62 = .ok (.ireturn, 1) := by decide +kernel
