theorem dX11_bear_21 : decode cX11_bear 21 = .ok (.aload_n 2, 1) := by decide +kernel
theorem dX11_bear_22 : decode cX11_bear 22 = .ok (.invokevirtual 410, 3) := by decide +kernel
theorem dX11_bear_25 : decode cX11_bear 25 = .ok (.ifCond .ne 11, 3) := by decide +kernel
theorem dX11_bear_28 : decode cX11_bear 28 = .ok (.new 82, 3) := by decide +kernel
theorem dX11_bear_31 : decode cX11_bear 31 = .ok (.dup, 1) := by decide +kernel
theorem dX11_bear_32 : decode cX11_bear 32 = .ok (.invokespecial 84, 3) := by decide +kernel
theorem dX11_bear_35 : decode cX11_bear 35 = .ok (.athrow, 1) := by decide +kernel
theorem dX11_bear_36 : decode cX11_bear 36 = .ok (.aload_n 0, 1) := by decide +kernel
theorem dX11_bear_37 : decode cX11_bear 37 = .ok (.getfield 44, 3) := by decide +kernel
theorem dX11_bear_40 : decode cX11_bear 40 = .ok (.aload_n 2, 1) := by decide +kernel
theorem dX11_bear_41 : decode cX11_bear 41 = .ok (.invokevirtual 413, 3) := by decide +kernel
theorem dX11_bear_44 : decode cX11_bear 44 = .ok (.ireturn, 1) := by decide +kernel
theorem dX11_ofTribe_0 : decode cX11_ofTribe 0 = .ok (.iload_n 1, 1) := by decide +kernel
theorem dX11_ofTribe_1 : decode cX11_ofTribe 1 = .ok (.iconst 0, 1) := by decide +kernel
theorem dX11_ofTribe_2 : decode cX11_ofTribe 2 = .ok (.iconst 3, 1) := by decide +kernel
theorem dX11_ofTribe_3 : decode cX11_ofTribe 3 = .ok (.invokestatic 61, 3) := by decide +kernel
theorem dX11_ofTribe_6 : decode cX11_ofTribe 6 = .ok (.ifCond .ne 11, 3) := by decide +kernel
theorem dX11_ofTribe_9 : decode cX11_ofTribe 9 = .ok (.new 95, 3) := by decide +kernel
theorem dX11_ofTribe_12 : decode cX11_ofTribe 12 = .ok (.dup, 1) := by decide +kernel
theorem dX11_ofTribe_13 : decode cX11_ofTribe 13 = .ok (.invokespecial 97, 3) := by decide +kernel
theorem dX11_ofTribe_16 : decode cX11_ofTribe 16 = .ok (.athrow, 1) := by decide +kernel
theorem dX11_ofTribe_17 : decode cX11_ofTribe 17 = .ok (.iload_n 2, 1) := by decide +kernel
theorem dX11_ofTribe_18 : decode cX11_ofTribe 18 = .ok (.tableswitch 90 0 4 #[34, 45, 54, 66, 78], 34) := by decide +kernel
theorem dX11_ofTribe_52 : decode cX11_ofTribe 52 = .ok (.aload_n 0, 1) := by decide +kernel
theorem dX11_ofTribe_53 : decode cX11_ofTribe 53 = .ok (.getfield 10, 3) := by decide +kernel
theorem dX11_ofTribe_56 : decode cX11_ofTribe 56 = .ok (.iconst 1, 1) := by decide +kernel
theorem dX11_ofTribe_57 : decode cX11_ofTribe 57 = .ok (.iconst 0, 1) := by decide +kernel
theorem dX11_ofTribe_58 : decode cX11_ofTribe 58 = .ok (.iload_n 1, 1) := by decide +kernel
theorem dX11_ofTribe_59 : decode cX11_ofTribe 59 = .ok (.invokevirtual 431, 3) := by decide +kernel
theorem dX11_ofTribe_62 : decode cX11_ofTribe 62 = .ok (.ireturn, 1) := by decide +kernel
theorem dX11_ofTribe_63 : decode cX11_ofTribe 63 = .ok (.aload_n 0, 1) := by decide +kernel
theorem dX11_ofTribe_64 : decode cX11_ofTribe 64 = .ok (.getfield 44, 3) := by decide +kernel
theorem dX11_ofTribe_67 : decode cX11_ofTribe 67 = .ok (.iload_n 1, 1) := by decide +kernel
theorem dX11_ofTribe_68 : decode cX11_ofTribe 68 = .ok (.invokevirtual 435, 3) := by decide +kernel
theorem dX11_ofTribe_71 : decode cX11_ofTribe 71 = .ok (.ireturn, 1) := by decide +kernel
theorem dX11_ofTribe_72 : decode cX11_ofTribe 72 = .ok (.aload_n 0, 1) := by decide +kernel
theorem dX11_ofTribe_73 : decode cX11_ofTribe 73 = .ok (.getfield 44, 3) := by decide +kernel
theorem dX11_ofTribe_76 : decode cX11_ofTribe 76 = .ok (.getfield 438, 3) := by decide +kernel
theorem dX11_ofTribe_79 : decode cX11_ofTribe 79 = .ok (.iload_n 1, 1) := by decide +kernel
theorem dX11_ofTribe_80 : decode cX11_ofTribe 80 = .ok (.invokestatic 358, 3) := by decide +kernel
theorem dX11_ofTribe_83 : decode cX11_ofTribe 83 = .ok (.ireturn, 1) := by decide +kernel
theorem dX11_ofTribe_84 : decode cX11_ofTribe 84 = .ok (.aload_n 0, 1) := by decide +kernel
theorem dX11_ofTribe_85 : decode cX11_ofTribe 85 = .ok (.getfield 44, 3) := by decide +kernel
theorem dX11_ofTribe_88 : decode cX11_ofTribe 88 = .ok (.getfield 441, 3) := by decide +kernel
theorem dX11_ofTribe_91 : decode cX11_ofTribe 91 = .ok (.iload_n 1, 1) := by decide +kernel
theorem dX11_ofTribe_92 : decode cX11_ofTribe 92 = .ok (.invokestatic 358, 3) := by decide +kernel
theorem dX11_ofTribe_95 : decode cX11_ofTribe 95 = .ok (.ireturn, 1) := by decide +kernel
theorem dX11_ofTribe_96 : decode cX11_ofTribe 96 = .ok (.aload_n 0, 1) := by decide +kernel
theorem dX11_ofTribe_97 : decode cX11_ofTribe 97 = .ok (.getfield 53, 3) := by decide +kernel
theorem dX11_ofTribe_100 : decode cX11_ofTribe 100 = .ok (.getfield 444, 3) := by decide +kernel
theorem dX11_ofTribe_103 : decode cX11_ofTribe 103 = .ok (.iload_n 1, 1) := by decide +kernel
theorem dX11_ofTribe_104 : decode cX11_ofTribe 104 = .ok (.invokestatic 358, 3) := by decide +kernel
theorem dX11_ofTribe_107 : decode cX11_ofTribe 107 = .ok (.ireturn, 1) := by decide +kernel
theorem dX11_ofTribe_108 : decode cX11_ofTribe 108 = .ok (.new 65, 3) := by decide +kernel
theorem dX11_ofTribe_111 : decode cX11_ofTribe 111 = .ok (.dup, 1) := by decide +kernel
theorem dX11_ofTribe_112 : decode cX11_ofTribe 112 = .ok (.invokespecial 67, 3) := by decide +kernel
theorem dX11_ofTribe_115 : decode cX11_ofTribe 115 = .ok (.athrow, 1) := by decide +kernel
theorem dX11_sherds_0 : decode cX11_sherds 0 = .ok (.aload_n 0, 1) := by decide +kernel
theorem dX11_sherds_1 : decode cX11_sherds 1 = .ok (.getfield 37, 3) := by decide +kernel
theorem dX11_sherds_4 : decode cX11_sherds 4 = .ok (.getfield 447, 3) := by decide +kernel
theorem dX11_sherds_7 : decode cX11_sherds 7 = .ok (.aload_n 0, 1) := by decide +kernel
theorem dX11_sherds_8 : decode cX11_sherds 8 = .ok (.getfield 10, 3) := by decide +kernel
theorem dX11_sherds_11 : decode cX11_sherds 11 = .ok (.invokevirtual 419, 3) := by decide +kernel
theorem dX11_sherds_14 : decode cX11_sherds 14 = .ok (.if_icmp .eq 24, 3) := by decide +kernel
theorem dX11_sherds_17 : decode cX11_sherds 17 = .ok (.aload_n 0, 1) := by decide +kernel
theorem dX11_sherds_18 : decode cX11_sherds 18 = .ok (.getfield 10, 3) := by decide +kernel
theorem dX11_sherds_21 : decode cX11_sherds 21 = .ok (.invokevirtual 450, 3) := by decide +kernel
theorem dX11_sherds_24 : decode cX11_sherds 24 = .ok (.iconst 2, 1) := by decide +kernel
theorem dX11_sherds_25 : decode cX11_sherds 25 = .ok (.if_icmp .lt 13, 3) := by decide +kernel
theorem dX11_sherds_28 : decode cX11_sherds 28 = .ok (.aload_n 0, 1) := by decide +kernel
theorem dX11_sherds_29 : decode cX11_sherds 29 = .ok (.getfield 10, 3) := by decide +kernel
theorem dX11_sherds_32 : decode cX11_sherds 32 = .ok (.getfield 109, 3) := by decide +kernel
theorem dX11_sherds_35 : decode cX11_sherds 35 = .ok (.ifCond .ne 11, 3) := by decide +kernel
theorem dX11_sherds_38 : decode cX11_sherds 38 = .ok (.new 82, 3) := by decide +kernel
theorem dX11_sherds_41 : decode cX11_sherds 41 = .ok (.dup, 1) := by decide +kernel
theorem dX11_sherds_42 : decode cX11_sherds 42 = .ok (.invokespecial 84, 3) := by decide +kernel
theorem dX11_sherds_45 : decode cX11_sherds 45 = .ok (.athrow, 1) := by decide +kernel
theorem dX11_sherds_46 : decode cX11_sherds 46 = .ok (.aload_n 0, 1) := by decide +kernel
theorem dX11_sherds_47 : decode cX11_sherds 47 = .ok (.getfield 37, 3) := by decide +kernel
theorem dX11_sherds_50 : decode cX11_sherds 50 = .ok (.invokevirtual 453, 3) := by decide +kernel
theorem dX11_sherds_53 : decode cX11_sherds 53 = .ok (.invokestatic 175, 3) := by decide +kernel
theorem dX11_sherds_56 : decode cX11_sherds 56 = .ok (.ireturn, 1) := by decide +kernel
theorem dX11_levy_0 : decode cX11_levy 0 = .ok (.iload_n 1, 1) := by decide +kernel
theorem dX11_levy_1 : decode cX11_levy 1 = .ok (.iconst 1, 1) := by decide +kernel
theorem dX11_levy_2 : decode cX11_levy 2 = .ok (.bipush 15, 2) := by decide +kernel
theorem dX11_levy_4 : decode cX11_levy 4 = .ok (.invokestatic 61, 3) := by decide +kernel
theorem dX11_levy_7 : decode cX11_levy 7 = .ok (.ifCond .ne 11, 3) := by decide +kernel
theorem dX11_levy_10 : decode cX11_levy 10 = .ok (.new 65, 3) := by decide +kernel
theorem dX11_levy_13 : decode cX11_levy 13 = .ok (.dup, 1) := by decide +kernel
theorem dX11_levy_14 : decode cX11_levy 14 = .ok (.invokespecial 67, 3) := by decide +kernel
theorem dX11_levy_17 : decode cX11_levy 17 = .ok (.athrow, 1) := by decide +kernel
theorem dX11_levy_18 : decode cX11_levy 18 = .ok (.aload_n 0, 1) := by decide +kernel
theorem dX11_levy_19 : decode cX11_levy 19 = .ok (.getfield 10, 3) := by decide +kernel
theorem dX11_levy_22 : decode cX11_levy 22 = .ok (.getfield 457, 3) := by decide +kernel
theorem dX11_levy_25 : decode cX11_levy 25 = .ok (.iconst (-1), 1) := by decide +kernel
theorem dX11_levy_26 : decode cX11_levy 26 = .ok (.if_icmp .eq 20, 3) := by decide +kernel
theorem dX11_levy_29 : decode cX11_levy 29 = .ok (.aload_n 0, 1) := by decide +kernel
theorem dX11_levy_30 : decode cX11_levy 30 = .ok (.getfield 53, 3) := by decide +kernel
theorem dX11_levy_33 : decode cX11_levy 33 = .ok (.getfield 460, 3) := by decide +kernel
theorem dX11_levy_36 : decode cX11_levy 36 = .ok (.aload_n 0, 1) := by decide +kernel
theorem dX11_levy_37 : decode cX11_levy 37 = .ok (.getfield 10, 3) := by decide +kernel
theorem dX11_levy_40 : decode cX11_levy 40 = .ok (.getfield 216, 3) := by decide +kernel
theorem dX11_levy_43 : decode cX11_levy 43 = .ok (.if_icmp .ne 11, 3) := by decide +kernel
theorem dX11_levy_46 : decode cX11_levy 46 = .ok (.new 82, 3) := by decide +kernel
theorem dX11_levy_49 : decode cX11_levy 49 = .ok (.dup, 1) := by decide +kernel
theorem dX11_levy_50 : decode cX11_levy 50 = .ok (.invokespecial 84, 3) := by decide +kernel
theorem dX11_levy_53 : decode cX11_levy 53 = .ok (.athrow, 1) := by decide +kernel
theorem dX11_levy_54 : decode cX11_levy 54 = .ok (.aload_n 0, 1) := by decide +kernel
theorem dX11_levy_55 : decode cX11_levy 55 = .ok (.getfield 53, 3) := by decide +kernel
theorem dX11_levy_58 : decode cX11_levy 58 = .ok (.iload_n 1, 1) := by decide +kernel
theorem dX11_levy_59 : decode cX11_levy 59 = .ok (.invokevirtual 463, 3) := by decide +kernel
theorem dX11_levy_62 : decode cX11_levy 62 = .ok (.ireturn, 1) := by decide +kernel
theorem dX11_rise_0 : decode cX11_rise 0 = .ok (.iload_n 1, 1) := by decide +kernel
theorem dX11_rise_1 : decode cX11_rise 1 = .ok (.invokestatic 68, 3) := by decide +kernel
theorem dX11_rise_4 : decode cX11_rise 4 = .ok (.ifCond .ne 11, 3) := by decide +kernel
theorem dX11_rise_7 : decode cX11_rise 7 = .ok (.new 65, 3) := by decide +kernel
theorem dX11_rise_10 : decode cX11_rise 10 = .ok (.dup, 1) := by decide +kernel
theorem dX11_rise_11 : decode cX11_rise 11 = .ok (.invokespecial 67, 3) := by decide +kernel
theorem dX11_rise_14 : decode cX11_rise 14 = .ok (.athrow, 1) := by decide +kernel
theorem dX11_rise_15 : decode cX11_rise 15 = .ok (.aload_n 0, 1) := by decide +kernel
theorem dX11_rise_16 : decode cX11_rise 16 = .ok (.getfield 10, 3) := by decide +kernel
theorem dX11_rise_19 : decode cX11_rise 19 = .ok (.getfield 109, 3) := by decide +kernel
theorem dX11_rise_22 : decode cX11_rise 22 = .ok (.ifCond .eq 11, 3) := by decide +kernel
theorem dX11_rise_25 : decode cX11_rise 25 = .ok (.new 82, 3) := by decide +kernel
theorem dX11_rise_28 : decode cX11_rise 28 = .ok (.dup, 1) := by decide +kernel
theorem dX11_rise_29 : decode cX11_rise 29 = .ok (.invokespecial 84, 3) := by decide +kernel
theorem dX11_rise_32 : decode cX11_rise 32 = .ok (.athrow, 1) := by decide +kernel
theorem dX11_rise_33 : decode cX11_rise 33 = .ok (.aload_n 0, 1) := by decide +kernel
theorem dX11_rise_34 : decode cX11_rise 34 = .ok (.getfield 53, 3) := by decide +kernel
theorem dX11_rise_37 : decode cX11_rise 37 = .ok (.iload_n 1, 1) := by decide +kernel
theorem dX11_rise_38 : decode cX11_rise 38 = .ok (.iload_n 2, 1) := by decide +kernel
theorem dX11_rise_39 : decode cX11_rise 39 = .ok (.invokevirtual 466, 3) := by decide +kernel
theorem dX11_rise_42 : decode cX11_rise 42 = .ok (.ireturn, 1) := by decide +kernel
theorem dX11_pass_0 : decode cX11_pass 0 = .ok (.iload_n 1, 1) := by decide +kernel
theorem dX11_pass_1 : decode cX11_pass 1 = .ok (.iconst 1, 1) := by decide +kernel
theorem dX11_pass_2 : decode cX11_pass 2 = .ok (.bipush 40, 2) := by decide +kernel
theorem dX11_pass_4 : decode cX11_pass 4 = .ok (.invokestatic 61, 3) := by decide +kernel
theorem dX11_pass_7 : decode cX11_pass 7 = .ok (.ifCond .ne 11, 3) := by decide +kernel
theorem dX11_pass_10 : decode cX11_pass 10 = .ok (.new 65, 3) := by decide +kernel
theorem dX11_pass_13 : decode cX11_pass 13 = .ok (.dup, 1) := by decide +kernel
theorem dX11_pass_14 : decode cX11_pass 14 = .ok (.invokespecial 67, 3) := by decide +kernel
theorem dX11_pass_17 : decode cX11_pass 17 = .ok (.athrow, 1) := by decide +kernel
theorem dX11_pass_18 : decode cX11_pass 18 = .ok (.aload_n 0, 1) := by decide +kernel
theorem dX11_pass_19 : decode cX11_pass 19 = .ok (.getfield 10, 3) := by decide +kernel
theorem dX11_pass_22 : decode cX11_pass 22 = .ok (.getfield 216, 3) := by decide +kernel
theorem dX11_pass_25 : decode cX11_pass 25 = .ok (.iload_n 1, 1) := by decide +kernel
theorem dX11_pass_26 : decode cX11_pass 26 = .ok (.iadd, 1) := by decide +kernel
theorem dX11_pass_27 : decode cX11_pass 27 = .ok (.sipush 400, 3) := by decide +kernel
theorem dX11_pass_30 : decode cX11_pass 30 = .ok (.if_icmp .le 11, 3) := by decide +kernel
theorem dX11_pass_33 : decode cX11_pass 33 = .ok (.new 82, 3) := by decide +kernel
theorem dX11_pass_36 : decode cX11_pass 36 = .ok (.dup, 1) := by decide +kernel
theorem dX11_pass_37 : decode cX11_pass 37 = .ok (.invokespecial 84, 3) := by decide +kernel
theorem dX11_pass_40 : decode cX11_pass 40 = .ok (.athrow, 1) := by decide +kernel
theorem dX11_pass_41 : decode cX11_pass 41 = .ok (.iconst 0, 1) := by decide +kernel
theorem dX11_pass_42 : decode cX11_pass 42 = .ok (.istore_n 2, 1) := by decide +kernel
theorem dX11_pass_43 : decode cX11_pass 43 = .ok (.iload_n 2, 1) := by decide +kernel
theorem dX11_pass_44 : decode cX11_pass 44 = .ok (.iload_n 1, 1) := by decide +kernel
theorem dX11_pass_45 : decode cX11_pass 45 = .ok (.if_icmp .ge 26, 3) := by decide +kernel
theorem dX11_pass_48 : decode cX11_pass 48 = .ok (.aload_n 0, 1) := by decide +kernel
theorem dX11_pass_49 : decode cX11_pass 49 = .ok (.getfield 10, 3) := by decide +kernel
theorem dX11_pass_52 : decode cX11_pass 52 = .ok (.dup, 1) := by decide +kernel
theorem dX11_pass_53 : decode cX11_pass 53 = .ok (.getfield 216, 3) := by decide +kernel
theorem dX11_pass_56 : decode cX11_pass 56 = .ok (.iconst 1, 1) := by decide +kernel
theorem dX11_pass_57 : decode cX11_pass 57 = .ok (.iadd, 1) := by decide +kernel
theorem dX11_pass_58 : decode cX11_pass 58 = .ok (.putfield 216, 3) := by decide +kernel
theorem dX11_pass_61 : decode cX11_pass 61 = .ok (.aload_n 0, 1) := by decide +kernel
theorem dX11_pass_62 : decode cX11_pass 62 = .ok (.invokevirtual 470, 3) := by decide +kernel
theorem dX11_pass_65 : decode cX11_pass 65 = .ok (.iinc 2 1, 3) := by decide +kernel
theorem dX11_pass_68 : decode cX11_pass 68 = .ok (.goto (-25), 3) := by decide +kernel
theorem dX11_pass_71 : decode cX11_pass 71 = .ok (.aload_n 0, 1) := by decide +kernel
theorem dX11_pass_72 : decode cX11_pass 72 = .ok (.getfield 10, 3) := by decide +kernel
theorem dX11_pass_75 : decode cX11_pass 75 = .ok (.getfield 216, 3) := by decide +kernel
theorem dX11_pass_78 : decode cX11_pass 78 = .ok (.ireturn, 1) := by decide +kernel
theorem dX11_city_0 : decode cX11_city 0 = .ok (.iload_n 1, 1) := by decide +kernel
theorem dX11_city_1 : decode cX11_city 1 = .ok (.tableswitch 216 0 14 #[75, 83, 91, 99, 110, 121, 132, 140, 148, 159, 170, 178, 189, 200, 208], 75) := by decide +kernel
theorem dX11_city_76 : decode cX11_city 76 = .ok (.aload_n 0, 1) := by decide +kernel
theorem dX11_city_77 : decode cX11_city 77 = .ok (.getfield 10, 3) := by decide +kernel
theorem dX11_city_80 : decode cX11_city 80 = .ok (.getfield 216, 3) := by decide +kernel
theorem dX11_city_83 : decode cX11_city 83 = .ok (.ireturn, 1) := by decide +kernel
theorem dX11_city_84 : decode cX11_city 84 = .ok (.aload_n 0, 1) := by decide +kernel
theorem dX11_city_85 : decode cX11_city 85 = .ok (.getfield 10, 3) := by decide +kernel
theorem dX11_city_88 : decode cX11_city 88 = .ok (.invokevirtual 419, 3) := by decide +kernel
theorem dX11_city_91 : decode cX11_city 91 = .ok (.ireturn, 1) := by decide +kernel
theorem dX11_city_92 : decode cX11_city 92 = .ok (.aload_n 0, 1) := by decide +kernel
theorem dX11_city_93 : decode cX11_city 93 = .ok (.getfield 10, 3) := by decide +kernel
theorem dX11_city_96 : decode cX11_city 96 = .ok (.invokevirtual 450, 3) := by decide +kernel
theorem dX11_city_99 : decode cX11_city 99 = .ok (.ireturn, 1) := by decide +kernel
theorem dX11_city_100 : decode cX11_city 100 = .ok (.aload_n 0, 1) := by decide +kernel
theorem dX11_city_101 : decode cX11_city 101 = .ok (.getfield 10, 3) := by decide +kernel
theorem dX11_city_104 : decode cX11_city 104 = .ok (.getfield 473, 3) := by decide +kernel
theorem dX11_city_107 : decode cX11_city 107 = .ok (.getfield 477, 3) := by decide +kernel
theorem dX11_city_110 : decode cX11_city 110 = .ok (.ireturn, 1) := by decide +kernel
theorem dX11_city_111 : decode cX11_city 111 = .ok (.aload_n 0, 1) := by decide +kernel
theorem dX11_city_112 : decode cX11_city 112 = .ok (.getfield 10, 3) := by decide +kernel
theorem dX11_city_115 : decode cX11_city 115 = .ok (.getfield 473, 3) := by decide +kernel
theorem dX11_city_118 : decode cX11_city 118 = .ok (.getfield 482, 3) := by decide +kernel
theorem dX11_city_121 : decode cX11_city 121 = .ok (.ireturn, 1) := by decide +kernel
theorem dX11_city_122 : decode cX11_city 122 = .ok (.aload_n 0, 1) := by decide +kernel
theorem dX11_city_123 : decode cX11_city 123 = .ok (.getfield 10, 3) := by decide +kernel
theorem dX11_city_126 : decode cX11_city 126 = .ok (.getfield 72, 3) := by decide +kernel
theorem dX11_city_129 : decode cX11_city 129 = .ok (.invokevirtual 76, 3) := by decide +kernel
theorem dX11_city_132 : decode cX11_city 132 = .ok (.ireturn, 1) := by decide +kernel
theorem dX11_city_133 : decode cX11_city 133 = .ok (.aload_n 0, 1) := by decide +kernel
theorem dX11_city_134 : decode cX11_city 134 = .ok (.getfield 10, 3) := by decide +kernel
theorem dX11_city_137 : decode cX11_city 137 = .ok (.invokevirtual 425, 3) := by decide +kernel
theorem dX11_city_140 : decode cX11_city 140 = .ok (.ireturn, 1) := by decide +kernel
theorem dX11_city_141 : decode cX11_city 141 = .ok (.aload_n 0, 1) := by decide +kernel
theorem dX11_city_142 : decode cX11_city 142 = .ok (.getfield 10, 3) := by decide +kernel
theorem dX11_city_145 : decode cX11_city 145 = .ok (.getfield 485, 3) := by decide +kernel
theorem dX11_city_148 : decode cX11_city 148 = .ok (.ireturn, 1) := by decide +kernel
theorem dX11_city_149 : decode cX11_city 149 = .ok (.aload_n 0, 1) := by decide +kernel
theorem dX11_city_150 : decode cX11_city 150 = .ok (.getfield 10, 3) := by decide +kernel
theorem dX11_city_153 : decode cX11_city 153 = .ok (.getfield 109, 3) := by decide +kernel
theorem dX11_city_156 : decode cX11_city 156 = .ok (.invokestatic 154, 3) := by decide +kernel
theorem dX11_city_159 : decode cX11_city 159 = .ok (.ireturn, 1) := by decide +kernel
theorem dX11_city_160 : decode cX11_city 160 = .ok (.aload_n 0, 1) := by decide +kernel
theorem dX11_city_161 : decode cX11_city 161 = .ok (.getfield 53, 3) := by decide +kernel
theorem dX11_city_164 : decode cX11_city 164 = .ok (.invokevirtual 488, 3) := by decide +kernel
theorem dX11_city_167 : decode cX11_city 167 = .ok (.invokestatic 175, 3) := by decide +kernel
theorem dX11_city_170 : decode cX11_city 170 = .ok (.ireturn, 1) := by decide +kernel
theorem dX11_city_171 : decode cX11_city 171 = .ok (.aload_n 0, 1) := by decide +kernel
theorem dX11_city_172 : decode cX11_city 172 = .ok (.getfield 10, 3) := by decide +kernel
theorem dX11_city_175 : decode cX11_city 175 = .ok (.getfield 457, 3) := by decide +kernel
theorem dX11_city_178 : decode cX11_city 178 = .ok (.ireturn, 1) := by decide +kernel
theorem dX11_city_179 : decode cX11_city 179 = .ok (.aload_n 0, 1) := by decide +kernel
theorem dX11_city_180 : decode cX11_city 180 = .ok (.getfield 37, 3) := by decide +kernel
theorem dX11_city_183 : decode cX11_city 183 = .ok (.getfield 189, 3) := by decide +kernel
theorem dX11_city_186 : decode cX11_city 186 = .ok (.invokevirtual 76, 3) := by decide +kernel
theorem dX11_city_189 : decode cX11_city 189 = .ok (.ireturn, 1) := by decide +kernel
theorem dX11_city_190 : decode cX11_city 190 = .ok (.aload_n 0, 1) := by decide +kernel
theorem dX11_city_191 : decode cX11_city 191 = .ok (.getfield 37, 3) := by decide +kernel
theorem dX11_city_194 : decode cX11_city 194 = .ok (.getfield 222, 3) := by decide +kernel
theorem dX11_city_197 : decode cX11_city 197 = .ok (.invokevirtual 76, 3) := by decide +kernel
theorem dX11_city_200 : decode cX11_city 200 = .ok (.ireturn, 1) := by decide +kernel
theorem dX11_city_201 : decode cX11_city 201 = .ok (.aload_n 0, 1) := by decide +kernel
theorem dX11_city_202 : decode cX11_city 202 = .ok (.getfield 10, 3) := by decide +kernel
theorem dX11_city_205 : decode cX11_city 205 = .ok (.getfield 491, 3) := by decide +kernel
theorem dX11_city_208 : decode cX11_city 208 = .ok (.ireturn, 1) := by decide +kernel
theorem dX11_city_209 : decode cX11_city 209 = .ok (.aload_n 0, 1) := by decide +kernel
theorem dX11_city_210 : decode cX11_city 210 = .ok (.getfield 37, 3) := by decide +kernel
theorem dX11_city_213 : decode cX11_city 213 = .ok (.invokevirtual 494, 3) := by decide +kernel
theorem dX11_city_216 : decode cX11_city 216 = .ok (.ireturn, 1) := by decide +kernel
theorem dX11_city_217 : decode cX11_city 217 = .ok (.new 65, 3) := by decide +kernel
theorem dX11_city_220 : decode cX11_city 220 = .ok (.dup, 1) := by decide +kernel
theorem dX11_city_221 : decode cX11_city 221 = .ok (.invokespecial 67, 3) := by decide +kernel
theorem dX11_city_224 : decode cX11_city 224 = .ok (.athrow, 1) := by decide +kernel
theorem dX11_roll_0 : decode cX11_roll 0 = .ok (.iload_n 3, 1) := by decide +kernel
theorem dX11_roll_1 : decode cX11_roll 1 = .ok (.iconst (-1), 1) := by decide +kernel
theorem dX11_roll_2 : decode cX11_roll 2 = .ok (.iconst 3, 1) := by decide +kernel
theorem dX11_roll_3 : decode cX11_roll 3 = .ok (.invokestatic 61, 3) := by decide +kernel
theorem dX11_roll_6 : decode cX11_roll 6 = .ok (.ifCond .ne 11, 3) := by decide +kernel
theorem dX11_roll_9 : decode cX11_roll 9 = .ok (.new 95, 3) := by decide +kernel
theorem dX11_roll_12 : decode cX11_roll 12 = .ok (.dup, 1) := by decide +kernel
theorem dX11_roll_13 : decode cX11_roll 13 = .ok (.invokespecial 97, 3) := by decide +kernel
theorem dX11_roll_16 : decode cX11_roll 16 = .ok (.athrow, 1) := by decide +kernel
theorem dX11_roll_17 : decode cX11_roll 17 = .ok (.iload_n 1, 1) := by decide +kernel
theorem dX11_roll_18 : decode cX11_roll 18 = .ok (.iconst 0, 1) := by decide +kernel
theorem dX11_roll_19 : decode cX11_roll 19 = .ok (.iconst 5, 1) := by decide +kernel
theorem dX11_roll_20 : decode cX11_roll 20 = .ok (.invokestatic 61, 3) := by decide +kernel
theorem dX11_roll_23 : decode cX11_roll 23 = .ok (.ifCond .eq 13, 3) := by decide +kernel
theorem dX11_roll_26 : decode cX11_roll 26 = .ok (.iload_n 2, 1) := by decide +kernel
theorem dX11_roll_27 : decode cX11_roll 27 = .ok (.iconst 0, 1) := by decide +kernel
theorem dX11_roll_28 : decode cX11_roll 28 = .ok (.bipush 99, 2) := by decide +kernel
theorem dX11_roll_30 : decode cX11_roll 30 = .ok (.invokestatic 61, 3) := by decide +kernel
theorem dX11_roll_33 : decode cX11_roll 33 = .ok (.ifCond .ne 11, 3) := by decide +kernel
theorem dX11_roll_36 : decode cX11_roll 36 = .ok (.new 65, 3) := by decide +kernel
theorem dX11_roll_39 : decode cX11_roll 39 = .ok (.dup, 1) := by decide +kernel
theorem dX11_roll_40 : decode cX11_roll 40 = .ok (.invokespecial 67, 3) := by decide +kernel
theorem dX11_roll_43 : decode cX11_roll 43 = .ok (.athrow, 1) := by decide +kernel
theorem dX11_roll_44 : decode cX11_roll 44 = .ok (.aload_n 0, 1) := by decide +kernel
theorem dX11_roll_45 : decode cX11_roll 45 = .ok (.getfield 10, 3) := by decide +kernel
theorem dX11_roll_48 : decode cX11_roll 48 = .ok (.iload_n 1, 1) := by decide +kernel
theorem dX11_roll_49 : decode cX11_roll 49 = .ok (.iload_n 2, 1) := by decide +kernel
theorem dX11_roll_50 : decode cX11_roll 50 = .ok (.iload_n 3, 1) := by decide +kernel
theorem dX11_roll_51 : decode cX11_roll 51 = .ok (.invokevirtual 431, 3) := by decide +kernel
theorem dX11_roll_54 : decode cX11_roll 54 = .ok (.ireturn, 1) := by decide +kernel
theorem dX11_isSound_0 : decode cX11_isSound 0 = .ok (.aload_n 0, 1) := by decide +kernel
theorem dX11_isSound_1 : decode cX11_isSound 1 = .ok (.getfield 10, 3) := by decide +kernel
theorem dX11_isSound_4 : decode cX11_isSound 4 = .ok (.invokevirtual 497, 3) := by decide +kernel
theorem dX11_isSound_7 : decode cX11_isSound 7 = .ok (.ifCond .eq 47, 3) := by decide +kernel
theorem dX11_isSound_10 : decode cX11_isSound 10 = .ok (.aload_n 0, 1) := by decide +kernel
theorem dX11_isSound_11 : decode cX11_isSound 11 = .ok (.getfield 21, 3) := by decide +kernel
theorem dX11_isSound_14 : decode cX11_isSound 14 = .ok (.invokevirtual 500, 3) := by decide +kernel
theorem dX11_isSound_17 : decode cX11_isSound 17 = .ok (.ifCond .eq 37, 3) := by decide +kernel
theorem dX11_isSound_20 : decode cX11_isSound 20 = .ok (.aload_n 0, 1) := by decide +kernel
theorem dX11_isSound_21 : decode cX11_isSound 21 = .ok (.getfield 10, 3) := by decide +kernel
theorem dX11_isSound_24 : decode cX11_isSound 24 = .ok (.invokevirtual 503, 3) := by decide +kernel
theorem dX11_isSound_27 : decode cX11_isSound 27 = .ok (.ifCond .eq 27, 3) := by decide +kernel
theorem dX11_isSound_30 : decode cX11_isSound 30 = .ok (.aload_n 0, 1) := by decide +kernel
theorem dX11_isSound_31 : decode cX11_isSound 31 = .ok (.getfield 37, 3) := by decide +kernel
theorem dX11_isSound_34 : decode cX11_isSound 34 = .ok (.invokevirtual 506, 3) := by decide +kernel
theorem dX11_isSound_37 : decode cX11_isSound 37 = .ok (.ifCond .eq 17, 3) := by decide +kernel
theorem dX11_isSound_40 : decode cX11_isSound 40 = .ok (.aload_n 0, 1) := by decide +kernel
theorem dX11_isSound_41 : decode cX11_isSound 41 = .ok (.getfield 10, 3) := by decide +kernel
theorem dX11_isSound_44 : decode cX11_isSound 44 = .ok (.invokevirtual 509, 3) := by decide +kernel
theorem dX11_isSound_47 : decode cX11_isSound 47 = .ok (.ifCond .eq 7, 3) := by decide +kernel
theorem dX11_isSound_50 : decode cX11_isSound 50 = .ok (.iconst 1, 1) := by decide +kernel
theorem dX11_isSound_51 : decode cX11_isSound 51 = .ok (.goto 4, 3) := by decide +kernel
theorem dX11_isSound_54 : decode cX11_isSound 54 = .ok (.iconst 0, 1) := by decide +kernel
theorem dX11_isSound_55 : decode cX11_isSound 55 = .ok (.ireturn, 1) := by decide +kernel
theorem dX11_digest_0 : decode cX11_digest 0 = .ok (.ldc2_w 539, 3) := by decide +kernel
theorem dX11_digest_3 : decode cX11_digest 3 = .ok (.lstore_n 1, 1) := by decide +kernel
theorem dX11_digest_4 : decode cX11_digest 4 = .ok (.iconst 0, 1) := by decide +kernel
theorem dX11_digest_5 : decode cX11_digest 5 = .ok (.istore_n 3, 1) := by decide +kernel
theorem dX11_digest_6 : decode cX11_digest 6 = .ok (.iload_n 3, 1) := by decide +kernel
theorem dX11_digest_7 : decode cX11_digest 7 = .ok (.bipush 14, 2) := by decide +kernel
theorem dX11_digest_9 : decode cX11_digest 9 = .ok (.if_icmp .gt 22, 3) := by decide +kernel
theorem dX11_digest_12 : decode cX11_digest 12 = .ok (.lload_n 1, 1) := by decide +kernel
theorem dX11_digest_13 : decode cX11_digest 13 = .ok (.ldc2_w 541, 3) := by decide +kernel
theorem dX11_digest_16 : decode cX11_digest 16 = .ok (.lmul, 1) := by decide +kernel
theorem dX11_digest_17 : decode cX11_digest 17 = .ok (.aload_n 0, 1) := by decide +kernel
theorem dX11_digest_18 : decode cX11_digest 18 = .ok (.iload_n 3, 1) := by decide +kernel
theorem dX11_digest_19 : decode cX11_digest 19 = .ok (.invokevirtual 543, 3) := by decide +kernel
theorem dX11_digest_22 : decode cX11_digest 22 = .ok (.i2l, 1) := by decide +kernel
theorem dX11_digest_23 : decode cX11_digest 23 = .ok (.ladd, 1) := by decide +kernel
theorem dX11_digest_24 : decode cX11_digest 24 = .ok (.lstore_n 1, 1) := by decide +kernel
theorem dX11_digest_25 : decode cX11_digest 25 = .ok (.iinc 3 1, 3) := by decide +kernel
theorem dX11_digest_28 : decode cX11_digest 28 = .ok (.goto (-22), 3) := by decide +kernel
theorem dX11_digest_31 : decode cX11_digest 31 = .ok (.iconst 0, 1) := by decide +kernel
theorem dX11_digest_32 : decode cX11_digest 32 = .ok (.istore_n 3, 1) := by decide +kernel
theorem dX11_digest_33 : decode cX11_digest 33 = .ok (.iload_n 3, 1) := by decide +kernel
theorem dX11_digest_34 : decode cX11_digest 34 = .ok (.iconst 4, 1) := by decide +kernel
theorem dX11_digest_35 : decode cX11_digest 35 = .ok (.if_icmp .gt 22, 3) := by decide +kernel
theorem dX11_digest_38 : decode cX11_digest 38 = .ok (.lload_n 1, 1) := by decide +kernel
theorem dX11_digest_39 : decode cX11_digest 39 = .ok (.ldc2_w 541, 3) := by decide +kernel
theorem dX11_digest_42 : decode cX11_digest 42 = .ok (.lmul, 1) := by decide +kernel
theorem dX11_digest_43 : decode cX11_digest 43 = .ok (.aload_n 0, 1) := by decide +kernel
theorem dX11_digest_44 : decode cX11_digest 44 = .ok (.iload_n 3, 1) := by decide +kernel
theorem dX11_digest_45 : decode cX11_digest 45 = .ok (.invokevirtual 545, 3) := by decide +kernel
theorem dX11_digest_48 : decode cX11_digest 48 = .ok (.i2l, 1) := by decide +kernel
theorem dX11_digest_49 : decode cX11_digest 49 = .ok (.ladd, 1) := by decide +kernel
theorem dX11_digest_50 : decode cX11_digest 50 = .ok (.lstore_n 1, 1) := by decide +kernel
theorem dX11_digest_51 : decode cX11_digest 51 = .ok (.iinc 3 1, 3) := by decide +kernel
theorem dX11_digest_54 : decode cX11_digest 54 = .ok (.goto (-21), 3) := by decide +kernel
theorem dX11_digest_57 : decode cX11_digest 57 = .ok (.iconst 0, 1) := by decide +kernel
theorem dX11_digest_58 : decode cX11_digest 58 = .ok (.istore_n 3, 1) := by decide +kernel
theorem dX11_digest_59 : decode cX11_digest 59 = .ok (.iload_n 3, 1) := by decide +kernel
theorem dX11_digest_60 : decode cX11_digest 60 = .ok (.bipush 8, 2) := by decide +kernel
theorem dX11_digest_62 : decode cX11_digest 62 = .ok (.if_icmp .gt 22, 3) := by decide +kernel
theorem dX11_digest_65 : decode cX11_digest 65 = .ok (.lload_n 1, 1) := by decide +kernel
theorem dX11_digest_66 : decode cX11_digest 66 = .ok (.ldc2_w 541, 3) := by decide +kernel
theorem dX11_digest_69 : decode cX11_digest 69 = .ok (.lmul, 1) := by decide +kernel
theorem dX11_digest_70 : decode cX11_digest 70 = .ok (.aload_n 0, 1) := by decide +kernel
theorem dX11_digest_71 : decode cX11_digest 71 = .ok (.iload_n 3, 1) := by decide +kernel
theorem dX11_digest_72 : decode cX11_digest 72 = .ok (.invokevirtual 547, 3) := by decide +kernel
theorem dX11_digest_75 : decode cX11_digest 75 = .ok (.i2l, 1) := by decide +kernel
theorem dX11_digest_76 : decode cX11_digest 76 = .ok (.ladd, 1) := by decide +kernel
theorem dX11_digest_77 : decode cX11_digest 77 = .ok (.lstore_n 1, 1) := by decide +kernel
theorem dX11_digest_78 : decode cX11_digest 78 = .ok (.iinc 3 1, 3) := by decide +kernel
theorem dX11_digest_81 : decode cX11_digest 81 = .ok (.goto (-22), 3) := by decide +kernel
theorem dX11_digest_84 : decode cX11_digest 84 = .ok (.iconst 0, 1) := by decide +kernel
theorem dX11_digest_85 : decode cX11_digest 85 = .ok (.istore_n 3, 1) := by decide +kernel
theorem dX11_digest_86 : decode cX11_digest 86 = .ok (.iload_n 3, 1) := by decide +kernel
theorem dX11_digest_87 : decode cX11_digest 87 = .ok (.bipush 6, 2) := by decide +kernel
theorem dX11_digest_89 : decode cX11_digest 89 = .ok (.if_icmp .gt 22, 3) := by decide +kernel
theorem dX11_digest_92 : decode cX11_digest 92 = .ok (.lload_n 1, 1) := by decide +kernel
theorem dX11_digest_93 : decode cX11_digest 93 = .ok (.ldc2_w 541, 3) := by decide +kernel
theorem dX11_digest_96 : decode cX11_digest 96 = .ok (.lmul, 1) := by decide +kernel
theorem dX11_digest_97 : decode cX11_digest 97 = .ok (.aload_n 0, 1) := by decide +kernel
theorem dX11_digest_98 : decode cX11_digest 98 = .ok (.iload_n 3, 1) := by decide +kernel
theorem dX11_digest_99 : decode cX11_digest 99 = .ok (.invokevirtual 550, 3) := by decide +kernel
theorem dX11_digest_102 : decode cX11_digest 102 = .ok (.i2l, 1) := by decide +kernel
theorem dX11_digest_103 : decode cX11_digest 103 = .ok (.ladd, 1) := by decide +kernel
theorem dX11_digest_104 : decode cX11_digest 104 = .ok (.lstore_n 1, 1) := by decide +kernel
theorem dX11_digest_105 : decode cX11_digest 105 = .ok (.iinc 3 1, 3) := by decide +kernel
theorem dX11_digest_108 : decode cX11_digest 108 = .ok (.goto (-22), 3) := by decide +kernel
theorem dX11_digest_111 : decode cX11_digest 111 = .ok (.iconst 0, 1) := by decide +kernel
theorem dX11_digest_112 : decode cX11_digest 112 = .ok (.istore_n 3, 1) := by decide +kernel
theorem dX11_digest_113 : decode cX11_digest 113 = .ok (.iload_n 3, 1) := by decide +kernel
theorem dX11_digest_114 : decode cX11_digest 114 = .ok (.bipush 8, 2) := by decide +kernel
theorem dX11_digest_116 : decode cX11_digest 116 = .ok (.if_icmp .ge 22, 3) := by decide +kernel
theorem dX11_digest_119 : decode cX11_digest 119 = .ok (.lload_n 1, 1) := by decide +kernel
theorem dX11_digest_120 : decode cX11_digest 120 = .ok (.ldc2_w 541, 3) := by decide +kernel
theorem dX11_digest_123 : decode cX11_digest 123 = .ok (.lmul, 1) := by decide +kernel
theorem dX11_digest_124 : decode cX11_digest 124 = .ok (.aload_n 0, 1) := by decide +kernel
theorem dX11_digest_125 : decode cX11_digest 125 = .ok (.iload_n 3, 1) := by decide +kernel
theorem dX11_digest_126 : decode cX11_digest 126 = .ok (.invokevirtual 552, 3) := by decide +kernel
theorem dX11_digest_129 : decode cX11_digest 129 = .ok (.i2l, 1) := by decide +kernel
theorem dX11_digest_130 : decode cX11_digest 130 = .ok (.ladd, 1) := by decide +kernel
theorem dX11_digest_131 : decode cX11_digest 131 = .ok (.lstore_n 1, 1) := by decide +kernel
theorem dX11_digest_132 : decode cX11_digest 132 = .ok (.iinc 3 1, 3) := by decide +kernel
theorem dX11_digest_135 : decode cX11_digest 135 = .ok (.goto (-22), 3) := by decide +kernel
theorem dX11_digest_138 : decode cX11_digest 138 = .ok (.aload_n 0, 1) := by decide +kernel
theorem dX11_digest_139 : decode cX11_digest 139 = .ok (.aload_n 0, 1) := by decide +kernel
theorem dX11_digest_140 : decode cX11_digest 140 = .ok (.lload_n 1, 1) := by decide +kernel
theorem dX11_digest_141 : decode cX11_digest 141 = .ok (.invokevirtual 555, 3) := by decide +kernel
theorem dX11_digest_144 : decode cX11_digest 144 = .ok (.invokevirtual 559, 3) := by decide +kernel
theorem dX11_digest_147 : decode cX11_digest 147 = .ok (.lstore_n 1, 1) := by decide +kernel
theorem dX11_digest_148 : decode cX11_digest 148 = .ok (.lload_n 1, 1) := by decide +kernel
theorem dX11_digest_149 : decode cX11_digest 149 = .ok (.ldc2_w 541, 3) := by decide +kernel
theorem dX11_digest_152 : decode cX11_digest 152 = .ok (.lmul, 1) := by decide +kernel
theorem dX11_digest_153 : decode cX11_digest 153 = .ok (.aload_n 0, 1) := by decide +kernel
theorem dX11_digest_154 : decode cX11_digest 154 = .ok (.invokevirtual 562, 3) := by decide +kernel
theorem dX11_digest_157 : decode cX11_digest 157 = .ok (.invokestatic 154, 3) := by decide +kernel
theorem dX11_digest_160 : decode cX11_digest 160 = .ok (.i2l, 1) := by decide +kernel
theorem dX11_digest_161 : decode cX11_digest 161 = .ok (.ladd, 1) := by decide +kernel
theorem dX11_digest_162 : decode cX11_digest 162 = .ok (.lreturn, 1) := by decide +kernel
theorem dX11_digestOfOffices_0 : decode cX11_digestOfOffices 0 = .ok (.lload_n 1, 1) := by decide +kernel
theorem dX11_digestOfOffices_1 : decode cX11_digestOfOffices 1 = .ok (.lstore_n 3, 1) := by decide +kernel
theorem dX11_digestOfOffices_2 : decode cX11_digestOfOffices 2 = .ok (.iconst 0, 1) := by decide +kernel
theorem dX11_digestOfOffices_3 : decode cX11_digestOfOffices 3 = .ok (.istore 5, 2) := by decide +kernel
theorem dX11_digestOfOffices_5 : decode cX11_digestOfOffices 5 = .ok (.iload 5, 2) := by decide +kernel
theorem dX11_digestOfOffices_7 : decode cX11_digestOfOffices 7 = .ok (.aload_n 0, 1) := by decide +kernel
theorem dX11_digestOfOffices_8 : decode cX11_digestOfOffices 8 = .ok (.getfield 10, 3) := by decide +kernel
theorem dX11_digestOfOffices_11 : decode cX11_digestOfOffices 11 = .ok (.getfield 245, 3) := by decide +kernel
theorem dX11_digestOfOffices_14 : decode cX11_digestOfOffices 14 = .ok (.invokevirtual 76, 3) := by decide +kernel
theorem dX11_digestOfOffices_17 : decode cX11_digestOfOffices 17 = .ok (.if_icmp .ge 40, 3) := by decide +kernel
theorem dX11_digestOfOffices_20 : decode cX11_digestOfOffices 20 = .ok (.iconst 0, 1) := by decide +kernel
theorem dX11_digestOfOffices_21 : decode cX11_digestOfOffices 21 = .ok (.istore 6, 2) := by decide +kernel
theorem dX11_digestOfOffices_23 : decode cX11_digestOfOffices 23 = .ok (.iload 6, 2) := by decide +kernel
theorem dX11_digestOfOffices_25 : decode cX11_digestOfOffices 25 = .ok (.iconst 3, 1) := by decide +kernel
theorem dX11_digestOfOffices_26 : decode cX11_digestOfOffices 26 = .ok (.if_icmp .gt 25, 3) := by decide +kernel
theorem dX11_digestOfOffices_29 : decode cX11_digestOfOffices 29 = .ok (.lload_n 3, 1) := by decide +kernel
theorem dX11_digestOfOffices_30 : decode cX11_digestOfOffices 30 = .ok (.ldc2_w 541, 3) := by decide +kernel
theorem dX11_digestOfOffices_33 : decode cX11_digestOfOffices 33 = .ok (.lmul, 1) := by decide +kernel
theorem dX11_digestOfOffices_34 : decode cX11_digestOfOffices 34 = .ok (.aload_n 0, 1) := by decide +kernel
theorem dX11_digestOfOffices_35 : decode cX11_digestOfOffices 35 = .ok (.iload 5, 2) := by decide +kernel
theorem dX11_digestOfOffices_37 : decode cX11_digestOfOffices 37 = .ok (.iload 6, 2) := by decide +kernel
theorem dX11_digestOfOffices_39 : decode cX11_digestOfOffices 39 = .ok (.invokevirtual 565, 3) := by decide +kernel
theorem dX11_digestOfOffices_42 : decode cX11_digestOfOffices 42 = .ok (.i2l, 1) := by decide +kernel
theorem dX11_digestOfOffices_43 : decode cX11_digestOfOffices 43 = .ok (.ladd, 1) := by decide +kernel
theorem dX11_digestOfOffices_44 : decode cX11_digestOfOffices 44 = .ok (.lstore_n 3, 1) := by decide +kernel
theorem dX11_digestOfOffices_45 : decode cX11_digestOfOffices 45 = .ok (.iinc 6 1, 3) := by decide +kernel
theorem dX11_digestOfOffices_48 : decode cX11_digestOfOffices 48 = .ok (.goto (-25), 3) := by decide +kernel
theorem dX11_digestOfOffices_51 : decode cX11_digestOfOffices 51 = .ok (.iinc 5 1, 3) := by decide +kernel
theorem dX11_digestOfOffices_54 : decode cX11_digestOfOffices 54 = .ok (.goto (-49), 3) := by decide +kernel
theorem dX11_digestOfOffices_57 : decode cX11_digestOfOffices 57 = .ok (.iconst 0, 1) := by decide +kernel
theorem dX11_digestOfOffices_58 : decode cX11_digestOfOffices 58 = .ok (.istore 5, 2) := by decide +kernel
theorem dX11_digestOfOffices_60 : decode cX11_digestOfOffices 60 = .ok (.iload 5, 2) := by decide +kernel
theorem dX11_digestOfOffices_62 : decode cX11_digestOfOffices 62 = .ok (.iconst 4, 1) := by decide +kernel
theorem dX11_digestOfOffices_63 : decode cX11_digestOfOffices 63 = .ok (.if_icmp .ge 40, 3) := by decide +kernel
theorem dX11_digestOfOffices_66 : decode cX11_digestOfOffices 66 = .ok (.iconst 0, 1) := by decide +kernel
theorem dX11_digestOfOffices_67 : decode cX11_digestOfOffices 67 = .ok (.istore 6, 2) := by decide +kernel
theorem dX11_digestOfOffices_69 : decode cX11_digestOfOffices 69 = .ok (.iload 6, 2) := by decide +kernel
theorem dX11_digestOfOffices_71 : decode cX11_digestOfOffices 71 = .ok (.iconst 4, 1) := by decide +kernel
theorem dX11_digestOfOffices_72 : decode cX11_digestOfOffices 72 = .ok (.if_icmp .gt 25, 3) := by decide +kernel
theorem dX11_digestOfOffices_75 : decode cX11_digestOfOffices 75 = .ok (.lload_n 3, 1) := by decide +kernel
theorem dX11_digestOfOffices_76 : decode cX11_digestOfOffices 76 = .ok (.ldc2_w 541, 3) := by decide +kernel
theorem dX11_digestOfOffices_79 : decode cX11_digestOfOffices 79 = .ok (.lmul, 1) := by decide +kernel
theorem dX11_digestOfOffices_80 : decode cX11_digestOfOffices 80 = .ok (.aload_n 0, 1) := by decide +kernel
theorem dX11_digestOfOffices_81 : decode cX11_digestOfOffices 81 = .ok (.iload 5, 2) := by decide +kernel
theorem dX11_digestOfOffices_83 : decode cX11_digestOfOffices 83 = .ok (.iload 6, 2) := by decide +kernel
theorem dX11_digestOfOffices_85 : decode cX11_digestOfOffices 85 = .ok (.invokevirtual 568, 3) := by decide +kernel
theorem dX11_digestOfOffices_88 : decode cX11_digestOfOffices 88 = .ok (.i2l, 1) := by decide +kernel
theorem dX11_digestOfOffices_89 : decode cX11_digestOfOffices 89 = .ok (.ladd, 1) := by decide +kernel
theorem dX11_digestOfOffices_90 : decode cX11_digestOfOffices 90 = .ok (.lstore_n 3, 1) := by decide +kernel
theorem dX11_digestOfOffices_91 : decode cX11_digestOfOffices 91 = .ok (.iinc 6 1, 3) := by decide +kernel
theorem dX11_digestOfOffices_94 : decode cX11_digestOfOffices 94 = .ok (.goto (-25), 3) := by decide +kernel
theorem dX11_digestOfOffices_97 : decode cX11_digestOfOffices 97 = .ok (.iinc 5 1, 3) := by decide +kernel
theorem dX11_digestOfOffices_100 : decode cX11_digestOfOffices 100 = .ok (.goto (-40), 3) := by decide +kernel
theorem dX11_digestOfOffices_103 : decode cX11_digestOfOffices 103 = .ok (.lload_n 3, 1) := by decide +kernel
theorem dX11_digestOfOffices_104 : decode cX11_digestOfOffices 104 = .ok (.lreturn, 1) := by decide +kernel
theorem dX11_digestOfLists_0 : decode cX11_digestOfLists 0 = .ok (.lload_n 1, 1) := by decide +kernel
theorem dX11_digestOfLists_1 : decode cX11_digestOfLists 1 = .ok (.lstore_n 3, 1) := by decide +kernel
theorem dX11_digestOfLists_2 : decode cX11_digestOfLists 2 = .ok (.iconst 0, 1) := by decide +kernel
theorem dX11_digestOfLists_3 : decode cX11_digestOfLists 3 = .ok (.istore 5, 2) := by decide +kernel
theorem dX11_digestOfLists_5 : decode cX11_digestOfLists 5 = .ok (.iload 5, 2) := by decide +kernel
theorem dX11_digestOfLists_7 : decode cX11_digestOfLists 7 = .ok (.aload_n 0, 1) := by decide +kernel
theorem dX11_digestOfLists_8 : decode cX11_digestOfLists 8 = .ok (.getfield 37, 3) := by decide +kernel
theorem dX11_digestOfLists_11 : decode cX11_digestOfLists 11 = .ok (.getfield 222, 3) := by decide +kernel
theorem dX11_digestOfLists_14 : decode cX11_digestOfLists 14 = .ok (.invokevirtual 76, 3) := by decide +kernel
theorem dX11_digestOfLists_17 : decode cX11_digestOfLists 17 = .ok (.if_icmp .ge 40, 3) := by decide +kernel
theorem dX11_digestOfLists_20 : decode cX11_digestOfLists 20 = .ok (.iconst 0, 1) := by decide +kernel
theorem dX11_digestOfLists_21 : decode cX11_digestOfLists 21 = .ok (.istore 6, 2) := by decide +kernel
theorem dX11_digestOfLists_23 : decode cX11_digestOfLists 23 = .ok (.iload 6, 2) := by decide +kernel
theorem dX11_digestOfLists_25 : decode cX11_digestOfLists 25 = .ok (.iconst 4, 1) := by decide +kernel
theorem dX11_digestOfLists_26 : decode cX11_digestOfLists 26 = .ok (.if_icmp .gt 25, 3) := by decide +kernel
theorem dX11_digestOfLists_29 : decode cX11_digestOfLists 29 = .ok (.lload_n 3, 1) := by decide +kernel
theorem dX11_digestOfLists_30 : decode cX11_digestOfLists 30 = .ok (.ldc2_w 541, 3) := by decide +kernel
theorem dX11_digestOfLists_33 : decode cX11_digestOfLists 33 = .ok (.lmul, 1) := by decide +kernel
theorem dX11_digestOfLists_34 : decode cX11_digestOfLists 34 = .ok (.aload_n 0, 1) := by decide +kernel
theorem dX11_digestOfLists_35 : decode cX11_digestOfLists 35 = .ok (.iload 5, 2) := by decide +kernel
theorem dX11_digestOfLists_37 : decode cX11_digestOfLists 37 = .ok (.iload 6, 2) := by decide +kernel
theorem dX11_digestOfLists_39 : decode cX11_digestOfLists 39 = .ok (.invokevirtual 571, 3) := by decide +kernel
theorem dX11_digestOfLists_42 : decode cX11_digestOfLists 42 = .ok (.i2l, 1) := by decide +kernel
theorem dX11_digestOfLists_43 : decode cX11_digestOfLists 43 = .ok (.ladd, 1) := by decide +kernel
theorem dX11_digestOfLists_44 : decode cX11_digestOfLists 44 = .ok (.lstore_n 3, 1) := by decide +kernel
theorem dX11_digestOfLists_45 : decode cX11_digestOfLists 45 = .ok (.iinc 6 1, 3) := by decide +kernel
theorem dX11_digestOfLists_48 : decode cX11_digestOfLists 48 = .ok (.goto (-25), 3) := by decide +kernel
theorem dX11_digestOfLists_51 : decode cX11_digestOfLists 51 = .ok (.iinc 5 1, 3) := by decide +kernel
theorem dX11_digestOfLists_54 : decode cX11_digestOfLists 54 = .ok (.goto (-49), 3) := by decide +kernel
theorem dX11_digestOfLists_57 : decode cX11_digestOfLists 57 = .ok (.iconst 0, 1) := by decide +kernel
theorem dX11_digestOfLists_58 : decode cX11_digestOfLists 58 = .ok (.istore 5, 2) := by decide +kernel
theorem dX11_digestOfLists_60 : decode cX11_digestOfLists 60 = .ok (.iload 5, 2) := by decide +kernel
theorem dX11_digestOfLists_62 : decode cX11_digestOfLists 62 = .ok (.aload_n 0, 1) := by decide +kernel
theorem dX11_digestOfLists_63 : decode cX11_digestOfLists 63 = .ok (.getfield 28, 3) := by decide +kernel
theorem dX11_digestOfLists_66 : decode cX11_digestOfLists 66 = .ok (.getfield 279, 3) := by decide +kernel
theorem dX11_digestOfLists_69 : decode cX11_digestOfLists 69 = .ok (.invokevirtual 76, 3) := by decide +kernel
theorem dX11_digestOfLists_72 : decode cX11_digestOfLists 72 = .ok (.if_icmp .ge 41, 3) := by decide +kernel
theorem dX11_digestOfLists_75 : decode cX11_digestOfLists 75 = .ok (.iconst 0, 1) := by decide +kernel
theorem dX11_digestOfLists_76 : decode cX11_digestOfLists 76 = .ok (.istore 6, 2) := by decide +kernel
theorem dX11_digestOfLists_78 : decode cX11_digestOfLists 78 = .ok (.iload 6, 2) := by decide +kernel
theorem dX11_digestOfLists_80 : decode cX11_digestOfLists 80 = .ok (.bipush 6, 2) := by decide +kernel
theorem dX11_digestOfLists_82 : decode cX11_digestOfLists 82 = .ok (.if_icmp .gt 25, 3) := by decide +kernel
theorem dX11_digestOfLists_85 : decode cX11_digestOfLists 85 = .ok (.lload_n 3, 1) := by decide +kernel
theorem dX11_digestOfLists_86 : decode cX11_digestOfLists 86 = .ok (.ldc2_w 541, 3) := by decide +kernel
theorem dX11_digestOfLists_89 : decode cX11_digestOfLists 89 = .ok (.lmul, 1) := by decide +kernel
theorem dX11_digestOfLists_90 : decode cX11_digestOfLists 90 = .ok (.aload_n 0, 1) := by decide +kernel
theorem dX11_digestOfLists_91 : decode cX11_digestOfLists 91 = .ok (.iload 5, 2) := by decide +kernel
theorem dX11_digestOfLists_93 : decode cX11_digestOfLists 93 = .ok (.iload 6, 2) := by decide +kernel
theorem dX11_digestOfLists_95 : decode cX11_digestOfLists 95 = .ok (.invokevirtual 574, 3) := by decide +kernel
theorem dX11_digestOfLists_98 : decode cX11_digestOfLists 98 = .ok (.i2l, 1) := by decide +kernel
theorem dX11_digestOfLists_99 : decode cX11_digestOfLists 99 = .ok (.ladd, 1) := by decide +kernel
theorem dX11_digestOfLists_100 : decode cX11_digestOfLists 100 = .ok (.lstore_n 3, 1) := by decide +kernel
theorem dX11_digestOfLists_101 : decode cX11_digestOfLists 101 = .ok (.iinc 6 1, 3) := by decide +kernel
theorem dX11_digestOfLists_104 : decode cX11_digestOfLists 104 = .ok (.goto (-26), 3) := by decide +kernel
theorem dX11_digestOfLists_107 : decode cX11_digestOfLists 107 = .ok (.iinc 5 1, 3) := by decide +kernel
theorem dX11_digestOfLists_110 : decode cX11_digestOfLists 110 = .ok (.goto (-50), 3) := by decide +kernel
theorem dX11_digestOfLists_113 : decode cX11_digestOfLists 113 = .ok (.iconst 0, 1) := by decide +kernel
theorem dX11_digestOfLists_114 : decode cX11_digestOfLists 114 = .ok (.istore 5, 2) := by decide +kernel
theorem dX11_digestOfLists_116 : decode cX11_digestOfLists 116 = .ok (.iload 5, 2) := by decide +kernel
theorem dX11_digestOfLists_118 : decode cX11_digestOfLists 118 = .ok (.aload_n 0, 1) := by decide +kernel
theorem dX11_digestOfLists_119 : decode cX11_digestOfLists 119 = .ok (.getfield 37, 3) := by decide +kernel
theorem dX11_digestOfLists_122 : decode cX11_digestOfLists 122 = .ok (.getfield 189, 3) := by decide +kernel
theorem dX11_digestOfLists_125 : decode cX11_digestOfLists 125 = .ok (.invokevirtual 76, 3) := by decide +kernel
theorem dX11_digestOfLists_128 : decode cX11_digestOfLists 128 = .ok (.if_icmp .ge 23, 3) := by decide +kernel
theorem dX11_digestOfLists_131 : decode cX11_digestOfLists 131 = .ok (.lload_n 3, 1) := by decide +kernel
theorem dX11_digestOfLists_132 : decode cX11_digestOfLists 132 = .ok (.ldc2_w 541, 3) := by decide +kernel
theorem dX11_digestOfLists_135 : decode cX11_digestOfLists 135 = .ok (.lmul, 1) := by decide +kernel
theorem dX11_digestOfLists_136 : decode cX11_digestOfLists 136 = .ok (.aload_n 0, 1) := by decide +kernel
theorem dX11_digestOfLists_137 : decode cX11_digestOfLists 137 = .ok (.iload 5, 2) := by decide +kernel
theorem dX11_digestOfLists_139 : decode cX11_digestOfLists 139 = .ok (.invokevirtual 577, 3) := by decide +kernel
theorem dX11_digestOfLists_142 : decode cX11_digestOfLists 142 = .ok (.i2l, 1) := by decide +kernel
theorem dX11_digestOfLists_143 : decode cX11_digestOfLists 143 = .ok (.ladd, 1) := by decide +kernel
theorem dX11_digestOfLists_144 : decode cX11_digestOfLists 144 = .ok (.lstore_n 3, 1) := by decide +kernel
theorem dX11_digestOfLists_145 : decode cX11_digestOfLists 145 = .ok (.iinc 5 1, 3) := by decide +kernel
theorem dX11_digestOfLists_148 : decode cX11_digestOfLists 148 = .ok (.goto (-32), 3) := by decide +kernel
theorem dX11_digestOfLists_151 : decode cX11_digestOfLists 151 = .ok (.iconst 0, 1) := by decide +kernel
theorem dX11_digestOfLists_152 : decode cX11_digestOfLists 152 = .ok (.istore 5, 2) := by decide +kernel
theorem dX11_digestOfLists_154 : decode cX11_digestOfLists 154 = .ok (.iload 5, 2) := by decide +kernel
theorem dX11_digestOfLists_156 : decode cX11_digestOfLists 156 = .ok (.aload_n 0, 1) := by decide +kernel
theorem dX11_digestOfLists_157 : decode cX11_digestOfLists 157 = .ok (.getfield 10, 3) := by decide +kernel
theorem dX11_digestOfLists_160 : decode cX11_digestOfLists 160 = .ok (.getfield 72, 3) := by decide +kernel
theorem dX11_digestOfLists_163 : decode cX11_digestOfLists 163 = .ok (.invokevirtual 76, 3) := by decide +kernel
theorem dX11_digestOfLists_166 : decode cX11_digestOfLists 166 = .ok (.if_icmp .ge 41, 3) := by decide +kernel
theorem dX11_digestOfLists_169 : decode cX11_digestOfLists 169 = .ok (.iconst 0, 1) := by decide +kernel
theorem dX11_digestOfLists_170 : decode cX11_digestOfLists 170 = .ok (.istore 6, 2) := by decide +kernel
theorem dX11_digestOfLists_172 : decode cX11_digestOfLists 172 = .ok (.iload 6, 2) := by decide +kernel
theorem dX11_digestOfLists_174 : decode cX11_digestOfLists 174 = .ok (.bipush 12, 2) := by decide +kernel
theorem dX11_digestOfLists_176 : decode cX11_digestOfLists 176 = .ok (.if_icmp .gt 25, 3) := by decide +kernel
theorem dX11_digestOfLists_179 : decode cX11_digestOfLists 179 = .ok (.lload_n 3, 1) := by decide +kernel
theorem dX11_digestOfLists_180 : decode cX11_digestOfLists 180 = .ok (.ldc2_w 541, 3) := by decide +kernel
theorem dX11_digestOfLists_183 : decode cX11_digestOfLists 183 = .ok (.lmul, 1) := by decide +kernel
theorem dX11_digestOfLists_184 : decode cX11_digestOfLists 184 = .ok (.aload_n 0, 1) := by decide +kernel
theorem dX11_digestOfLists_185 : decode cX11_digestOfLists 185 = .ok (.iload 5, 2) := by decide +kernel
theorem dX11_digestOfLists_187 : decode cX11_digestOfLists 187 = .ok (.iload 6, 2) := by decide +kernel
theorem dX11_digestOfLists_189 : decode cX11_digestOfLists 189 = .ok (.invokevirtual 580, 3) := by decide +kernel
theorem dX11_digestOfLists_192 : decode cX11_digestOfLists 192 = .ok (.i2l, 1) := by decide +kernel
theorem dX11_digestOfLists_193 : decode cX11_digestOfLists 193 = .ok (.ladd, 1) := by decide +kernel
theorem dX11_digestOfLists_194 : decode cX11_digestOfLists 194 = .ok (.lstore_n 3, 1) := by decide +kernel
theorem dX11_digestOfLists_195 : decode cX11_digestOfLists 195 = .ok (.iinc 6 1, 3) := by decide +kernel
theorem dX11_digestOfLists_198 : decode cX11_digestOfLists 198 = .ok (.goto (-26), 3) := by decide +kernel
theorem dX11_digestOfLists_201 : decode cX11_digestOfLists 201 = .ok (.iinc 5 1, 3) := by decide +kernel
theorem dX11_digestOfLists_204 : decode cX11_digestOfLists 204 = .ok (.goto (-50), 3) := by decide +kernel
theorem dX11_digestOfLists_207 : decode cX11_digestOfLists 207 = .ok (.lload_n 3, 1) := by decide +kernel
theorem dX11_digestOfLists_208 : decode cX11_digestOfLists 208 = .ok (.lreturn, 1) := by decide +kernel
theorem dX11_beginDay_0 : decode cX11_beginDay 0 = .ok (.aload_n 0, 1) := by decide +kernel
theorem dX11_beginDay_1 : decode cX11_beginDay 1 = .ok (.getfield 10, 3) := by decide +kernel
theorem dX11_beginDay_4 : decode cX11_beginDay 4 = .ok (.getfield 216, 3) := by decide +kernel
theorem dX11_beginDay_7 : decode cX11_beginDay 7 = .ok (.bipush 10, 2) := by decide +kernel
theorem dX11_beginDay_9 : decode cX11_beginDay 9 = .ok (.irem, 1) := by decide +kernel
theorem dX11_beginDay_10 : decode cX11_beginDay 10 = .ok (.ifCond .ne 7, 3) := by decide +kernel
theorem dX11_beginDay_13 : decode cX11_beginDay 13 = .ok (.iconst 1, 1) := by decide +kernel
theorem dX11_beginDay_14 : decode cX11_beginDay 14 = .ok (.goto 4, 3) := by decide +kernel
theorem dX11_beginDay_17 : decode cX11_beginDay 17 = .ok (.iconst 0, 1) := by decide +kernel
theorem dX11_beginDay_18 : decode cX11_beginDay 18 = .ok (.istore_n 1, 1) := by decide +kernel
theorem dX11_beginDay_19 : decode cX11_beginDay 19 = .ok (.aload_n 0, 1) := by decide +kernel
theorem dX11_beginDay_20 : decode cX11_beginDay 20 = .ok (.getfield 10, 3) := by decide +kernel
theorem dX11_beginDay_23 : decode cX11_beginDay 23 = .ok (.getfield 216, 3) := by decide +kernel
theorem dX11_beginDay_26 : decode cX11_beginDay 26 = .ok (.bipush 40, 2) := by decide +kernel
theorem dX11_beginDay_28 : decode cX11_beginDay 28 = .ok (.irem, 1) := by decide +kernel
theorem dX11_beginDay_29 : decode cX11_beginDay 29 = .ok (.ifCond .ne 7, 3) := by decide +kernel
theorem dX11_beginDay_32 : decode cX11_beginDay 32 = .ok (.iconst 1, 1) := by decide +kernel
theorem dX11_beginDay_33 : decode cX11_beginDay 33 = .ok (.goto 4, 3) := by decide +kernel
theorem dX11_beginDay_36 : decode cX11_beginDay 36 = .ok (.iconst 0, 1) := by decide +kernel
theorem dX11_beginDay_37 : decode cX11_beginDay 37 = .ok (.istore_n 2, 1) := by decide +kernel
theorem dX11_beginDay_38 : decode cX11_beginDay 38 = .ok (.iload_n 1, 1) := by decide +kernel
theorem dX11_beginDay_39 : decode cX11_beginDay 39 = .ok (.ifCond .eq 10, 3) := by decide +kernel
theorem dX11_beginDay_42 : decode cX11_beginDay 42 = .ok (.aload_n 0, 1) := by decide +kernel
theorem dX11_beginDay_43 : decode cX11_beginDay 43 = .ok (.getfield 53, 3) := by decide +kernel
theorem dX11_beginDay_46 : decode cX11_beginDay 46 = .ok (.invokevirtual 583, 3) := by decide +kernel
theorem dX11_beginDay_49 : decode cX11_beginDay 49 = .ok (.iload_n 2, 1) := by decide +kernel
theorem dX11_beginDay_50 : decode cX11_beginDay 50 = .ok (.ifCond .eq 11, 3) := by decide +kernel
theorem dX11_beginDay_53 : decode cX11_beginDay 53 = .ok (.aload_n 0, 1) := by decide +kernel
theorem dX11_beginDay_54 : decode cX11_beginDay 54 = .ok (.invokevirtual 586, 3) := by decide +kernel
theorem dX11_beginDay_57 : decode cX11_beginDay 57 = .ok (.aload_n 0, 1) := by decide +kernel
theorem dX11_beginDay_58 : decode cX11_beginDay 58 = .ok (.invokevirtual 589, 3) := by decide +kernel
theorem dX11_beginDay_61 : decode cX11_beginDay 61 = .ok (.iload_n 1, 1) := by decide +kernel
theorem dX11_beginDay_62 : decode cX11_beginDay 62 = .ok (.ifCond .eq 24, 3) := by decide +kernel
theorem dX11_beginDay_65 : decode cX11_beginDay 65 = .ok (.iload_n 2, 1) := by decide +kernel
theorem dX11_beginDay_66 : decode cX11_beginDay 66 = .ok (.ifCond .ne 20, 3) := by decide +kernel
theorem dX11_beginDay_69 : decode cX11_beginDay 69 = .ok (.aload_n 0, 1) := by decide +kernel
theorem dX11_beginDay_70 : decode cX11_beginDay 70 = .ok (.getfield 10, 3) := by decide +kernel
theorem dX11_beginDay_73 : decode cX11_beginDay 73 = .ok (.getfield 109, 3) := by decide +kernel
theorem dX11_beginDay_76 : decode cX11_beginDay 76 = .ok (.ifCond .eq 10, 3) := by decide +kernel
theorem dX11_beginDay_79 : decode cX11_beginDay 79 = .ok (.aload_n 0, 1) := by decide +kernel
theorem dX11_beginDay_80 : decode cX11_beginDay 80 = .ok (.getfield 10, 3) := by decide +kernel
theorem dX11_beginDay_83 : decode cX11_beginDay 83 = .ok (.invokevirtual 592, 3) := by decide +kernel
theorem dX11_beginDay_86 : decode cX11_beginDay 86 = .ok (.iload_n 1, 1) := by decide +kernel
theorem dX11_beginDay_87 : decode cX11_beginDay 87 = .ok (.ifCond .eq 10, 3) := by decide +kernel
theorem dX11_beginDay_90 : decode cX11_beginDay 90 = .ok (.aload_n 0, 1) := by decide +kernel
theorem dX11_beginDay_91 : decode cX11_beginDay 91 = .ok (.getfield 10, 3) := by decide +kernel
theorem dX11_beginDay_94 : decode cX11_beginDay 94 = .ok (.invokevirtual 595, 3) := by decide +kernel
theorem dX11_beginDay_97 : decode cX11_beginDay 97 = .ok (.aload_n 0, 1) := by decide +kernel
theorem dX11_beginDay_98 : decode cX11_beginDay 98 = .ok (.getfield 21, 3) := by decide +kernel
theorem dX11_beginDay_101 : decode cX11_beginDay 101 = .ok (.invokevirtual 165, 3) := by decide +kernel
theorem dX11_beginDay_104 : decode cX11_beginDay 104 = .ok (.return_, 1) := by decide +kernel
theorem dX11_endYear_0 : decode cX11_endYear 0 = .ok (.aload_n 0, 1) := by decide +kernel
theorem dX11_endYear_1 : decode cX11_endYear 1 = .ok (.getfield 44, 3) := by decide +kernel
theorem dX11_endYear_4 : decode cX11_endYear 4 = .ok (.invokevirtual 598, 3) := by decide +kernel
theorem dX11_endYear_7 : decode cX11_endYear 7 = .ok (.aload_n 0, 1) := by decide +kernel
theorem dX11_endYear_8 : decode cX11_endYear 8 = .ok (.getfield 10, 3) := by decide +kernel
theorem dX11_endYear_11 : decode cX11_endYear 11 = .ok (.invokevirtual 601, 3) := by decide +kernel
theorem dX11_endYear_14 : decode cX11_endYear 14 = .ok (.aload_n 0, 1) := by decide +kernel
theorem dX11_endYear_15 : decode cX11_endYear 15 = .ok (.getfield 10, 3) := by decide +kernel
theorem dX11_endYear_18 : decode cX11_endYear 18 = .ok (.invokevirtual 604, 3) := by decide +kernel
theorem dX11_endYear_21 : decode cX11_endYear 21 = .ok (.aload_n 0, 1) := by decide +kernel
theorem dX11_endYear_22 : decode cX11_endYear 22 = .ok (.getfield 44, 3) := by decide +kernel
theorem dX11_endYear_25 : decode cX11_endYear 25 = .ok (.invokevirtual 607, 3) := by decide +kernel
theorem dX11_endYear_28 : decode cX11_endYear 28 = .ok (.return_, 1) := by decide +kernel
theorem dX11_beginYear_0 : decode cX11_beginYear 0 = .ok (.aload_n 0, 1) := by decide +kernel
theorem dX11_beginYear_1 : decode cX11_beginYear 1 = .ok (.getfield 10, 3) := by decide +kernel
theorem dX11_beginYear_4 : decode cX11_beginYear 4 = .ok (.invokevirtual 610, 3) := by decide +kernel
theorem dX11_beginYear_7 : decode cX11_beginYear 7 = .ok (.aload_n 0, 1) := by decide +kernel
theorem dX11_beginYear_8 : decode cX11_beginYear 8 = .ok (.getfield 44, 3) := by decide +kernel
theorem dX11_beginYear_11 : decode cX11_beginYear 11 = .ok (.invokevirtual 613, 3) := by decide +kernel
theorem dX11_beginYear_14 : decode cX11_beginYear 14 = .ok (.aload_n 0, 1) := by decide +kernel
theorem dX11_beginYear_15 : decode cX11_beginYear 15 = .ok (.getfield 10, 3) := by decide +kernel
theorem dX11_beginYear_18 : decode cX11_beginYear 18 = .ok (.getfield 109, 3) := by decide +kernel
theorem dX11_beginYear_21 : decode cX11_beginYear 21 = .ok (.ifCond .eq 10, 3) := by decide +kernel
theorem dX11_beginYear_24 : decode cX11_beginYear 24 = .ok (.aload_n 0, 1) := by decide +kernel
theorem dX11_beginYear_25 : decode cX11_beginYear 25 = .ok (.getfield 21, 3) := by decide +kernel
theorem dX11_beginYear_28 : decode cX11_beginYear 28 = .ok (.invokevirtual 162, 3) := by decide +kernel
theorem dX11_beginYear_31 : decode cX11_beginYear 31 = .ok (.return_, 1) := by decide +kernel
theorem dX11_isFrom_0 : decode cX11_isFrom 0 = .ok (.iload_n 0, 1) := by decide +kernel
theorem dX11_isFrom_1 : decode cX11_isFrom 1 = .ok (.iload_n 1, 1) := by decide +kernel
theorem dX11_isFrom_2 : decode cX11_isFrom 2 = .ok (.if_icmp .lt 12, 3) := by decide +kernel
theorem dX11_isFrom_5 : decode cX11_isFrom 5 = .ok (.iload_n 0, 1) := by decide +kernel
theorem dX11_isFrom_6 : decode cX11_isFrom 6 = .ok (.iload_n 2, 1) := by decide +kernel
theorem dX11_isFrom_7 : decode cX11_isFrom 7 = .ok (.if_icmp .gt 7, 3) := by decide +kernel
theorem dX11_isFrom_10 : decode cX11_isFrom 10 = .ok (.iconst 1, 1) := by decide +kernel
theorem dX11_isFrom_11 : decode cX11_isFrom 11 = .ok (.goto 4, 3) := by decide +kernel
theorem dX11_isFrom_14 : decode cX11_isFrom 14 = .ok (.iconst 0, 1) := by decide +kernel
theorem dX11_isFrom_15 : decode cX11_isFrom 15 = .ok (.ireturn, 1) := by decide +kernel
theorem dX11_isLean_0 : decode cX11_isLean 0 = .ok (.iload_n 0, 1) := by decide +kernel
theorem dX11_isLean_1 : decode cX11_isLean 1 = .ok (.iconst 0, 1) := by decide +kernel
theorem dX11_isLean_2 : decode cX11_isLean 2 = .ok (.bipush 15, 2) := by decide +kernel
theorem dX11_isLean_4 : decode cX11_isLean 4 = .ok (.invokestatic 61, 3) := by decide +kernel
theorem dX11_isLean_7 : decode cX11_isLean 7 = .ok (.ireturn, 1) := by decide +kernel
theorem dX11_gap_0 : decode cX11_gap 0 = .ok (.iload_n 0, 1) := by decide +kernel
theorem dX11_gap_1 : decode cX11_gap 1 = .ok (.iload_n 1, 1) := by decide +kernel
theorem dX11_gap_2 : decode cX11_gap 2 = .ok (.isub, 1) := by decide +kernel
theorem dX11_gap_3 : decode cX11_gap 3 = .ok (.invokestatic 616, 3) := by decide +kernel
theorem dX11_gap_6 : decode cX11_gap 6 = .ok (.ireturn, 1) := by decide +kernel
theorem dX11_asNumber_0 : decode cX11_asNumber 0 = .ok (.iload_n 0, 1) := by decide +kernel
theorem dX11_asNumber_1 : decode cX11_asNumber 1 = .ok (.ifCond .eq 7, 3) := by decide +kernel
theorem dX11_asNumber_4 : decode cX11_asNumber 4 = .ok (.iconst 1, 1) := by decide +kernel
theorem dX11_asNumber_5 : decode cX11_asNumber 5 = .ok (.goto 4, 3) := by decide +kernel
theorem dX11_asNumber_8 : decode cX11_asNumber 8 = .ok (.iconst 0, 1) := by decide +kernel
theorem dX11_asNumber_9 : decode cX11_asNumber 9 = .ok (.ireturn, 1) := by decide +kernel
theorem dX11_numberOf_0 : decode cX11_numberOf 0 = .ok (.aload_n 0, 1) := by decide +kernel
theorem dX11_numberOf_1 : decode cX11_numberOf 1 = .ok (.ifnonnull 7, 3) := by decide +kernel
theorem dX11_numberOf_4 : decode cX11_numberOf 4 = .ok (.iconst (-1), 1) := by decide +kernel
theorem dX11_numberOf_5 : decode cX11_numberOf 5 = .ok (.goto 7, 3) := by decide +kernel
theorem dX11_numberOf_8 : decode cX11_numberOf 8 = .ok (.aload_n 0, 1) := by decide +kernel
theorem dX11_numberOf_9 : decode cX11_numberOf 9 = .ok (.getfield 228, 3) := by decide +kernel
theorem dX11_numberOf_12 : decode cX11_numberOf 12 = .ok (.ireturn, 1) := by decide +kernel
theorem dX11_valueAt_0 : decode cX11_valueAt 0 = .ok (.iload_n 1, 1) := by decide +kernel
theorem dX11_valueAt_1 : decode cX11_valueAt 1 = .ok (.ifCond .lt 15, 3) := by decide +kernel
theorem dX11_valueAt_4 : decode cX11_valueAt 4 = .ok (.iload_n 1, 1) := by decide +kernel
theorem dX11_valueAt_5 : decode cX11_valueAt 5 = .ok (.aload_n 0, 1) := by decide +kernel
theorem dX11_valueAt_6 : decode cX11_valueAt 6 = .ok (.arraylength, 1) := by decide +kernel
theorem dX11_valueAt_7 : decode cX11_valueAt 7 = .ok (.if_icmp .ge 9, 3) := by decide +kernel
theorem dX11_valueAt_10 : decode cX11_valueAt 10 = .ok (.aload_n 0, 1) := by decide +kernel
theorem dX11_valueAt_11 : decode cX11_valueAt 11 = .ok (.iload_n 1, 1) := by decide +kernel
theorem dX11_valueAt_12 : decode cX11_valueAt 12 = .ok (.iaload, 1) := by decide +kernel
theorem dX11_valueAt_13 : decode cX11_valueAt 13 = .ok (.goto 4, 3) := by decide +kernel
theorem dX11_valueAt_16 : decode cX11_valueAt 16 = .ok (.iconst (-1), 1) := by decide +kernel
theorem dX11_valueAt_17 : decode cX11_valueAt 17 = .ok (.ireturn, 1) := by decide +kernel
theorem dX11_putAt_0 : decode cX11_putAt 0 = .ok (.iload_n 1, 1) := by decide +kernel
theorem dX11_putAt_1 : decode cX11_putAt 1 = .ok (.ifCond .lt 13, 3) := by decide +kernel
theorem dX11_putAt_4 : decode cX11_putAt 4 = .ok (.iload_n 1, 1) := by decide +kernel
theorem dX11_putAt_5 : decode cX11_putAt 5 = .ok (.aload_n 0, 1) := by decide +kernel
theorem dX11_putAt_6 : decode cX11_putAt 6 = .ok (.arraylength, 1) := by decide +kernel
theorem dX11_putAt_7 : decode cX11_putAt 7 = .ok (.if_icmp .ge 7, 3) := by decide +kernel
theorem dX11_putAt_10 : decode cX11_putAt 10 = .ok (.aload_n 0, 1) := by decide +kernel
theorem dX11_putAt_11 : decode cX11_putAt 11 = .ok (.iload_n 1, 1) := by decide +kernel
theorem dX11_putAt_12 : decode cX11_putAt 12 = .ok (.iload_n 2, 1) := by decide +kernel
theorem dX11_putAt_13 : decode cX11_putAt 13 = .ok (.iastore, 1) := by decide +kernel
theorem dX11_putAt_14 : decode cX11_putAt 14 = .ok (.return_, 1) := by decide +kernel
theorem dX11_addAt_0 : decode cX11_addAt 0 = .ok (.iload_n 1, 1) := by decide +kernel
theorem dX11_addAt_1 : decode cX11_addAt 1 = .ok (.ifCond .lt 16, 3) := by decide +kernel
theorem dX11_addAt_4 : decode cX11_addAt 4 = .ok (.iload_n 1, 1) := by decide +kernel
theorem dX11_addAt_5 : decode cX11_addAt 5 = .ok (.aload_n 0, 1) := by decide +kernel
theorem dX11_addAt_6 : decode cX11_addAt 6 = .ok (.arraylength, 1) := by decide +kernel
theorem dX11_addAt_7 : decode cX11_addAt 7 = .ok (.if_icmp .ge 10, 3) := by decide +kernel
theorem dX11_addAt_10 : decode cX11_addAt 10 = .ok (.aload_n 0, 1) := by decide +kernel
theorem dX11_addAt_11 : decode cX11_addAt 11 = .ok (.iload_n 1, 1) := by decide +kernel
theorem dX11_addAt_12 : decode cX11_addAt 12 = .ok (.dup2, 1) := by decide +kernel
theorem dX11_addAt_13 : decode cX11_addAt 13 = .ok (.iaload, 1) := by decide +kernel
theorem dX11_addAt_14 : decode cX11_addAt 14 = .ok (.iload_n 2, 1) := by decide +kernel
theorem dX11_addAt_15 : decode cX11_addAt 15 = .ok (.iadd, 1) := by decide +kernel
theorem dX11_addAt_16 : decode cX11_addAt 16 = .ok (.iastore, 1) := by decide +kernel
theorem dX11_addAt_17 : decode cX11_addAt 17 = .ok (.return_, 1) := by decide +kernel
theorem dX11_sumOf_0 : decode cX11_sumOf 0 = .ok (.iconst 0, 1) := by decide +kernel
theorem dX11_sumOf_1 : decode cX11_sumOf 1 = .ok (.istore_n 1, 1) := by decide +kernel
theorem dX11_sumOf_2 : decode cX11_sumOf 2 = .ok (.iconst 0, 1) := by decide +kernel
theorem dX11_sumOf_3 : decode cX11_sumOf 3 = .ok (.istore_n 2, 1) := by decide +kernel
theorem dX11_sumOf_4 : decode cX11_sumOf 4 = .ok (.iload_n 2, 1) := by decide +kernel
theorem dX11_sumOf_5 : decode cX11_sumOf 5 = .ok (.aload_n 0, 1) := by decide +kernel
theorem dX11_sumOf_6 : decode cX11_sumOf 6 = .ok (.arraylength, 1) := by decide +kernel
theorem dX11_sumOf_7 : decode cX11_sumOf 7 = .ok (.if_icmp .ge 15, 3) := by decide +kernel
theorem dX11_sumOf_10 : decode cX11_sumOf 10 = .ok (.iload_n 1, 1) := by decide +kernel
theorem dX11_sumOf_11 : decode cX11_sumOf 11 = .ok (.aload_n 0, 1) := by decide +kernel
theorem dX11_sumOf_12 : decode cX11_sumOf 12 = .ok (.iload_n 2, 1) := by decide +kernel
theorem dX11_sumOf_13 : decode cX11_sumOf 13 = .ok (.iaload, 1) := by decide +kernel
theorem dX11_sumOf_14 : decode cX11_sumOf 14 = .ok (.iadd, 1) := by decide +kernel
theorem dX11_sumOf_15 : decode cX11_sumOf 15 = .ok (.istore_n 1, 1) := by decide +kernel
theorem dX11_sumOf_16 : decode cX11_sumOf 16 = .ok (.iinc 2 1, 3) := by decide +kernel
theorem dX11_sumOf_19 : decode cX11_sumOf 19 = .ok (.goto (-15), 3) := by decide +kernel
theorem dX11_sumOf_22 : decode cX11_sumOf 22 = .ok (.iload_n 1, 1) := by decide +kernel
theorem dX11_sumOf_23 : decode cX11_sumOf 23 = .ok (.ireturn, 1) := by decide +kernel
theorem dX11_placeOfMost_0 : decode cX11_placeOfMost 0 = .ok (.iconst 0, 1) := by decide +kernel
theorem dX11_placeOfMost_1 : decode cX11_placeOfMost 1 = .ok (.istore_n 1, 1) := by decide +kernel
theorem dX11_placeOfMost_2 : decode cX11_placeOfMost 2 = .ok (.iconst 1, 1) := by decide +kernel
theorem dX11_placeOfMost_3 : decode cX11_placeOfMost 3 = .ok (.istore_n 2, 1) := by decide +kernel
theorem dX11_placeOfMost_4 : decode cX11_placeOfMost 4 = .ok (.iload_n 2, 1) := by decide +kernel
theorem dX11_placeOfMost_5 : decode cX11_placeOfMost 5 = .ok (.aload_n 0, 1) := by decide +kernel
theorem dX11_placeOfMost_6 : decode cX11_placeOfMost 6 = .ok (.arraylength, 1) := by decide +kernel
theorem dX11_placeOfMost_7 : decode cX11_placeOfMost 7 = .ok (.if_icmp .ge 20, 3) := by decide +kernel
theorem dX11_placeOfMost_10 : decode cX11_placeOfMost 10 = .ok (.aload_n 0, 1) := by decide +kernel
theorem dX11_placeOfMost_11 : decode cX11_placeOfMost 11 = .ok (.iload_n 2, 1) := by decide +kernel
theorem dX11_placeOfMost_12 : decode cX11_placeOfMost 12 = .ok (.iaload, 1) := by decide +kernel
theorem dX11_placeOfMost_13 : decode cX11_placeOfMost 13 = .ok (.aload_n 0, 1) := by decide +kernel
theorem dX11_placeOfMost_14 : decode cX11_placeOfMost 14 = .ok (.iload_n 1, 1) := by decide +kernel
theorem dX11_placeOfMost_15 : decode cX11_placeOfMost 15 = .ok (.iaload, 1) := by decide +kernel
theorem dX11_placeOfMost_16 : decode cX11_placeOfMost 16 = .ok (.if_icmp .le 5, 3) := by decide +kernel
theorem dX11_placeOfMost_19 : decode cX11_placeOfMost 19 = .ok (.iload_n 2, 1) := by decide +kernel
theorem dX11_placeOfMost_20 : decode cX11_placeOfMost 20 = .ok (.istore_n 1, 1) := by decide +kernel
theorem dX11_placeOfMost_21 : decode cX11_placeOfMost 21 = .ok (.iinc 2 1, 3) := by decide +kernel
theorem dX11_placeOfMost_24 : decode cX11_placeOfMost 24 = .ok (.goto (-20), 3) := by decide +kernel
theorem dX11_placeOfMost_27 : decode cX11_placeOfMost 27 = .ok (.iload_n 1, 1) := by decide +kernel
theorem dX11_placeOfMost_28 : decode cX11_placeOfMost 28 = .ok (.ireturn, 1) := by decide +kernel
theorem dX11_tribesOf_0 : decode cX11_tribesOf 0 = .ok (.iconst 0, 1) := by decide +kernel
theorem dX11_tribesOf_1 : decode cX11_tribesOf 1 = .ok (.istore_n 1, 1) := by decide +kernel
theorem dX11_tribesOf_2 : decode cX11_tribesOf 2 = .ok (.iconst 0, 1) := by decide +kernel
theorem dX11_tribesOf_3 : decode cX11_tribesOf 3 = .ok (.istore_n 2, 1) := by decide +kernel
theorem dX11_tribesOf_4 : decode cX11_tribesOf 4 = .ok (.iload_n 2, 1) := by decide +kernel
theorem dX11_tribesOf_5 : decode cX11_tribesOf 5 = .ok (.aload_n 0, 1) := by decide +kernel
theorem dX11_tribesOf_6 : decode cX11_tribesOf 6 = .ok (.invokevirtual 76, 3) := by decide +kernel
theorem dX11_tribesOf_9 : decode cX11_tribesOf 9 = .ok (.if_icmp .ge 25, 3) := by decide +kernel
theorem dX11_tribesOf_12 : decode cX11_tribesOf 12 = .ok (.iload_n 1, 1) := by decide +kernel
theorem dX11_tribesOf_13 : decode cX11_tribesOf 13 = .ok (.iconst 1, 1) := by decide +kernel
theorem dX11_tribesOf_14 : decode cX11_tribesOf 14 = .ok (.aload_n 0, 1) := by decide +kernel
theorem dX11_tribesOf_15 : decode cX11_tribesOf 15 = .ok (.iload_n 2, 1) := by decide +kernel
theorem dX11_tribesOf_16 : decode cX11_tribesOf 16 = .ok (.invokevirtual 202, 3) := by decide +kernel
theorem dX11_tribesOf_19 : decode cX11_tribesOf 19 = .ok (.checkcast 89, 3) := by decide +kernel
theorem dX11_tribesOf_22 : decode cX11_tribesOf 22 = .ok (.invokevirtual 124, 3) := by decide +kernel
theorem dX11_tribesOf_25 : decode cX11_tribesOf 25 = .ok (.ishl, 1) := by decide +kernel
theorem dX11_tribesOf_26 : decode cX11_tribesOf 26 = .ok (.ior, 1) := by decide +kernel
theorem dX11_tribesOf_27 : decode cX11_tribesOf 27 = .ok (.istore_n 1, 1) := by decide +kernel
theorem dX11_tribesOf_28 : decode cX11_tribesOf 28 = .ok (.iinc 2 1, 3) := by decide +kernel
theorem dX11_tribesOf_31 : decode cX11_tribesOf 31 = .ok (.goto (-27), 3) := by decide +kernel
theorem dX11_tribesOf_34 : decode cX11_tribesOf 34 = .ok (.iload_n 1, 1) := by decide +kernel
theorem dX11_tribesOf_35 : decode cX11_tribesOf 35 = .ok (.ireturn, 1) := by decide +kernel
theorem dX11_agreeing_0 : decode cX11_agreeing 0 = .ok (.iconst 0, 1) := by decide +kernel
theorem dX11_agreeing_1 : decode cX11_agreeing 1 = .ok (.istore_n 2, 1) := by decide +kernel
theorem dX11_agreeing_2 : decode cX11_agreeing 2 = .ok (.iconst 0, 1) := by decide +kernel
theorem dX11_agreeing_3 : decode cX11_agreeing 3 = .ok (.istore_n 3, 1) := by decide +kernel
theorem dX11_agreeing_4 : decode cX11_agreeing 4 = .ok (.iload_n 3, 1) := by decide +kernel
theorem dX11_agreeing_5 : decode cX11_agreeing 5 = .ok (.aload_n 0, 1) := by decide +kernel
theorem dX11_agreeing_6 : decode cX11_agreeing 6 = .ok (.invokevirtual 76, 3) := by decide +kernel
theorem dX11_agreeing_9 : decode cX11_agreeing 9 = .ok (.if_icmp .ge 27, 3) := by decide +kernel
theorem dX11_agreeing_12 : decode cX11_agreeing 12 = .ok (.aload_n 0, 1) := by decide +kernel
theorem dX11_agreeing_13 : decode cX11_agreeing 13 = .ok (.iload_n 3, 1) := by decide +kernel
theorem dX11_agreeing_14 : decode cX11_agreeing 14 = .ok (.invokevirtual 202, 3) := by decide +kernel
theorem dX11_agreeing_17 : decode cX11_agreeing 17 = .ok (.checkcast 89, 3) := by decide +kernel
theorem dX11_agreeing_20 : decode cX11_agreeing 20 = .ok (.iload_n 1, 1) := by decide +kernel
theorem dX11_agreeing_21 : decode cX11_agreeing 21 = .ok (.invokevirtual 621, 3) := by decide +kernel
theorem dX11_agreeing_24 : decode cX11_agreeing 24 = .ok (.ifCond .eq 6, 3) := by decide +kernel
theorem dX11_agreeing_27 : decode cX11_agreeing 27 = .ok (.iinc 2 1, 3) := by decide +kernel
theorem dX11_agreeing_30 : decode cX11_agreeing 30 = .ok (.iinc 3 1, 3) := by decide +kernel
theorem dX11_agreeing_33 : decode cX11_agreeing 33 = .ok (.goto (-29), 3) := by decide +kernel
theorem dX11_agreeing_36 : decode cX11_agreeing 36 = .ok (.iload_n 2, 1) := by decide +kernel
theorem dX11_agreeing_37 : decode cX11_agreeing 37 = .ok (.ireturn, 1) := by decide +kernel
theorem dJ9_abs_0f7a4_0 : decode cJ9_abs_0f7a4 0 = .ok (.iload_n 0, 1) := by decide +kernel
theorem dJ9_abs_0f7a4_1 : decode cJ9_abs_0f7a4 1 = .ok (.ifCond .ge 8, 3) := by decide +kernel
theorem dJ9_abs_0f7a4_4 : decode cJ9_abs_0f7a4 4 = .ok (.iload_n 0, 1) := by decide +kernel
theorem dJ9_abs_0f7a4_5 : decode cJ9_abs_0f7a4 5 = .ok (.ineg, 1) := by decide +kernel
theorem dJ9_abs_0f7a4_6 : decode cJ9_abs_0f7a4 6 = .ok (.goto 4, 3) := by decide +kernel
theorem dJ9_abs_0f7a4_9 : decode cJ9_abs_0f7a4 9 = .ok (.iload_n 0, 1) := by decide +kernel
theorem dJ9_abs_0f7a4_10 : decode cJ9_abs_0f7a4 10 = .ok (.ireturn, 1) := by decide +kernel
theorem dJ9_max_7cf53_0 : decode cJ9_max_7cf53 0 = .ok (.iload_n 0, 1) := by decide +kernel
theorem dJ9_max_7cf53_1 : decode cJ9_max_7cf53 1 = .ok (.iload_n 1, 1) := by decide +kernel
theorem dJ9_max_7cf53_2 : decode cJ9_max_7cf53 2 = .ok (.if_icmp .lt 7, 3) := by decide +kernel
theorem dJ9_max_7cf53_5 : decode cJ9_max_7cf53 5 = .ok (.iload_n 0, 1) := by decide +kernel
theorem dJ9_max_7cf53_6 : decode cJ9_max_7cf53 6 = .ok (.goto 4, 3) := by decide +kernel
theorem dJ9_max_7cf53_9 : decode cJ9_max_7cf53 9 = .ok (.iload_n 1, 1) := by decide +kernel
theorem dJ9_max_7cf53_10 : decode cJ9_max_7cf53 10 = .ok (.ireturn, 1) := by decide +kernel
theorem dJ9_min_7cf53_0 : decode cJ9_min_7cf53 0 = .ok (.iload_n 0, 1) := by decide +kernel
theorem dJ9_min_7cf53_1 : decode cJ9_min_7cf53 1 = .ok (.iload_n 1, 1) := by decide +kernel
theorem dJ9_min_7cf53_2 : decode cJ9_min_7cf53 2 = .ok (.if_icmp .gt 7, 3) := by decide +kernel
theorem dJ9_min_7cf53_5 : decode cJ9_min_7cf53 5 = .ok (.iload_n 0, 1) := by decide +kernel
theorem dJ9_min_7cf53_6 : decode cJ9_min_7cf53 6 = .ok (.goto 4, 3) := by decide +kernel
theorem dJ9_min_7cf53_9 : decode cJ9_min_7cf53 9 = .ok (.iload_n 1, 1) := by decide +kernel
theorem dJ9_min_7cf53_10 : decode cJ9_min_7cf53 10 = .ok (.ireturn, 1) := by decide +kernel
theorem dJxa1e45_init_da8c8_0 : decode cJxa1e45_init_da8c8 0 = .ok (.aload_n 0, 1) := by decide +kernel
theorem dJxa1e45_init_da8c8_1 : decode cJxa1e45_init_da8c8 1 = .ok (.invokespecial 1, 3) := by decide +kernel
theorem dJxa1e45_init_da8c8_4 : decode cJxa1e45_init_da8c8 4 = .ok (.return_, 1) := by decide +kernel
theorem dJxc12de_init_da8c8_0 : decode cJxc12de_init_da8c8 0 = .ok (.aload_n 0, 1) := by decide +kernel
theorem dJxc12de_init_da8c8_1 : decode cJxc12de_init_da8c8 1 = .ok (.invokespecial 1, 3) := by decide +kernel
theorem dJxc12de_init_da8c8_4 : decode cJxc12de_init_da8c8 4 = .ok (.aload_n 0, 1) := by decide +kernel
theorem dJxc12de_init_da8c8_5 : decode cJxc12de_init_da8c8 5 = .ok (.iconst 0, 1) := by decide +kernel
theorem dJxc12de_init_da8c8_6 : decode cJxc12de_init_da8c8 6 = .ok (.putfield 7, 3) := by decide +kernel
theorem dJxc12de_init_da8c8_9 : decode cJxc12de_init_da8c8 9 = .ok (.return_, 1) := by decide +kernel
theorem dJx4a65c_init_da8c8_0 : decode cJx4a65c_init_da8c8 0 = .ok (.aload_n 0, 1) := by decide +kernel
theorem dJx4a65c_init_da8c8_1 : decode cJx4a65c_init_da8c8 1 = .ok (.invokespecial 1, 3) := by decide +kernel
theorem dJx4a65c_init_da8c8_4 : decode cJx4a65c_init_da8c8 4 = .ok (.aload_n 0, 1) := by decide +kernel
theorem dJx4a65c_init_da8c8_5 : decode cJx4a65c_init_da8c8 5 = .ok (.getstatic 39, 3) := by decide +kernel
theorem dJx4a65c_init_da8c8_8 : decode cJx4a65c_init_da8c8 8 = .ok (.putfield 9, 3) := by decide +kernel
theorem dJx4a65c_init_da8c8_11 : decode cJx4a65c_init_da8c8 11 = .ok (.return_, 1) := by decide +kernel
theorem dJx4a65c_grow_92f84_0 : decode cJx4a65c_grow_92f84 0 = .ok (.aload_n 0, 1) := by decide +kernel
theorem dJx4a65c_grow_92f84_1 : decode cJx4a65c_grow_92f84 1 = .ok (.getfield 9, 3) := by decide +kernel
theorem dJx4a65c_grow_92f84_4 : decode cJx4a65c_grow_92f84 4 = .ok (.arraylength, 1) := by decide +kernel
theorem dJx4a65c_grow_92f84_5 : decode cJx4a65c_grow_92f84 5 = .ok (.istore_n 2, 1) := by decide +kernel
theorem dJx4a65c_grow_92f84_6 : decode cJx4a65c_grow_92f84 6 = .ok (.iload_n 2, 1) := by decide +kernel
theorem dJx4a65c_grow_92f84_7 : decode cJx4a65c_grow_92f84 7 = .ok (.ifCond .gt 13, 3) := by decide +kernel
theorem dJx4a65c_grow_92f84_10 : decode cJx4a65c_grow_92f84 10 = .ok (.aload_n 0, 1) := by decide +kernel
theorem dJx4a65c_grow_92f84_11 : decode cJx4a65c_grow_92f84 11 = .ok (.getfield 9, 3) := by decide +kernel
theorem dJx4a65c_grow_92f84_14 : decode cJx4a65c_grow_92f84 14 = .ok (.getstatic 39, 3) := by decide +kernel
theorem dJx4a65c_grow_92f84_17 : decode cJx4a65c_grow_92f84 17 = .ok (.if_acmp .eq 28, 3) := by decide +kernel
theorem dJx4a65c_grow_92f84_20 : decode cJx4a65c_grow_92f84 20 = .ok (.iload_n 2, 1) := by decide +kernel
theorem dJx4a65c_grow_92f84_21 : decode cJx4a65c_grow_92f84 21 = .ok (.iload_n 1, 1) := by decide +kernel
theorem dJx4a65c_grow_92f84_22 : decode cJx4a65c_grow_92f84 22 = .ok (.iload_n 2, 1) := by decide +kernel
theorem dJx4a65c_grow_92f84_23 : decode cJx4a65c_grow_92f84 23 = .ok (.isub, 1) := by decide +kernel
theorem dJx4a65c_grow_92f84_24 : decode cJx4a65c_grow_92f84 24 = .ok (.iload_n 2, 1) := by decide +kernel
theorem dJx4a65c_grow_92f84_25 : decode cJx4a65c_grow_92f84 25 = .ok (.iconst 1, 1) := by decide +kernel
theorem dJx4a65c_grow_92f84_26 : decode cJx4a65c_grow_92f84 26 = .ok (.ishr, 1) := by decide +kernel
theorem dJx4a65c_grow_92f84_27 : decode cJx4a65c_grow_92f84 27 = .ok (.invokestatic 73, 3) := by decide +kernel
theorem dJx4a65c_grow_92f84_30 : decode cJx4a65c_grow_92f84 30 = .ok (.istore_n 3, 1) := by decide +kernel
theorem dJx4a65c_grow_92f84_31 : decode cJx4a65c_grow_92f84 31 = .ok (.aload_n 0, 1) := by decide +kernel
theorem dJx4a65c_grow_92f84_32 : decode cJx4a65c_grow_92f84 32 = .ok (.aload_n 0, 1) := by decide +kernel
theorem dJx4a65c_grow_92f84_33 : decode cJx4a65c_grow_92f84 33 = .ok (.getfield 9, 3) := by decide +kernel
theorem dJx4a65c_grow_92f84_36 : decode cJx4a65c_grow_92f84 36 = .ok (.iload_n 3, 1) := by decide +kernel
theorem dJx4a65c_grow_92f84_37 : decode cJx4a65c_grow_92f84 37 = .ok (.invokestatic 66, 3) := by decide +kernel
theorem dJx4a65c_grow_92f84_40 : decode cJx4a65c_grow_92f84 40 = .ok (.dup_x1, 1) := by decide +kernel
theorem dJx4a65c_grow_92f84_41 : decode cJx4a65c_grow_92f84 41 = .ok (.putfield 9, 3) := by decide +kernel
theorem dJx4a65c_grow_92f84_44 : decode cJx4a65c_grow_92f84 44 = .ok (.areturn, 1) := by decide +kernel
theorem dJx4a65c_grow_92f84_45 : decode cJx4a65c_grow_92f84 45 = .ok (.aload_n 0, 1) := by decide +kernel
theorem dJx4a65c_grow_92f84_46 : decode cJx4a65c_grow_92f84 46 = .ok (.bipush 10, 2) := by decide +kernel
theorem dJx4a65c_grow_92f84_48 : decode cJx4a65c_grow_92f84 48 = .ok (.iload_n 1, 1) := by decide +kernel
theorem dJx4a65c_grow_92f84_49 : decode cJx4a65c_grow_92f84 49 = .ok (.invokestatic 79, 3) := by decide +kernel
theorem dJx4a65c_grow_92f84_52 : decode cJx4a65c_grow_92f84 52 = .ok (.anewarray 7, 3) := by decide +kernel
theorem dJx4a65c_grow_92f84_55 : decode cJx4a65c_grow_92f84 55 = .ok (.dup_x1, 1) := by decide +kernel
theorem dJx4a65c_grow_92f84_56 : decode cJx4a65c_grow_92f84 56 = .ok (.putfield 9, 3) := by decide +kernel
theorem dJx4a65c_grow_92f84_59 : decode cJx4a65c_grow_92f84 59 = .ok (.areturn, 1) := by decide +kernel
theorem dJx4a65c_grow_d5877_0 : decode cJx4a65c_grow_d5877 0 = .ok (.aload_n 0, 1) := by decide +kernel
theorem dJx4a65c_grow_d5877_1 : decode cJx4a65c_grow_d5877 1 = .ok (.aload_n 0, 1) := by decide +kernel
theorem dJx4a65c_grow_d5877_2 : decode cJx4a65c_grow_d5877 2 = .ok (.getfield 48, 3) := by decide +kernel
theorem dJx4a65c_grow_d5877_5 : decode cJx4a65c_grow_d5877 5 = .ok (.iconst 1, 1) := by decide +kernel
theorem dJx4a65c_grow_d5877_6 : decode cJx4a65c_grow_d5877 6 = .ok (.iadd, 1) := by decide +kernel
theorem dJx4a65c_grow_d5877_7 : decode cJx4a65c_grow_d5877 7 = .ok (.invokevirtual 69, 3) := by decide +kernel
theorem dJx4a65c_grow_d5877_10 : decode cJx4a65c_grow_d5877 10 = .ok (.areturn, 1) := by decide +kernel
theorem dJx4a65c_size_8abf5_0 : decode cJx4a65c_size_8abf5 0 = .ok (.aload_n 0, 1) := by decide +kernel
theorem dJx4a65c_size_8abf5_1 : decode cJx4a65c_size_8abf5 1 = .ok (.getfield 48, 3) := by decide +kernel
theorem dJx4a65c_size_8abf5_4 : decode cJx4a65c_size_8abf5 4 = .ok (.ireturn, 1) := by decide +kernel
theorem dJx4a65c_isEmpty_aae02_0 : decode cJx4a65c_isEmpty_aae02 0 = .ok (.aload_n 0, 1) := by decide +kernel
theorem dJx4a65c_isEmpty_aae02_1 : decode cJx4a65c_isEmpty_aae02 1 = .ok (.getfield 48, 3) := by decide +kernel
theorem dJx4a65c_isEmpty_aae02_4 : decode cJx4a65c_isEmpty_aae02 4 = .ok (.ifCond .ne 7, 3) := by decide +kernel
theorem dJx4a65c_isEmpty_aae02_7 : decode cJx4a65c_isEmpty_aae02 7 = .ok (.iconst 1, 1) := by decide +kernel
theorem dJx4a65c_isEmpty_aae02_8 : decode cJx4a65c_isEmpty_aae02 8 = .ok (.goto 4, 3) := by decide +kernel
theorem dJx4a65c_isEmpty_aae02_11 : decode cJx4a65c_isEmpty_aae02 11 = .ok (.iconst 0, 1) := by decide +kernel
theorem dJx4a65c_isEmpty_aae02_12 : decode cJx4a65c_isEmpty_aae02 12 = .ok (.ireturn, 1) := by decide +kernel
theorem dJx4a65c_elementData_915e3_0 : decode cJx4a65c_elementData_915e3 0 = .ok (.aload_n 0, 1) := by decide +kernel
theorem dJx4a65c_elementData_915e3_1 : decode cJx4a65c_elementData_915e3 1 = .ok (.getfield 9, 3) := by decide +kernel
theorem dJx4a65c_elementData_915e3_4 : decode cJx4a65c_elementData_915e3 4 = .ok (.iload_n 1, 1) := by decide +kernel
theorem dJx4a65c_elementData_915e3_5 : decode cJx4a65c_elementData_915e3 5 = .ok (.aaload, 1) := by decide +kernel
theorem dJx4a65c_elementData_915e3_6 : decode cJx4a65c_elementData_915e3 6 = .ok (.areturn, 1) := by decide +kernel
theorem dJx4a65c_get_915e3_0 : decode cJx4a65c_get_915e3 0 = .ok (.iload_n 1, 1) := by decide +kernel
theorem dJx4a65c_get_915e3_1 : decode cJx4a65c_get_915e3 1 = .ok (.aload_n 0, 1) := by decide +kernel
theorem dJx4a65c_get_915e3_2 : decode cJx4a65c_get_915e3 2 = .ok (.getfield 48, 3) := by decide +kernel
theorem dJx4a65c_get_915e3_5 : decode cJx4a65c_get_915e3 5 = .ok (.invokestatic 118, 3) := by decide +kernel
theorem dJx4a65c_get_915e3_8 : decode cJx4a65c_get_915e3 8 = .ok (.pop, 1) := by decide +kernel
theorem dJx4a65c_get_915e3_9 : decode cJx4a65c_get_915e3 9 = .ok (.aload_n 0, 1) := by decide +kernel
theorem dJx4a65c_get_915e3_10 : decode cJx4a65c_get_915e3 10 = .ok (.iload_n 1, 1) := by decide +kernel
theorem dJx4a65c_get_915e3_11 : decode cJx4a65c_get_915e3 11 = .ok (.invokevirtual 123, 3) := by decide +kernel
theorem dJx4a65c_get_915e3_14 : decode cJx4a65c_get_915e3 14 = .ok (.areturn, 1) := by decide +kernel
theorem dJx4a65c_add_72be8_0 : decode cJx4a65c_add_72be8 0 = .ok (.iload_n 3, 1) := by decide +kernel
theorem dJx4a65c_add_72be8_1 : decode cJx4a65c_add_72be8 1 = .ok (.aload_n 2, 1) := by decide +kernel
theorem dJx4a65c_add_72be8_2 : decode cJx4a65c_add_72be8 2 = .ok (.arraylength, 1) := by decide +kernel
theorem dJx4a65c_add_72be8_3 : decode cJx4a65c_add_72be8 3 = .ok (.if_icmp .ne 8, 3) := by decide +kernel
theorem dJx4a65c_add_72be8_6 : decode cJx4a65c_add_72be8 6 = .ok (.aload_n 0, 1) := by decide +kernel
theorem dJx4a65c_add_72be8_7 : decode cJx4a65c_add_72be8 7 = .ok (.invokevirtual 129, 3) := by decide +kernel
theorem dJx4a65c_add_72be8_10 : decode cJx4a65c_add_72be8 10 = .ok (.astore_n 2, 1) := by decide +kernel
theorem dJx4a65c_add_72be8_11 : decode cJx4a65c_add_72be8 11 = .ok (.aload_n 2, 1) := by decide +kernel
theorem dJx4a65c_add_72be8_12 : decode cJx4a65c_add_72be8 12 = .ok (.iload_n 3, 1) := by decide +kernel
theorem dJx4a65c_add_72be8_13 : decode cJx4a65c_add_72be8 13 = .ok (.aload_n 1, 1) := by decide +kernel
theorem dJx4a65c_add_72be8_14 : decode cJx4a65c_add_72be8 14 = .ok (.aastore, 1) := by decide +kernel
theorem dJx4a65c_add_72be8_15 : decode cJx4a65c_add_72be8 15 = .ok (.aload_n 0, 1) := by decide +kernel
theorem dJx4a65c_add_72be8_16 : decode cJx4a65c_add_72be8 16 = .ok (.iload_n 3, 1) := by decide +kernel
theorem dJx4a65c_add_72be8_17 : decode cJx4a65c_add_72be8 17 = .ok (.iconst 1, 1) := by decide +kernel
theorem dJx4a65c_add_72be8_18 : decode cJx4a65c_add_72be8 18 = .ok (.iadd, 1) := by decide +kernel
theorem dJx4a65c_add_72be8_19 : decode cJx4a65c_add_72be8 19 = .ok (.putfield 48, 3) := by decide +kernel
theorem dJx4a65c_add_72be8_22 : decode cJx4a65c_add_72be8 22 = .ok (.return_, 1) := by decide +kernel
theorem dJx4a65c_add_9ea2d_0 : decode cJx4a65c_add_9ea2d 0 = .ok (.aload_n 0, 1) := by decide +kernel
theorem dJx4a65c_add_9ea2d_1 : decode cJx4a65c_add_9ea2d 1 = .ok (.dup, 1) := by decide +kernel
theorem dJx4a65c_add_9ea2d_2 : decode cJx4a65c_add_9ea2d 2 = .ok (.getfield 63, 3) := by decide +kernel
theorem dJx4a65c_add_9ea2d_5 : decode cJx4a65c_add_9ea2d 5 = .ok (.iconst 1, 1) := by decide +kernel
theorem dJx4a65c_add_9ea2d_6 : decode cJx4a65c_add_9ea2d 6 = .ok (.iadd, 1) := by decide +kernel
theorem dJx4a65c_add_9ea2d_7 : decode cJx4a65c_add_9ea2d 7 = .ok (.putfield 63, 3) := by decide +kernel
theorem dJx4a65c_add_9ea2d_10 : decode cJx4a65c_add_9ea2d 10 = .ok (.aload_n 0, 1) := by decide +kernel
theorem dJx4a65c_add_9ea2d_11 : decode cJx4a65c_add_9ea2d 11 = .ok (.aload_n 1, 1) := by decide +kernel
theorem dJx4a65c_add_9ea2d_12 : decode cJx4a65c_add_9ea2d 12 = .ok (.aload_n 0, 1) := by decide +kernel
theorem dJx4a65c_add_9ea2d_13 : decode cJx4a65c_add_9ea2d 13 = .ok (.getfield 9, 3) := by decide +kernel
theorem dJx4a65c_add_9ea2d_16 : decode cJx4a65c_add_9ea2d 16 = .ok (.aload_n 0, 1) := by decide +kernel
theorem dJx4a65c_add_9ea2d_17 : decode cJx4a65c_add_9ea2d 17 = .ok (.getfield 48, 3) := by decide +kernel
theorem dJx4a65c_add_9ea2d_20 : decode cJx4a65c_add_9ea2d 20 = .ok (.invokevirtual 131, 3) := by decide +kernel
theorem dJx4a65c_add_9ea2d_23 : decode cJx4a65c_add_9ea2d 23 = .ok (.iconst 1, 1) := by decide +kernel
theorem dJx4a65c_add_9ea2d_24 : decode cJx4a65c_add_9ea2d 24 = .ok (.ireturn, 1) := by decide +kernel
theorem dJx4a65c_remove_915e3_0 : decode cJx4a65c_remove_915e3 0 = .ok (.iload_n 1, 1) := by decide +kernel
theorem dJx4a65c_remove_915e3_1 : decode cJx4a65c_remove_915e3 1 = .ok (.aload_n 0, 1) := by decide +kernel
theorem dJx4a65c_remove_915e3_2 : decode cJx4a65c_remove_915e3 2 = .ok (.getfield 48, 3) := by decide +kernel
theorem dJx4a65c_remove_915e3_5 : decode cJx4a65c_remove_915e3 5 = .ok (.invokestatic 118, 3) := by decide +kernel
theorem dJx4a65c_remove_915e3_8 : decode cJx4a65c_remove_915e3 8 = .ok (.pop, 1) := by decide +kernel
theorem dJx4a65c_remove_915e3_9 : decode cJx4a65c_remove_915e3 9 = .ok (.aload_n 0, 1) := by decide +kernel
theorem dJx4a65c_remove_915e3_10 : decode cJx4a65c_remove_915e3 10 = .ok (.getfield 9, 3) := by decide +kernel
theorem dJx4a65c_remove_915e3_13 : decode cJx4a65c_remove_915e3 13 = .ok (.astore_n 2, 1) := by decide +kernel
theorem dJx4a65c_remove_915e3_14 : decode cJx4a65c_remove_915e3 14 = .ok (.aload_n 2, 1) := by decide +kernel
theorem dJx4a65c_remove_915e3_15 : decode cJx4a65c_remove_915e3 15 = .ok (.iload_n 1, 1) := by decide +kernel
theorem dJx4a65c_remove_915e3_16 : decode cJx4a65c_remove_915e3 16 = .ok (.aaload, 1) := by decide +kernel
theorem dJx4a65c_remove_915e3_17 : decode cJx4a65c_remove_915e3 17 = .ok (.astore_n 3, 1) := by decide +kernel
theorem dJx4a65c_remove_915e3_18 : decode cJx4a65c_remove_915e3 18 = .ok (.aload_n 0, 1) := by decide +kernel
theorem dJx4a65c_remove_915e3_19 : decode cJx4a65c_remove_915e3 19 = .ok (.aload_n 2, 1) := by decide +kernel
theorem dJx4a65c_remove_915e3_20 : decode cJx4a65c_remove_915e3 20 = .ok (.iload_n 1, 1) := by decide +kernel
theorem dJx4a65c_remove_915e3_21 : decode cJx4a65c_remove_915e3 21 = .ok (.invokevirtual 144, 3) := by decide +kernel
theorem dJx4a65c_remove_915e3_24 : decode cJx4a65c_remove_915e3 24 = .ok (.aload_n 3, 1) := by decide +kernel
theorem dJx4a65c_remove_915e3_25 : decode cJx4a65c_remove_915e3 25 = .ok (.areturn, 1) := by decide +kernel
theorem dJx4a65c_fastRemove_b59b0_0 : decode cJx4a65c_fastRemove_b59b0 0 = .ok (.aload_n 0, 1) := by decide +kernel
theorem dJx4a65c_fastRemove_b59b0_1 : decode cJx4a65c_fastRemove_b59b0 1 = .ok (.dup, 1) := by decide +kernel
theorem dJx4a65c_fastRemove_b59b0_2 : decode cJx4a65c_fastRemove_b59b0 2 = .ok (.getfield 63, 3) := by decide +kernel
theorem dJx4a65c_fastRemove_b59b0_5 : decode cJx4a65c_fastRemove_b59b0 5 = .ok (.iconst 1, 1) := by decide +kernel
theorem dJx4a65c_fastRemove_b59b0_6 : decode cJx4a65c_fastRemove_b59b0 6 = .ok (.iadd, 1) := by decide +kernel
theorem dJx4a65c_fastRemove_b59b0_7 : decode cJx4a65c_fastRemove_b59b0 7 = .ok (.putfield 63, 3) := by decide +kernel
theorem dJx4a65c_fastRemove_b59b0_10 : decode cJx4a65c_fastRemove_b59b0 10 = .ok (.aload_n 0, 1) := by decide +kernel
theorem dJx4a65c_fastRemove_b59b0_11 : decode cJx4a65c_fastRemove_b59b0 11 = .ok (.getfield 48, 3) := by decide +kernel
theorem dJx4a65c_fastRemove_b59b0_14 : decode cJx4a65c_fastRemove_b59b0 14 = .ok (.iconst 1, 1) := by decide +kernel
theorem dJx4a65c_fastRemove_b59b0_15 : decode cJx4a65c_fastRemove_b59b0 15 = .ok (.isub, 1) := by decide +kernel
theorem dJx4a65c_fastRemove_b59b0_16 : decode cJx4a65c_fastRemove_b59b0 16 = .ok (.dup, 1) := by decide +kernel
theorem dJx4a65c_fastRemove_b59b0_17 : decode cJx4a65c_fastRemove_b59b0 17 = .ok (.istore_n 3, 1) := by decide +kernel
theorem dJx4a65c_fastRemove_b59b0_18 : decode cJx4a65c_fastRemove_b59b0 18 = .ok (.iload_n 2, 1) := by decide +kernel
theorem dJx4a65c_fastRemove_b59b0_19 : decode cJx4a65c_fastRemove_b59b0 19 = .ok (.if_icmp .le 15, 3) := by decide +kernel
theorem dJx4a65c_fastRemove_b59b0_22 : decode cJx4a65c_fastRemove_b59b0 22 = .ok (.aload_n 1, 1) := by decide +kernel
theorem dJx4a65c_fastRemove_b59b0_23 : decode cJx4a65c_fastRemove_b59b0 23 = .ok (.iload_n 2, 1) := by decide +kernel
theorem dJx4a65c_fastRemove_b59b0_24 : decode cJx4a65c_fastRemove_b59b0 24 = .ok (.iconst 1, 1) := by decide +kernel
theorem dJx4a65c_fastRemove_b59b0_25 : decode cJx4a65c_fastRemove_b59b0 25 = .ok (.iadd, 1) := by decide +kernel
theorem dJx4a65c_fastRemove_b59b0_26 : decode cJx4a65c_fastRemove_b59b0 26 = .ok (.aload_n 1, 1) := by decide +kernel
theorem dJx4a65c_fastRemove_b59b0_27 : decode cJx4a65c_fastRemove_b59b0 27 = .ok (.iload_n 2, 1) := by decide +kernel
theorem dJx4a65c_fastRemove_b59b0_28 : decode cJx4a65c_fastRemove_b59b0 28 = .ok (.iload_n 3, 1) := by decide +kernel
theorem dJx4a65c_fastRemove_b59b0_29 : decode cJx4a65c_fastRemove_b59b0 29 = .ok (.iload_n 2, 1) := by decide +kernel
theorem dJx4a65c_fastRemove_b59b0_30 : decode cJx4a65c_fastRemove_b59b0 30 = .ok (.isub, 1) := by decide +kernel
theorem dJx4a65c_fastRemove_b59b0_31 : decode cJx4a65c_fastRemove_b59b0 31 = .ok (.invokestatic 112, 3) := by decide +kernel
theorem dJx4a65c_fastRemove_b59b0_34 : decode cJx4a65c_fastRemove_b59b0 34 = .ok (.aload_n 1, 1) := by decide +kernel
theorem dJx4a65c_fastRemove_b59b0_35 : decode cJx4a65c_fastRemove_b59b0 35 = .ok (.aload_n 0, 1) := by decide +kernel
theorem dJx4a65c_fastRemove_b59b0_36 : decode cJx4a65c_fastRemove_b59b0 36 = .ok (.iload_n 3, 1) := by decide +kernel
theorem dJx4a65c_fastRemove_b59b0_37 : decode cJx4a65c_fastRemove_b59b0 37 = .ok (.dup_x1, 1) := by decide +kernel
theorem dJx4a65c_fastRemove_b59b0_38 : decode cJx4a65c_fastRemove_b59b0 38 = .ok (.putfield 48, 3) := by decide +kernel
theorem dJx4a65c_fastRemove_b59b0_41 : decode cJx4a65c_fastRemove_b59b0 41 = .ok (.aconst_null, 1) := by decide +kernel
theorem dJx4a65c_fastRemove_b59b0_42 : decode cJx4a65c_fastRemove_b59b0 42 = .ok (.aastore, 1) := by decide +kernel
theorem dJx4a65c_fastRemove_b59b0_43 : decode cJx4a65c_fastRemove_b59b0 43 = .ok (.return_, 1) := by decide +kernel
theorem dJx4a65c_clear_da8c8_0 : decode cJx4a65c_clear_da8c8 0 = .ok (.aload_n 0, 1) := by decide +kernel
theorem dJx4a65c_clear_da8c8_1 : decode cJx4a65c_clear_da8c8 1 = .ok (.dup, 1) := by decide +kernel
theorem dJx4a65c_clear_da8c8_2 : decode cJx4a65c_clear_da8c8 2 = .ok (.getfield 63, 3) := by decide +kernel
theorem dJx4a65c_clear_da8c8_5 : decode cJx4a65c_clear_da8c8 5 = .ok (.iconst 1, 1) := by decide +kernel
theorem dJx4a65c_clear_da8c8_6 : decode cJx4a65c_clear_da8c8 6 = .ok (.iadd, 1) := by decide +kernel
theorem dJx4a65c_clear_da8c8_7 : decode cJx4a65c_clear_da8c8 7 = .ok (.putfield 63, 3) := by decide +kernel
theorem dJx4a65c_clear_da8c8_10 : decode cJx4a65c_clear_da8c8 10 = .ok (.aload_n 0, 1) := by decide +kernel
theorem dJx4a65c_clear_da8c8_11 : decode cJx4a65c_clear_da8c8 11 = .ok (.getfield 9, 3) := by decide +kernel
theorem dJx4a65c_clear_da8c8_14 : decode cJx4a65c_clear_da8c8 14 = .ok (.astore_n 1, 1) := by decide +kernel
theorem dJx4a65c_clear_da8c8_15 : decode cJx4a65c_clear_da8c8 15 = .ok (.aload_n 0, 1) := by decide +kernel
theorem dJx4a65c_clear_da8c8_16 : decode cJx4a65c_clear_da8c8 16 = .ok (.getfield 48, 3) := by decide +kernel
theorem dJx4a65c_clear_da8c8_19 : decode cJx4a65c_clear_da8c8 19 = .ok (.istore_n 2, 1) := by decide +kernel
theorem dJx4a65c_clear_da8c8_20 : decode cJx4a65c_clear_da8c8 20 = .ok (.aload_n 0, 1) := by decide +kernel
theorem dJx4a65c_clear_da8c8_21 : decode cJx4a65c_clear_da8c8 21 = .ok (.iconst 0, 1) := by decide +kernel
theorem dJx4a65c_clear_da8c8_22 : decode cJx4a65c_clear_da8c8 22 = .ok (.dup_x1, 1) := by decide +kernel
theorem dJx4a65c_clear_da8c8_23 : decode cJx4a65c_clear_da8c8 23 = .ok (.putfield 48, 3) := by decide +kernel
theorem dJx4a65c_clear_da8c8_26 : decode cJx4a65c_clear_da8c8 26 = .ok (.istore_n 3, 1) := by decide +kernel
theorem dJx4a65c_clear_da8c8_27 : decode cJx4a65c_clear_da8c8 27 = .ok (.iload_n 3, 1) := by decide +kernel
theorem dJx4a65c_clear_da8c8_28 : decode cJx4a65c_clear_da8c8 28 = .ok (.iload_n 2, 1) := by decide +kernel
theorem dJx4a65c_clear_da8c8_29 : decode cJx4a65c_clear_da8c8 29 = .ok (.if_icmp .ge 13, 3) := by decide +kernel
theorem dJx4a65c_clear_da8c8_32 : decode cJx4a65c_clear_da8c8 32 = .ok (.aload_n 1, 1) := by decide +kernel
theorem dJx4a65c_clear_da8c8_33 : decode cJx4a65c_clear_da8c8 33 = .ok (.iload_n 3, 1) := by decide +kernel
theorem dJx4a65c_clear_da8c8_34 : decode cJx4a65c_clear_da8c8 34 = .ok (.aconst_null, 1) := by decide +kernel
theorem dJx4a65c_clear_da8c8_35 : decode cJx4a65c_clear_da8c8 35 = .ok (.aastore, 1) := by decide +kernel
theorem dJx4a65c_clear_da8c8_36 : decode cJx4a65c_clear_da8c8 36 = .ok (.iinc 3 1, 3) := by decide +kernel
theorem dJx4a65c_clear_da8c8_39 : decode cJx4a65c_clear_da8c8 39 = .ok (.goto (-12), 3) := by decide +kernel
theorem dJx4a65c_clear_da8c8_42 : decode cJx4a65c_clear_da8c8 42 = .ok (.return_, 1) := by decide +kernel
theorem dJ7_fill_53178_0 : decode cJ7_fill_53178 0 = .ok (.iconst 0, 1) := by decide +kernel
theorem dJ7_fill_53178_1 : decode cJ7_fill_53178 1 = .ok (.istore_n 2, 1) := by decide +kernel
theorem dJ7_fill_53178_2 : decode cJ7_fill_53178 2 = .ok (.aload_n 0, 1) := by decide +kernel
theorem dJ7_fill_53178_3 : decode cJ7_fill_53178 3 = .ok (.arraylength, 1) := by decide +kernel
