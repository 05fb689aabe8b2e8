theorem dX11_found_39 : decode cX11_found 39 = .ok (.iadd, 1) := by decide +kernel
theorem dX11_found_40 : decode cX11_found 40 = .ok (.bipush 40, 2) := by decide +kernel
theorem dX11_found_42 : decode cX11_found 42 = .ok (.if_icmp .le 11, 3) := by decide +kernel
theorem dX11_found_45 : decode cX11_found 45 = .ok (.new 82, 3) := by decide +kernel
theorem dX11_found_48 : decode cX11_found 48 = .ok (.dup, 1) := by decide +kernel
theorem dX11_found_49 : decode cX11_found 49 = .ok (.invokespecial 84, 3) := by decide +kernel
theorem dX11_found_52 : decode cX11_found 52 = .ok (.athrow, 1) := by decide +kernel
theorem dX11_found_53 : decode cX11_found 53 = .ok (.iconst 0, 1) := by decide +kernel
theorem dX11_found_54 : decode cX11_found 54 = .ok (.istore_n 3, 1) := by decide +kernel
theorem dX11_found_55 : decode cX11_found 55 = .ok (.iload_n 3, 1) := by decide +kernel
theorem dX11_found_56 : decode cX11_found 56 = .ok (.iload_n 1, 1) := by decide +kernel
theorem dX11_found_57 : decode cX11_found 57 = .ok (.if_icmp .ge 67, 3) := by decide +kernel
theorem dX11_found_60 : decode cX11_found 60 = .ok (.bipush 20, 2) := by decide +kernel
theorem dX11_found_62 : decode cX11_found 62 = .ok (.bipush 7, 2) := by decide +kernel
theorem dX11_found_64 : decode cX11_found 64 = .ok (.iload_n 3, 1) := by decide +kernel
theorem dX11_found_65 : decode cX11_found 65 = .ok (.imul, 1) := by decide +kernel
theorem dX11_found_66 : decode cX11_found 66 = .ok (.iload_n 2, 1) := by decide +kernel
theorem dX11_found_67 : decode cX11_found 67 = .ok (.iadd, 1) := by decide +kernel
theorem dX11_found_68 : decode cX11_found 68 = .ok (.bipush 45, 2) := by decide +kernel
theorem dX11_found_70 : decode cX11_found 70 = .ok (.irem, 1) := by decide +kernel
theorem dX11_found_71 : decode cX11_found 71 = .ok (.iadd, 1) := by decide +kernel
theorem dX11_found_72 : decode cX11_found 72 = .ok (.istore 4, 2) := by decide +kernel
theorem dX11_found_74 : decode cX11_found 74 = .ok (.bipush 31, 2) := by decide +kernel
theorem dX11_found_76 : decode cX11_found 76 = .ok (.iload_n 3, 1) := by decide +kernel
theorem dX11_found_77 : decode cX11_found 77 = .ok (.imul, 1) := by decide +kernel
theorem dX11_found_78 : decode cX11_found 78 = .ok (.bipush 11, 2) := by decide +kernel
theorem dX11_found_80 : decode cX11_found 80 = .ok (.iload_n 2, 1) := by decide +kernel
theorem dX11_found_81 : decode cX11_found 81 = .ok (.imul, 1) := by decide +kernel
theorem dX11_found_82 : decode cX11_found 82 = .ok (.iadd, 1) := by decide +kernel
theorem dX11_found_83 : decode cX11_found 83 = .ok (.sipush 150, 3) := by decide +kernel
theorem dX11_found_86 : decode cX11_found 86 = .ok (.irem, 1) := by decide +kernel
theorem dX11_found_87 : decode cX11_found 87 = .ok (.istore 5, 2) := by decide +kernel
theorem dX11_found_89 : decode cX11_found 89 = .ok (.iconst 5, 1) := by decide +kernel
theorem dX11_found_90 : decode cX11_found 90 = .ok (.iload_n 3, 1) := by decide +kernel
theorem dX11_found_91 : decode cX11_found 91 = .ok (.imul, 1) := by decide +kernel
theorem dX11_found_92 : decode cX11_found 92 = .ok (.iload_n 2, 1) := by decide +kernel
theorem dX11_found_93 : decode cX11_found 93 = .ok (.iadd, 1) := by decide +kernel
theorem dX11_found_94 : decode cX11_found 94 = .ok (.bipush 16, 2) := by decide +kernel
theorem dX11_found_96 : decode cX11_found 96 = .ok (.irem, 1) := by decide +kernel
theorem dX11_found_97 : decode cX11_found 97 = .ok (.istore 6, 2) := by decide +kernel
theorem dX11_found_99 : decode cX11_found 99 = .ok (.aload_n 0, 1) := by decide +kernel
theorem dX11_found_100 : decode cX11_found 100 = .ok (.getfield 10, 3) := by decide +kernel
theorem dX11_found_103 : decode cX11_found 103 = .ok (.iload_n 3, 1) := by decide +kernel
theorem dX11_found_104 : decode cX11_found 104 = .ok (.bipush 8, 2) := by decide +kernel
theorem dX11_found_106 : decode cX11_found 106 = .ok (.irem, 1) := by decide +kernel
theorem dX11_found_107 : decode cX11_found 107 = .ok (.iload 4, 2) := by decide +kernel
theorem dX11_found_109 : decode cX11_found 109 = .ok (.iload 5, 2) := by decide +kernel
theorem dX11_found_111 : decode cX11_found 111 = .ok (.iload 6, 2) := by decide +kernel
theorem dX11_found_113 : decode cX11_found 113 = .ok (.iconst 1, 1) := by decide +kernel
theorem dX11_found_114 : decode cX11_found 114 = .ok (.invokevirtual 91, 3) := by decide +kernel
theorem dX11_found_117 : decode cX11_found 117 = .ok (.pop, 1) := by decide +kernel
theorem dX11_found_118 : decode cX11_found 118 = .ok (.iinc 3 1, 3) := by decide +kernel
theorem dX11_found_121 : decode cX11_found 121 = .ok (.goto (-66), 3) := by decide +kernel
theorem dX11_found_124 : decode cX11_found 124 = .ok (.aload_n 0, 1) := by decide +kernel
theorem dX11_found_125 : decode cX11_found 125 = .ok (.getfield 10, 3) := by decide +kernel
theorem dX11_found_128 : decode cX11_found 128 = .ok (.getfield 72, 3) := by decide +kernel
theorem dX11_found_131 : decode cX11_found 131 = .ok (.invokevirtual 76, 3) := by decide +kernel
theorem dX11_found_134 : decode cX11_found 134 = .ok (.ireturn, 1) := by decide +kernel
theorem dX11_ofCitizen_0 : decode cX11_ofCitizen 0 = .ok (.aload_n 0, 1) := by decide +kernel
theorem dX11_ofCitizen_1 : decode cX11_ofCitizen 1 = .ok (.getfield 10, 3) := by decide +kernel
theorem dX11_ofCitizen_4 : decode cX11_ofCitizen 4 = .ok (.iload_n 1, 1) := by decide +kernel
theorem dX11_ofCitizen_5 : decode cX11_ofCitizen 5 = .ok (.invokevirtual 102, 3) := by decide +kernel
theorem dX11_ofCitizen_8 : decode cX11_ofCitizen 8 = .ok (.astore_n 3, 1) := by decide +kernel
theorem dX11_ofCitizen_9 : decode cX11_ofCitizen 9 = .ok (.aload_n 3, 1) := by decide +kernel
theorem dX11_ofCitizen_10 : decode cX11_ofCitizen 10 = .ok (.ifnonnull 11, 3) := by decide +kernel
theorem dX11_ofCitizen_13 : decode cX11_ofCitizen 13 = .ok (.new 95, 3) := by decide +kernel
theorem dX11_ofCitizen_16 : decode cX11_ofCitizen 16 = .ok (.dup, 1) := by decide +kernel
theorem dX11_ofCitizen_17 : decode cX11_ofCitizen 17 = .ok (.invokespecial 97, 3) := by decide +kernel
theorem dX11_ofCitizen_20 : decode cX11_ofCitizen 20 = .ok (.athrow, 1) := by decide +kernel
theorem dX11_ofCitizen_21 : decode cX11_ofCitizen 21 = .ok (.iload_n 2, 1) := by decide +kernel
theorem dX11_ofCitizen_22 : decode cX11_ofCitizen 22 = .ok (.tableswitch 138 0 12 #[66, 71, 76, 81, 86, 91, 96, 101, 106, 111, 116, 125, 133], 66) := by decide +kernel
theorem dX11_ofCitizen_88 : decode cX11_ofCitizen 88 = .ok (.aload_n 3, 1) := by decide +kernel
theorem dX11_ofCitizen_89 : decode cX11_ofCitizen 89 = .ok (.getfield 121, 3) := by decide +kernel
theorem dX11_ofCitizen_92 : decode cX11_ofCitizen 92 = .ok (.ireturn, 1) := by decide +kernel
theorem dX11_ofCitizen_93 : decode cX11_ofCitizen 93 = .ok (.aload_n 3, 1) := by decide +kernel
theorem dX11_ofCitizen_94 : decode cX11_ofCitizen 94 = .ok (.invokevirtual 124, 3) := by decide +kernel
theorem dX11_ofCitizen_97 : decode cX11_ofCitizen 97 = .ok (.ireturn, 1) := by decide +kernel
theorem dX11_ofCitizen_98 : decode cX11_ofCitizen 98 = .ok (.aload_n 3, 1) := by decide +kernel
theorem dX11_ofCitizen_99 : decode cX11_ofCitizen 99 = .ok (.getfield 127, 3) := by decide +kernel
theorem dX11_ofCitizen_102 : decode cX11_ofCitizen 102 = .ok (.ireturn, 1) := by decide +kernel
theorem dX11_ofCitizen_103 : decode cX11_ofCitizen 103 = .ok (.aload_n 3, 1) := by decide +kernel
theorem dX11_ofCitizen_104 : decode cX11_ofCitizen 104 = .ok (.getfield 130, 3) := by decide +kernel
theorem dX11_ofCitizen_107 : decode cX11_ofCitizen 107 = .ok (.ireturn, 1) := by decide +kernel
theorem dX11_ofCitizen_108 : decode cX11_ofCitizen 108 = .ok (.aload_n 3, 1) := by decide +kernel
theorem dX11_ofCitizen_109 : decode cX11_ofCitizen 109 = .ok (.getfield 133, 3) := by decide +kernel
theorem dX11_ofCitizen_112 : decode cX11_ofCitizen 112 = .ok (.ireturn, 1) := by decide +kernel
theorem dX11_ofCitizen_113 : decode cX11_ofCitizen 113 = .ok (.aload_n 3, 1) := by decide +kernel
theorem dX11_ofCitizen_114 : decode cX11_ofCitizen 114 = .ok (.invokevirtual 136, 3) := by decide +kernel
theorem dX11_ofCitizen_117 : decode cX11_ofCitizen 117 = .ok (.ireturn, 1) := by decide +kernel
theorem dX11_ofCitizen_118 : decode cX11_ofCitizen 118 = .ok (.aload_n 3, 1) := by decide +kernel
theorem dX11_ofCitizen_119 : decode cX11_ofCitizen 119 = .ok (.getfield 106, 3) := by decide +kernel
theorem dX11_ofCitizen_122 : decode cX11_ofCitizen 122 = .ok (.ireturn, 1) := by decide +kernel
theorem dX11_ofCitizen_123 : decode cX11_ofCitizen 123 = .ok (.aload_n 3, 1) := by decide +kernel
theorem dX11_ofCitizen_124 : decode cX11_ofCitizen 124 = .ok (.getfield 139, 3) := by decide +kernel
theorem dX11_ofCitizen_127 : decode cX11_ofCitizen 127 = .ok (.ireturn, 1) := by decide +kernel
theorem dX11_ofCitizen_128 : decode cX11_ofCitizen 128 = .ok (.aload_n 3, 1) := by decide +kernel
theorem dX11_ofCitizen_129 : decode cX11_ofCitizen 129 = .ok (.getfield 142, 3) := by decide +kernel
theorem dX11_ofCitizen_132 : decode cX11_ofCitizen 132 = .ok (.ireturn, 1) := by decide +kernel
theorem dX11_ofCitizen_133 : decode cX11_ofCitizen 133 = .ok (.aload_n 3, 1) := by decide +kernel
theorem dX11_ofCitizen_134 : decode cX11_ofCitizen 134 = .ok (.getfield 145, 3) := by decide +kernel
theorem dX11_ofCitizen_137 : decode cX11_ofCitizen 137 = .ok (.ireturn, 1) := by decide +kernel
theorem dX11_ofCitizen_138 : decode cX11_ofCitizen 138 = .ok (.aload_n 0, 1) := by decide +kernel
theorem dX11_ofCitizen_139 : decode cX11_ofCitizen 139 = .ok (.getfield 10, 3) := by decide +kernel
theorem dX11_ofCitizen_142 : decode cX11_ofCitizen 142 = .ok (.aload_n 3, 1) := by decide +kernel
theorem dX11_ofCitizen_143 : decode cX11_ofCitizen 143 = .ok (.invokevirtual 148, 3) := by decide +kernel
theorem dX11_ofCitizen_146 : decode cX11_ofCitizen 146 = .ok (.ireturn, 1) := by decide +kernel
theorem dX11_ofCitizen_147 : decode cX11_ofCitizen 147 = .ok (.aload_n 3, 1) := by decide +kernel
theorem dX11_ofCitizen_148 : decode cX11_ofCitizen 148 = .ok (.getfield 151, 3) := by decide +kernel
theorem dX11_ofCitizen_151 : decode cX11_ofCitizen 151 = .ok (.invokestatic 154, 3) := by decide +kernel
theorem dX11_ofCitizen_154 : decode cX11_ofCitizen 154 = .ok (.ireturn, 1) := by decide +kernel
theorem dX11_ofCitizen_155 : decode cX11_ofCitizen 155 = .ok (.aload_n 3, 1) := by decide +kernel
theorem dX11_ofCitizen_156 : decode cX11_ofCitizen 156 = .ok (.getfield 158, 3) := by decide +kernel
theorem dX11_ofCitizen_159 : decode cX11_ofCitizen 159 = .ok (.ireturn, 1) := by decide +kernel
theorem dX11_ofCitizen_160 : decode cX11_ofCitizen 160 = .ok (.new 65, 3) := by decide +kernel
theorem dX11_ofCitizen_163 : decode cX11_ofCitizen 163 = .ok (.dup, 1) := by decide +kernel
theorem dX11_ofCitizen_164 : decode cX11_ofCitizen 164 = .ok (.invokespecial 67, 3) := by decide +kernel
theorem dX11_ofCitizen_167 : decode cX11_ofCitizen 167 = .ok (.athrow, 1) := by decide +kernel
theorem dX11_seat_0 : decode cX11_seat 0 = .ok (.aload_n 0, 1) := by decide +kernel
theorem dX11_seat_1 : decode cX11_seat 1 = .ok (.getfield 21, 3) := by decide +kernel
theorem dX11_seat_4 : decode cX11_seat 4 = .ok (.invokevirtual 161, 3) := by decide +kernel
theorem dX11_seat_7 : decode cX11_seat 7 = .ok (.ifCond .gt 13, 3) := by decide +kernel
theorem dX11_seat_10 : decode cX11_seat 10 = .ok (.aload_n 0, 1) := by decide +kernel
theorem dX11_seat_11 : decode cX11_seat 11 = .ok (.getfield 10, 3) := by decide +kernel
theorem dX11_seat_14 : decode cX11_seat 14 = .ok (.getfield 109, 3) := by decide +kernel
theorem dX11_seat_17 : decode cX11_seat 17 = .ok (.ifCond .ne 11, 3) := by decide +kernel
theorem dX11_seat_20 : decode cX11_seat 20 = .ok (.new 82, 3) := by decide +kernel
theorem dX11_seat_23 : decode cX11_seat 23 = .ok (.dup, 1) := by decide +kernel
theorem dX11_seat_24 : decode cX11_seat 24 = .ok (.invokespecial 84, 3) := by decide +kernel
theorem dX11_seat_27 : decode cX11_seat 27 = .ok (.athrow, 1) := by decide +kernel
theorem dX11_seat_28 : decode cX11_seat 28 = .ok (.aload_n 0, 1) := by decide +kernel
theorem dX11_seat_29 : decode cX11_seat 29 = .ok (.getfield 21, 3) := by decide +kernel
theorem dX11_seat_32 : decode cX11_seat 32 = .ok (.invokevirtual 162, 3) := by decide +kernel
theorem dX11_seat_35 : decode cX11_seat 35 = .ok (.aload_n 0, 1) := by decide +kernel
theorem dX11_seat_36 : decode cX11_seat 36 = .ok (.getfield 21, 3) := by decide +kernel
theorem dX11_seat_39 : decode cX11_seat 39 = .ok (.invokevirtual 165, 3) := by decide +kernel
theorem dX11_seat_42 : decode cX11_seat 42 = .ok (.aload_n 0, 1) := by decide +kernel
theorem dX11_seat_43 : decode cX11_seat 43 = .ok (.getfield 21, 3) := by decide +kernel
theorem dX11_seat_46 : decode cX11_seat 46 = .ok (.invokevirtual 161, 3) := by decide +kernel
theorem dX11_seat_49 : decode cX11_seat 49 = .ok (.ireturn, 1) := by decide +kernel
theorem dX11_council_0 : decode cX11_council 0 = .ok (.iload_n 1, 1) := by decide +kernel
theorem dX11_council_1 : decode cX11_council 1 = .ok (.tableswitch 78 0 4 #[35, 43, 51, 62, 70], 35) := by decide +kernel
theorem dX11_council_36 : decode cX11_council 36 = .ok (.aload_n 0, 1) := by decide +kernel
theorem dX11_council_37 : decode cX11_council 37 = .ok (.getfield 21, 3) := by decide +kernel
theorem dX11_council_40 : decode cX11_council 40 = .ok (.invokevirtual 161, 3) := by decide +kernel
theorem dX11_council_43 : decode cX11_council 43 = .ok (.ireturn, 1) := by decide +kernel
theorem dX11_council_44 : decode cX11_council 44 = .ok (.aload_n 0, 1) := by decide +kernel
theorem dX11_council_45 : decode cX11_council 45 = .ok (.getfield 21, 3) := by decide +kernel
theorem dX11_council_48 : decode cX11_council 48 = .ok (.invokevirtual 168, 3) := by decide +kernel
theorem dX11_council_51 : decode cX11_council 51 = .ok (.ireturn, 1) := by decide +kernel
theorem dX11_council_52 : decode cX11_council 52 = .ok (.aload_n 0, 1) := by decide +kernel
theorem dX11_council_53 : decode cX11_council 53 = .ok (.getfield 10, 3) := by decide +kernel
theorem dX11_council_56 : decode cX11_council 56 = .ok (.getfield 171, 3) := by decide +kernel
theorem dX11_council_59 : decode cX11_council 59 = .ok (.invokestatic 175, 3) := by decide +kernel
theorem dX11_council_62 : decode cX11_council 62 = .ok (.ireturn, 1) := by decide +kernel
theorem dX11_council_63 : decode cX11_council 63 = .ok (.aload_n 0, 1) := by decide +kernel
theorem dX11_council_64 : decode cX11_council 64 = .ok (.getfield 21, 3) := by decide +kernel
theorem dX11_council_67 : decode cX11_council 67 = .ok (.invokevirtual 178, 3) := by decide +kernel
theorem dX11_council_70 : decode cX11_council 70 = .ok (.ireturn, 1) := by decide +kernel
theorem dX11_council_71 : decode cX11_council 71 = .ok (.aload_n 0, 1) := by decide +kernel
theorem dX11_council_72 : decode cX11_council 72 = .ok (.getfield 21, 3) := by decide +kernel
theorem dX11_council_75 : decode cX11_council 75 = .ok (.invokevirtual 181, 3) := by decide +kernel
theorem dX11_council_78 : decode cX11_council 78 = .ok (.ireturn, 1) := by decide +kernel
theorem dX11_council_79 : decode cX11_council 79 = .ok (.new 65, 3) := by decide +kernel
theorem dX11_council_82 : decode cX11_council 82 = .ok (.dup, 1) := by decide +kernel
theorem dX11_council_83 : decode cX11_council 83 = .ok (.invokespecial 67, 3) := by decide +kernel
theorem dX11_council_86 : decode cX11_council 86 = .ok (.athrow, 1) := by decide +kernel
theorem dX11_move_0 : decode cX11_move 0 = .ok (.aload_n 0, 1) := by decide +kernel
theorem dX11_move_1 : decode cX11_move 1 = .ok (.getfield 10, 3) := by decide +kernel
theorem dX11_move_4 : decode cX11_move 4 = .ok (.iload_n 1, 1) := by decide +kernel
theorem dX11_move_5 : decode cX11_move 5 = .ok (.invokevirtual 102, 3) := by decide +kernel
theorem dX11_move_8 : decode cX11_move 8 = .ok (.astore 6, 2) := by decide +kernel
theorem dX11_move_10 : decode cX11_move 10 = .ok (.aload 6, 2) := by decide +kernel
theorem dX11_move_12 : decode cX11_move 12 = .ok (.ifnonnull 11, 3) := by decide +kernel
theorem dX11_move_15 : decode cX11_move 15 = .ok (.new 95, 3) := by decide +kernel
theorem dX11_move_18 : decode cX11_move 18 = .ok (.dup, 1) := by decide +kernel
theorem dX11_move_19 : decode cX11_move 19 = .ok (.invokespecial 97, 3) := by decide +kernel
theorem dX11_move_22 : decode cX11_move 22 = .ok (.athrow, 1) := by decide +kernel
theorem dX11_move_23 : decode cX11_move 23 = .ok (.iload_n 2, 1) := by decide +kernel
theorem dX11_move_24 : decode cX11_move 24 = .ok (.iconst 0, 1) := by decide +kernel
theorem dX11_move_25 : decode cX11_move 25 = .ok (.iconst 5, 1) := by decide +kernel
theorem dX11_move_26 : decode cX11_move 26 = .ok (.invokestatic 61, 3) := by decide +kernel
theorem dX11_move_29 : decode cX11_move 29 = .ok (.ifCond .eq 13, 3) := by decide +kernel
theorem dX11_move_32 : decode cX11_move 32 = .ok (.iload_n 3, 1) := by decide +kernel
theorem dX11_move_33 : decode cX11_move 33 = .ok (.iconst 0, 1) := by decide +kernel
theorem dX11_move_34 : decode cX11_move 34 = .ok (.bipush 7, 2) := by decide +kernel
theorem dX11_move_36 : decode cX11_move 36 = .ok (.invokestatic 61, 3) := by decide +kernel
theorem dX11_move_39 : decode cX11_move 39 = .ok (.ifCond .ne 11, 3) := by decide +kernel
theorem dX11_move_42 : decode cX11_move 42 = .ok (.new 65, 3) := by decide +kernel
theorem dX11_move_45 : decode cX11_move 45 = .ok (.dup, 1) := by decide +kernel
theorem dX11_move_46 : decode cX11_move 46 = .ok (.invokespecial 67, 3) := by decide +kernel
theorem dX11_move_49 : decode cX11_move 49 = .ok (.athrow, 1) := by decide +kernel
theorem dX11_move_50 : decode cX11_move 50 = .ok (.iload 4, 2) := by decide +kernel
theorem dX11_move_52 : decode cX11_move 52 = .ok (.invokestatic 68, 3) := by decide +kernel
theorem dX11_move_55 : decode cX11_move 55 = .ok (.ifCond .eq 15, 3) := by decide +kernel
theorem dX11_move_58 : decode cX11_move 58 = .ok (.iload 5, 2) := by decide +kernel
theorem dX11_move_60 : decode cX11_move 60 = .ok (.iconst 0, 1) := by decide +kernel
theorem dX11_move_61 : decode cX11_move 61 = .ok (.sipush 300, 3) := by decide +kernel
theorem dX11_move_64 : decode cX11_move 64 = .ok (.invokestatic 61, 3) := by decide +kernel
theorem dX11_move_67 : decode cX11_move 67 = .ok (.ifCond .ne 11, 3) := by decide +kernel
theorem dX11_move_70 : decode cX11_move 70 = .ok (.new 65, 3) := by decide +kernel
theorem dX11_move_73 : decode cX11_move 73 = .ok (.dup, 1) := by decide +kernel
theorem dX11_move_74 : decode cX11_move 74 = .ok (.invokespecial 67, 3) := by decide +kernel
theorem dX11_move_77 : decode cX11_move 77 = .ok (.athrow, 1) := by decide +kernel
theorem dX11_move_78 : decode cX11_move 78 = .ok (.aload_n 0, 1) := by decide +kernel
theorem dX11_move_79 : decode cX11_move 79 = .ok (.getfield 10, 3) := by decide +kernel
theorem dX11_move_82 : decode cX11_move 82 = .ok (.aload 6, 2) := by decide +kernel
theorem dX11_move_84 : decode cX11_move 84 = .ok (.invokevirtual 186, 3) := by decide +kernel
theorem dX11_move_87 : decode cX11_move 87 = .ok (.ifCond .eq 28, 3) := by decide +kernel
theorem dX11_move_90 : decode cX11_move 90 = .ok (.aload_n 0, 1) := by decide +kernel
theorem dX11_move_91 : decode cX11_move 91 = .ok (.getfield 37, 3) := by decide +kernel
theorem dX11_move_94 : decode cX11_move 94 = .ok (.getfield 189, 3) := by decide +kernel
theorem dX11_move_97 : decode cX11_move 97 = .ok (.invokevirtual 76, 3) := by decide +kernel
theorem dX11_move_100 : decode cX11_move 100 = .ok (.bipush 8, 2) := by decide +kernel
theorem dX11_move_102 : decode cX11_move 102 = .ok (.if_icmp .ge 13, 3) := by decide +kernel
theorem dX11_move_105 : decode cX11_move 105 = .ok (.aload_n 0, 1) := by decide +kernel
theorem dX11_move_106 : decode cX11_move 106 = .ok (.getfield 10, 3) := by decide +kernel
theorem dX11_move_109 : decode cX11_move 109 = .ok (.getfield 109, 3) := by decide +kernel
theorem dX11_move_112 : decode cX11_move 112 = .ok (.ifCond .ne 11, 3) := by decide +kernel
theorem dX11_move_115 : decode cX11_move 115 = .ok (.new 82, 3) := by decide +kernel
theorem dX11_move_118 : decode cX11_move 118 = .ok (.dup, 1) := by decide +kernel
theorem dX11_move_119 : decode cX11_move 119 = .ok (.invokespecial 84, 3) := by decide +kernel
theorem dX11_move_122 : decode cX11_move 122 = .ok (.athrow, 1) := by decide +kernel
theorem dX11_move_123 : decode cX11_move 123 = .ok (.iconst 2, 1) := by decide +kernel
theorem dX11_move_124 : decode cX11_move 124 = .ok (.aload_n 0, 1) := by decide +kernel
theorem dX11_move_125 : decode cX11_move 125 = .ok (.getfield 10, 3) := by decide +kernel
theorem dX11_move_128 : decode cX11_move 128 = .ok (.iload 4, 2) := by decide +kernel
theorem dX11_move_130 : decode cX11_move 130 = .ok (.invokevirtual 192, 3) := by decide +kernel
theorem dX11_move_133 : decode cX11_move 133 = .ok (.imul, 1) := by decide +kernel
theorem dX11_move_134 : decode cX11_move 134 = .ok (.aload_n 0, 1) := by decide +kernel
theorem dX11_move_135 : decode cX11_move 135 = .ok (.getfield 21, 3) := by decide +kernel
theorem dX11_move_138 : decode cX11_move 138 = .ok (.invokevirtual 161, 3) := by decide +kernel
theorem dX11_move_141 : decode cX11_move 141 = .ok (.if_icmp .ge 6, 3) := by decide +kernel
theorem dX11_move_144 : decode cX11_move 144 = .ok (.bipush (-2), 2) := by decide +kernel
theorem dX11_move_146 : decode cX11_move 146 = .ok (.ireturn, 1) := by decide +kernel
theorem dX11_move_147 : decode cX11_move 147 = .ok (.aload_n 0, 1) := by decide +kernel
theorem dX11_move_148 : decode cX11_move 148 = .ok (.getfield 37, 3) := by decide +kernel
theorem dX11_move_151 : decode cX11_move 151 = .ok (.getfield 189, 3) := by decide +kernel
theorem dX11_move_154 : decode cX11_move 154 = .ok (.new 184, 3) := by decide +kernel
theorem dX11_move_157 : decode cX11_move 157 = .ok (.dup, 1) := by decide +kernel
theorem dX11_move_158 : decode cX11_move 158 = .ok (.aload 6, 2) := by decide +kernel
theorem dX11_move_160 : decode cX11_move 160 = .ok (.iload_n 2, 1) := by decide +kernel
theorem dX11_move_161 : decode cX11_move 161 = .ok (.iload_n 3, 1) := by decide +kernel
theorem dX11_move_162 : decode cX11_move 162 = .ok (.iload 4, 2) := by decide +kernel
theorem dX11_move_164 : decode cX11_move 164 = .ok (.iload 5, 2) := by decide +kernel
theorem dX11_move_166 : decode cX11_move 166 = .ok (.invokespecial 195, 3) := by decide +kernel
theorem dX11_move_169 : decode cX11_move 169 = .ok (.invokevirtual 198, 3) := by decide +kernel
theorem dX11_move_172 : decode cX11_move 172 = .ok (.pop, 1) := by decide +kernel
theorem dX11_move_173 : decode cX11_move 173 = .ok (.aload_n 0, 1) := by decide +kernel
theorem dX11_move_174 : decode cX11_move 174 = .ok (.getfield 37, 3) := by decide +kernel
theorem dX11_move_177 : decode cX11_move 177 = .ok (.getfield 189, 3) := by decide +kernel
theorem dX11_move_180 : decode cX11_move 180 = .ok (.invokevirtual 76, 3) := by decide +kernel
theorem dX11_move_183 : decode cX11_move 183 = .ok (.iconst 1, 1) := by decide +kernel
theorem dX11_move_184 : decode cX11_move 184 = .ok (.isub, 1) := by decide +kernel
theorem dX11_move_185 : decode cX11_move 185 = .ok (.ireturn, 1) := by decide +kernel
theorem dX11_assembly_0 : decode cX11_assembly 0 = .ok (.aload_n 0, 1) := by decide +kernel
theorem dX11_assembly_1 : decode cX11_assembly 1 = .ok (.getfield 10, 3) := by decide +kernel
theorem dX11_assembly_4 : decode cX11_assembly 4 = .ok (.getfield 171, 3) := by decide +kernel
theorem dX11_assembly_7 : decode cX11_assembly 7 = .ok (.ifnull 30, 3) := by decide +kernel
theorem dX11_assembly_10 : decode cX11_assembly 10 = .ok (.aload_n 0, 1) := by decide +kernel
theorem dX11_assembly_11 : decode cX11_assembly 11 = .ok (.getfield 37, 3) := by decide +kernel
theorem dX11_assembly_14 : decode cX11_assembly 14 = .ok (.getfield 213, 3) := by decide +kernel
theorem dX11_assembly_17 : decode cX11_assembly 17 = .ok (.aload_n 0, 1) := by decide +kernel
theorem dX11_assembly_18 : decode cX11_assembly 18 = .ok (.getfield 10, 3) := by decide +kernel
theorem dX11_assembly_21 : decode cX11_assembly 21 = .ok (.getfield 216, 3) := by decide +kernel
theorem dX11_assembly_24 : decode cX11_assembly 24 = .ok (.if_icmp .eq 13, 3) := by decide +kernel
theorem dX11_assembly_27 : decode cX11_assembly 27 = .ok (.aload_n 0, 1) := by decide +kernel
theorem dX11_assembly_28 : decode cX11_assembly 28 = .ok (.getfield 10, 3) := by decide +kernel
theorem dX11_assembly_31 : decode cX11_assembly 31 = .ok (.getfield 109, 3) := by decide +kernel
theorem dX11_assembly_34 : decode cX11_assembly 34 = .ok (.ifCond .ne 11, 3) := by decide +kernel
theorem dX11_assembly_37 : decode cX11_assembly 37 = .ok (.new 82, 3) := by decide +kernel
theorem dX11_assembly_40 : decode cX11_assembly 40 = .ok (.dup, 1) := by decide +kernel
theorem dX11_assembly_41 : decode cX11_assembly 41 = .ok (.invokespecial 84, 3) := by decide +kernel
theorem dX11_assembly_44 : decode cX11_assembly 44 = .ok (.athrow, 1) := by decide +kernel
theorem dX11_assembly_45 : decode cX11_assembly 45 = .ok (.aload_n 0, 1) := by decide +kernel
theorem dX11_assembly_46 : decode cX11_assembly 46 = .ok (.getfield 37, 3) := by decide +kernel
theorem dX11_assembly_49 : decode cX11_assembly 49 = .ok (.invokevirtual 219, 3) := by decide +kernel
theorem dX11_assembly_52 : decode cX11_assembly 52 = .ok (.ireturn, 1) := by decide +kernel
theorem dX11_ofDecree_0 : decode cX11_ofDecree 0 = .ok (.iload_n 1, 1) := by decide +kernel
theorem dX11_ofDecree_1 : decode cX11_ofDecree 1 = .ok (.iconst 0, 1) := by decide +kernel
theorem dX11_ofDecree_2 : decode cX11_ofDecree 2 = .ok (.aload_n 0, 1) := by decide +kernel
theorem dX11_ofDecree_3 : decode cX11_ofDecree 3 = .ok (.getfield 37, 3) := by decide +kernel
theorem dX11_ofDecree_6 : decode cX11_ofDecree 6 = .ok (.getfield 222, 3) := by decide +kernel
theorem dX11_ofDecree_9 : decode cX11_ofDecree 9 = .ok (.invokevirtual 76, 3) := by decide +kernel
theorem dX11_ofDecree_12 : decode cX11_ofDecree 12 = .ok (.iconst 1, 1) := by decide +kernel
theorem dX11_ofDecree_13 : decode cX11_ofDecree 13 = .ok (.isub, 1) := by decide +kernel
theorem dX11_ofDecree_14 : decode cX11_ofDecree 14 = .ok (.invokestatic 61, 3) := by decide +kernel
theorem dX11_ofDecree_17 : decode cX11_ofDecree 17 = .ok (.ifCond .ne 11, 3) := by decide +kernel
theorem dX11_ofDecree_20 : decode cX11_ofDecree 20 = .ok (.new 95, 3) := by decide +kernel
theorem dX11_ofDecree_23 : decode cX11_ofDecree 23 = .ok (.dup, 1) := by decide +kernel
theorem dX11_ofDecree_24 : decode cX11_ofDecree 24 = .ok (.invokespecial 97, 3) := by decide +kernel
theorem dX11_ofDecree_27 : decode cX11_ofDecree 27 = .ok (.athrow, 1) := by decide +kernel
theorem dX11_ofDecree_28 : decode cX11_ofDecree 28 = .ok (.aload_n 0, 1) := by decide +kernel
theorem dX11_ofDecree_29 : decode cX11_ofDecree 29 = .ok (.getfield 37, 3) := by decide +kernel
theorem dX11_ofDecree_32 : decode cX11_ofDecree 32 = .ok (.getfield 222, 3) := by decide +kernel
theorem dX11_ofDecree_35 : decode cX11_ofDecree 35 = .ok (.iload_n 1, 1) := by decide +kernel
theorem dX11_ofDecree_36 : decode cX11_ofDecree 36 = .ok (.invokevirtual 202, 3) := by decide +kernel
theorem dX11_ofDecree_39 : decode cX11_ofDecree 39 = .ok (.checkcast 184, 3) := by decide +kernel
theorem dX11_ofDecree_42 : decode cX11_ofDecree 42 = .ok (.astore_n 3, 1) := by decide +kernel
theorem dX11_ofDecree_43 : decode cX11_ofDecree 43 = .ok (.iload_n 2, 1) := by decide +kernel
theorem dX11_ofDecree_44 : decode cX11_ofDecree 44 = .ok (.tableswitch 71 0 4 #[36, 44, 49, 54, 59], 36) := by decide +kernel
theorem dX11_ofDecree_80 : decode cX11_ofDecree 80 = .ok (.aload_n 3, 1) := by decide +kernel
theorem dX11_ofDecree_81 : decode cX11_ofDecree 81 = .ok (.getfield 225, 3) := by decide +kernel
theorem dX11_ofDecree_84 : decode cX11_ofDecree 84 = .ok (.getfield 228, 3) := by decide +kernel
theorem dX11_ofDecree_87 : decode cX11_ofDecree 87 = .ok (.ireturn, 1) := by decide +kernel
theorem dX11_ofDecree_88 : decode cX11_ofDecree 88 = .ok (.aload_n 3, 1) := by decide +kernel
theorem dX11_ofDecree_89 : decode cX11_ofDecree 89 = .ok (.getfield 231, 3) := by decide +kernel
theorem dX11_ofDecree_92 : decode cX11_ofDecree 92 = .ok (.ireturn, 1) := by decide +kernel
theorem dX11_ofDecree_93 : decode cX11_ofDecree 93 = .ok (.aload_n 3, 1) := by decide +kernel
theorem dX11_ofDecree_94 : decode cX11_ofDecree 94 = .ok (.getfield 206, 3) := by decide +kernel
theorem dX11_ofDecree_97 : decode cX11_ofDecree 97 = .ok (.ireturn, 1) := by decide +kernel
theorem dX11_ofDecree_98 : decode cX11_ofDecree 98 = .ok (.aload_n 3, 1) := by decide +kernel
theorem dX11_ofDecree_99 : decode cX11_ofDecree 99 = .ok (.getfield 234, 3) := by decide +kernel
theorem dX11_ofDecree_102 : decode cX11_ofDecree 102 = .ok (.ireturn, 1) := by decide +kernel
theorem dX11_ofDecree_103 : decode cX11_ofDecree 103 = .ok (.aload_n 0, 1) := by decide +kernel
theorem dX11_ofDecree_104 : decode cX11_ofDecree 104 = .ok (.getfield 37, 3) := by decide +kernel
theorem dX11_ofDecree_107 : decode cX11_ofDecree 107 = .ok (.iload_n 1, 1) := by decide +kernel
theorem dX11_ofDecree_108 : decode cX11_ofDecree 108 = .ok (.invokevirtual 235, 3) := by decide +kernel
theorem dX11_ofDecree_111 : decode cX11_ofDecree 111 = .ok (.invokestatic 154, 3) := by decide +kernel
theorem dX11_ofDecree_114 : decode cX11_ofDecree 114 = .ok (.ireturn, 1) := by decide +kernel
theorem dX11_ofDecree_115 : decode cX11_ofDecree 115 = .ok (.new 65, 3) := by decide +kernel
theorem dX11_ofDecree_118 : decode cX11_ofDecree 118 = .ok (.dup, 1) := by decide +kernel
theorem dX11_ofDecree_119 : decode cX11_ofDecree 119 = .ok (.invokespecial 67, 3) := by decide +kernel
theorem dX11_ofDecree_122 : decode cX11_ofDecree 122 = .ok (.athrow, 1) := by decide +kernel
theorem dX11_law_0 : decode cX11_law 0 = .ok (.iload_n 1, 1) := by decide +kernel
theorem dX11_law_1 : decode cX11_law 1 = .ok (.iconst 0, 1) := by decide +kernel
theorem dX11_law_2 : decode cX11_law 2 = .ok (.bipush 7, 2) := by decide +kernel
theorem dX11_law_4 : decode cX11_law 4 = .ok (.invokestatic 61, 3) := by decide +kernel
theorem dX11_law_7 : decode cX11_law 7 = .ok (.ifCond .ne 11, 3) := by decide +kernel
theorem dX11_law_10 : decode cX11_law 10 = .ok (.new 95, 3) := by decide +kernel
theorem dX11_law_13 : decode cX11_law 13 = .ok (.dup, 1) := by decide +kernel
theorem dX11_law_14 : decode cX11_law 14 = .ok (.invokespecial 97, 3) := by decide +kernel
theorem dX11_law_17 : decode cX11_law 17 = .ok (.athrow, 1) := by decide +kernel
theorem dX11_law_18 : decode cX11_law 18 = .ok (.aload_n 0, 1) := by decide +kernel
theorem dX11_law_19 : decode cX11_law 19 = .ok (.getfield 37, 3) := by decide +kernel
theorem dX11_law_22 : decode cX11_law 22 = .ok (.iload_n 1, 1) := by decide +kernel
theorem dX11_law_23 : decode cX11_law 23 = .ok (.invokevirtual 238, 3) := by decide +kernel
theorem dX11_law_26 : decode cX11_law 26 = .ok (.ireturn, 1) := by decide +kernel
theorem dX11_would_0 : decode cX11_would 0 = .ok (.iload_n 1, 1) := by decide +kernel
theorem dX11_would_1 : decode cX11_would 1 = .ok (.iconst 0, 1) := by decide +kernel
theorem dX11_would_2 : decode cX11_would 2 = .ok (.aload_n 0, 1) := by decide +kernel
theorem dX11_would_3 : decode cX11_would 3 = .ok (.getfield 37, 3) := by decide +kernel
theorem dX11_would_6 : decode cX11_would 6 = .ok (.getfield 189, 3) := by decide +kernel
theorem dX11_would_9 : decode cX11_would 9 = .ok (.invokevirtual 76, 3) := by decide +kernel
theorem dX11_would_12 : decode cX11_would 12 = .ok (.iconst 1, 1) := by decide +kernel
theorem dX11_would_13 : decode cX11_would 13 = .ok (.isub, 1) := by decide +kernel
theorem dX11_would_14 : decode cX11_would 14 = .ok (.invokestatic 61, 3) := by decide +kernel
theorem dX11_would_17 : decode cX11_would 17 = .ok (.ifCond .ne 11, 3) := by decide +kernel
theorem dX11_would_20 : decode cX11_would 20 = .ok (.new 95, 3) := by decide +kernel
theorem dX11_would_23 : decode cX11_would 23 = .ok (.dup, 1) := by decide +kernel
theorem dX11_would_24 : decode cX11_would 24 = .ok (.invokespecial 97, 3) := by decide +kernel
theorem dX11_would_27 : decode cX11_would 27 = .ok (.athrow, 1) := by decide +kernel
theorem dX11_would_28 : decode cX11_would 28 = .ok (.aload_n 0, 1) := by decide +kernel
theorem dX11_would_29 : decode cX11_would 29 = .ok (.getfield 37, 3) := by decide +kernel
theorem dX11_would_32 : decode cX11_would 32 = .ok (.aload_n 0, 1) := by decide +kernel
theorem dX11_would_33 : decode cX11_would 33 = .ok (.getfield 37, 3) := by decide +kernel
theorem dX11_would_36 : decode cX11_would 36 = .ok (.getfield 189, 3) := by decide +kernel
theorem dX11_would_39 : decode cX11_would 39 = .ok (.iload_n 1, 1) := by decide +kernel
theorem dX11_would_40 : decode cX11_would 40 = .ok (.invokevirtual 202, 3) := by decide +kernel
theorem dX11_would_43 : decode cX11_would 43 = .ok (.checkcast 184, 3) := by decide +kernel
theorem dX11_would_46 : decode cX11_would 46 = .ok (.invokevirtual 241, 3) := by decide +kernel
theorem dX11_would_49 : decode cX11_would 49 = .ok (.ireturn, 1) := by decide +kernel
theorem dX11_stand_0 : decode cX11_stand 0 = .ok (.aload_n 0, 1) := by decide +kernel
theorem dX11_stand_1 : decode cX11_stand 1 = .ok (.getfield 10, 3) := by decide +kernel
theorem dX11_stand_4 : decode cX11_stand 4 = .ok (.iload_n 1, 1) := by decide +kernel
theorem dX11_stand_5 : decode cX11_stand 5 = .ok (.invokevirtual 102, 3) := by decide +kernel
theorem dX11_stand_8 : decode cX11_stand 8 = .ok (.astore_n 3, 1) := by decide +kernel
theorem dX11_stand_9 : decode cX11_stand 9 = .ok (.aload_n 3, 1) := by decide +kernel
theorem dX11_stand_10 : decode cX11_stand 10 = .ok (.ifnull 23, 3) := by decide +kernel
theorem dX11_stand_13 : decode cX11_stand 13 = .ok (.iload_n 2, 1) := by decide +kernel
theorem dX11_stand_14 : decode cX11_stand 14 = .ok (.iconst 0, 1) := by decide +kernel
theorem dX11_stand_15 : decode cX11_stand 15 = .ok (.aload_n 0, 1) := by decide +kernel
theorem dX11_stand_16 : decode cX11_stand 16 = .ok (.getfield 10, 3) := by decide +kernel
theorem dX11_stand_19 : decode cX11_stand 19 = .ok (.getfield 245, 3) := by decide +kernel
theorem dX11_stand_22 : decode cX11_stand 22 = .ok (.invokevirtual 76, 3) := by decide +kernel
theorem dX11_stand_25 : decode cX11_stand 25 = .ok (.iconst 1, 1) := by decide +kernel
theorem dX11_stand_26 : decode cX11_stand 26 = .ok (.isub, 1) := by decide +kernel
theorem dX11_stand_27 : decode cX11_stand 27 = .ok (.invokestatic 61, 3) := by decide +kernel
theorem dX11_stand_30 : decode cX11_stand 30 = .ok (.ifCond .ne 11, 3) := by decide +kernel
theorem dX11_stand_33 : decode cX11_stand 33 = .ok (.new 95, 3) := by decide +kernel
theorem dX11_stand_36 : decode cX11_stand 36 = .ok (.dup, 1) := by decide +kernel
theorem dX11_stand_37 : decode cX11_stand 37 = .ok (.invokespecial 97, 3) := by decide +kernel
theorem dX11_stand_40 : decode cX11_stand 40 = .ok (.athrow, 1) := by decide +kernel
theorem dX11_stand_41 : decode cX11_stand 41 = .ok (.aload_n 0, 1) := by decide +kernel
theorem dX11_stand_42 : decode cX11_stand 42 = .ok (.getfield 10, 3) := by decide +kernel
theorem dX11_stand_45 : decode cX11_stand 45 = .ok (.getfield 245, 3) := by decide +kernel
theorem dX11_stand_48 : decode cX11_stand 48 = .ok (.iload_n 2, 1) := by decide +kernel
theorem dX11_stand_49 : decode cX11_stand 49 = .ok (.invokevirtual 202, 3) := by decide +kernel
theorem dX11_stand_52 : decode cX11_stand 52 = .ok (.checkcast 248, 3) := by decide +kernel
theorem dX11_stand_55 : decode cX11_stand 55 = .ok (.astore 4, 2) := by decide +kernel
theorem dX11_stand_57 : decode cX11_stand 57 = .ok (.aload 4, 2) := by decide +kernel
theorem dX11_stand_59 : decode cX11_stand 59 = .ok (.aload_n 3, 1) := by decide +kernel
theorem dX11_stand_60 : decode cX11_stand 60 = .ok (.aload_n 0, 1) := by decide +kernel
theorem dX11_stand_61 : decode cX11_stand 61 = .ok (.getfield 10, 3) := by decide +kernel
theorem dX11_stand_64 : decode cX11_stand 64 = .ok (.invokevirtual 250, 3) := by decide +kernel
theorem dX11_stand_67 : decode cX11_stand 67 = .ok (.ifCond .eq 12, 3) := by decide +kernel
theorem dX11_stand_70 : decode cX11_stand 70 = .ok (.aload 4, 2) := by decide +kernel
theorem dX11_stand_72 : decode cX11_stand 72 = .ok (.aload_n 3, 1) := by decide +kernel
theorem dX11_stand_73 : decode cX11_stand 73 = .ok (.invokevirtual 254, 3) := by decide +kernel
theorem dX11_stand_76 : decode cX11_stand 76 = .ok (.ifCond .eq 11, 3) := by decide +kernel
theorem dX11_stand_79 : decode cX11_stand 79 = .ok (.new 82, 3) := by decide +kernel
theorem dX11_stand_82 : decode cX11_stand 82 = .ok (.dup, 1) := by decide +kernel
theorem dX11_stand_83 : decode cX11_stand 83 = .ok (.invokespecial 84, 3) := by decide +kernel
theorem dX11_stand_86 : decode cX11_stand 86 = .ok (.athrow, 1) := by decide +kernel
theorem dX11_stand_87 : decode cX11_stand 87 = .ok (.aload 4, 2) := by decide +kernel
theorem dX11_stand_89 : decode cX11_stand 89 = .ok (.getfield 257, 3) := by decide +kernel
theorem dX11_stand_92 : decode cX11_stand 92 = .ok (.invokevirtual 76, 3) := by decide +kernel
theorem dX11_stand_95 : decode cX11_stand 95 = .ok (.bipush 6, 2) := by decide +kernel
theorem dX11_stand_97 : decode cX11_stand 97 = .ok (.if_icmp .ge 11, 3) := by decide +kernel
theorem dX11_stand_100 : decode cX11_stand 100 = .ok (.aload 4, 2) := by decide +kernel
theorem dX11_stand_102 : decode cX11_stand 102 = .ok (.getfield 260, 3) := by decide +kernel
theorem dX11_stand_105 : decode cX11_stand 105 = .ok (.ifnull 11, 3) := by decide +kernel
theorem dX11_stand_108 : decode cX11_stand 108 = .ok (.new 82, 3) := by decide +kernel
theorem dX11_stand_111 : decode cX11_stand 111 = .ok (.dup, 1) := by decide +kernel
theorem dX11_stand_112 : decode cX11_stand 112 = .ok (.invokespecial 84, 3) := by decide +kernel
theorem dX11_stand_115 : decode cX11_stand 115 = .ok (.athrow, 1) := by decide +kernel
theorem dX11_stand_116 : decode cX11_stand 116 = .ok (.aload 4, 2) := by decide +kernel
theorem dX11_stand_118 : decode cX11_stand 118 = .ok (.getfield 257, 3) := by decide +kernel
theorem dX11_stand_121 : decode cX11_stand 121 = .ok (.aload_n 3, 1) := by decide +kernel
theorem dX11_stand_122 : decode cX11_stand 122 = .ok (.invokevirtual 198, 3) := by decide +kernel
theorem dX11_stand_125 : decode cX11_stand 125 = .ok (.pop, 1) := by decide +kernel
theorem dX11_stand_126 : decode cX11_stand 126 = .ok (.aload 4, 2) := by decide +kernel
theorem dX11_stand_128 : decode cX11_stand 128 = .ok (.getfield 257, 3) := by decide +kernel
theorem dX11_stand_131 : decode cX11_stand 131 = .ok (.invokevirtual 76, 3) := by decide +kernel
theorem dX11_stand_134 : decode cX11_stand 134 = .ok (.ireturn, 1) := by decide +kernel
theorem dX11_fill_0 : decode cX11_fill 0 = .ok (.iload_n 1, 1) := by decide +kernel
theorem dX11_fill_1 : decode cX11_fill 1 = .ok (.iconst 0, 1) := by decide +kernel
theorem dX11_fill_2 : decode cX11_fill 2 = .ok (.aload_n 0, 1) := by decide +kernel
theorem dX11_fill_3 : decode cX11_fill 3 = .ok (.getfield 10, 3) := by decide +kernel
theorem dX11_fill_6 : decode cX11_fill 6 = .ok (.getfield 245, 3) := by decide +kernel
theorem dX11_fill_9 : decode cX11_fill 9 = .ok (.invokevirtual 76, 3) := by decide +kernel
theorem dX11_fill_12 : decode cX11_fill 12 = .ok (.iconst 1, 1) := by decide +kernel
theorem dX11_fill_13 : decode cX11_fill 13 = .ok (.isub, 1) := by decide +kernel
theorem dX11_fill_14 : decode cX11_fill 14 = .ok (.invokestatic 61, 3) := by decide +kernel
theorem dX11_fill_17 : decode cX11_fill 17 = .ok (.ifCond .ne 11, 3) := by decide +kernel
theorem dX11_fill_20 : decode cX11_fill 20 = .ok (.new 95, 3) := by decide +kernel
theorem dX11_fill_23 : decode cX11_fill 23 = .ok (.dup, 1) := by decide +kernel
theorem dX11_fill_24 : decode cX11_fill 24 = .ok (.invokespecial 97, 3) := by decide +kernel
theorem dX11_fill_27 : decode cX11_fill 27 = .ok (.athrow, 1) := by decide +kernel
theorem dX11_fill_28 : decode cX11_fill 28 = .ok (.aload_n 0, 1) := by decide +kernel
theorem dX11_fill_29 : decode cX11_fill 29 = .ok (.getfield 10, 3) := by decide +kernel
theorem dX11_fill_32 : decode cX11_fill 32 = .ok (.getfield 245, 3) := by decide +kernel
theorem dX11_fill_35 : decode cX11_fill 35 = .ok (.iload_n 1, 1) := by decide +kernel
theorem dX11_fill_36 : decode cX11_fill 36 = .ok (.invokevirtual 202, 3) := by decide +kernel
theorem dX11_fill_39 : decode cX11_fill 39 = .ok (.checkcast 248, 3) := by decide +kernel
theorem dX11_fill_42 : decode cX11_fill 42 = .ok (.astore_n 2, 1) := by decide +kernel
theorem dX11_fill_43 : decode cX11_fill 43 = .ok (.aload_n 2, 1) := by decide +kernel
theorem dX11_fill_44 : decode cX11_fill 44 = .ok (.getfield 260, 3) := by decide +kernel
theorem dX11_fill_47 : decode cX11_fill 47 = .ok (.ifnonnull 13, 3) := by decide +kernel
theorem dX11_fill_50 : decode cX11_fill 50 = .ok (.aload_n 0, 1) := by decide +kernel
theorem dX11_fill_51 : decode cX11_fill 51 = .ok (.getfield 10, 3) := by decide +kernel
theorem dX11_fill_54 : decode cX11_fill 54 = .ok (.getfield 109, 3) := by decide +kernel
theorem dX11_fill_57 : decode cX11_fill 57 = .ok (.ifCond .ne 11, 3) := by decide +kernel
theorem dX11_fill_60 : decode cX11_fill 60 = .ok (.new 82, 3) := by decide +kernel
theorem dX11_fill_63 : decode cX11_fill 63 = .ok (.dup, 1) := by decide +kernel
theorem dX11_fill_64 : decode cX11_fill 64 = .ok (.invokespecial 84, 3) := by decide +kernel
theorem dX11_fill_67 : decode cX11_fill 67 = .ok (.athrow, 1) := by decide +kernel
theorem dX11_fill_68 : decode cX11_fill 68 = .ok (.aload_n 2, 1) := by decide +kernel
theorem dX11_fill_69 : decode cX11_fill 69 = .ok (.aload_n 0, 1) := by decide +kernel
theorem dX11_fill_70 : decode cX11_fill 70 = .ok (.getfield 10, 3) := by decide +kernel
theorem dX11_fill_73 : decode cX11_fill 73 = .ok (.invokevirtual 263, 3) := by decide +kernel
theorem dX11_fill_76 : decode cX11_fill 76 = .ok (.aload_n 2, 1) := by decide +kernel
theorem dX11_fill_77 : decode cX11_fill 77 = .ok (.getfield 260, 3) := by decide +kernel
theorem dX11_fill_80 : decode cX11_fill 80 = .ok (.invokestatic 175, 3) := by decide +kernel
theorem dX11_fill_83 : decode cX11_fill 83 = .ok (.ireturn, 1) := by decide +kernel
theorem dX11_ofOffice_0 : decode cX11_ofOffice 0 = .ok (.iload_n 1, 1) := by decide +kernel
theorem dX11_ofOffice_1 : decode cX11_ofOffice 1 = .ok (.iconst 0, 1) := by decide +kernel
theorem dX11_ofOffice_2 : decode cX11_ofOffice 2 = .ok (.aload_n 0, 1) := by decide +kernel
theorem dX11_ofOffice_3 : decode cX11_ofOffice 3 = .ok (.getfield 10, 3) := by decide +kernel
theorem dX11_ofOffice_6 : decode cX11_ofOffice 6 = .ok (.getfield 245, 3) := by decide +kernel
theorem dX11_ofOffice_9 : decode cX11_ofOffice 9 = .ok (.invokevirtual 76, 3) := by decide +kernel
theorem dX11_ofOffice_12 : decode cX11_ofOffice 12 = .ok (.iconst 1, 1) := by decide +kernel
theorem dX11_ofOffice_13 : decode cX11_ofOffice 13 = .ok (.isub, 1) := by decide +kernel
theorem dX11_ofOffice_14 : decode cX11_ofOffice 14 = .ok (.invokestatic 61, 3) := by decide +kernel
theorem dX11_ofOffice_17 : decode cX11_ofOffice 17 = .ok (.ifCond .ne 11, 3) := by decide +kernel
theorem dX11_ofOffice_20 : decode cX11_ofOffice 20 = .ok (.new 95, 3) := by decide +kernel
theorem dX11_ofOffice_23 : decode cX11_ofOffice 23 = .ok (.dup, 1) := by decide +kernel
theorem dX11_ofOffice_24 : decode cX11_ofOffice 24 = .ok (.invokespecial 97, 3) := by decide +kernel
theorem dX11_ofOffice_27 : decode cX11_ofOffice 27 = .ok (.athrow, 1) := by decide +kernel
theorem dX11_ofOffice_28 : decode cX11_ofOffice 28 = .ok (.aload_n 0, 1) := by decide +kernel
theorem dX11_ofOffice_29 : decode cX11_ofOffice 29 = .ok (.getfield 10, 3) := by decide +kernel
theorem dX11_ofOffice_32 : decode cX11_ofOffice 32 = .ok (.getfield 245, 3) := by decide +kernel
theorem dX11_ofOffice_35 : decode cX11_ofOffice 35 = .ok (.iload_n 1, 1) := by decide +kernel
theorem dX11_ofOffice_36 : decode cX11_ofOffice 36 = .ok (.invokevirtual 202, 3) := by decide +kernel
theorem dX11_ofOffice_39 : decode cX11_ofOffice 39 = .ok (.checkcast 248, 3) := by decide +kernel
theorem dX11_ofOffice_42 : decode cX11_ofOffice 42 = .ok (.astore_n 3, 1) := by decide +kernel
theorem dX11_ofOffice_43 : decode cX11_ofOffice 43 = .ok (.iload_n 2, 1) := by decide +kernel
theorem dX11_ofOffice_44 : decode cX11_ofOffice 44 = .ok (.tableswitch 73 0 3 #[32, 40, 48, 64], 32) := by decide +kernel
theorem dX11_ofOffice_76 : decode cX11_ofOffice 76 = .ok (.aload_n 3, 1) := by decide +kernel
theorem dX11_ofOffice_77 : decode cX11_ofOffice 77 = .ok (.getfield 260, 3) := by decide +kernel
theorem dX11_ofOffice_80 : decode cX11_ofOffice 80 = .ok (.invokestatic 175, 3) := by decide +kernel
theorem dX11_ofOffice_83 : decode cX11_ofOffice 83 = .ok (.ireturn, 1) := by decide +kernel
theorem dX11_ofOffice_84 : decode cX11_ofOffice 84 = .ok (.aload_n 3, 1) := by decide +kernel
theorem dX11_ofOffice_85 : decode cX11_ofOffice 85 = .ok (.getfield 257, 3) := by decide +kernel
theorem dX11_ofOffice_88 : decode cX11_ofOffice 88 = .ok (.invokevirtual 76, 3) := by decide +kernel
theorem dX11_ofOffice_91 : decode cX11_ofOffice 91 = .ok (.ireturn, 1) := by decide +kernel
theorem dX11_ofOffice_92 : decode cX11_ofOffice 92 = .ok (.aload_n 3, 1) := by decide +kernel
theorem dX11_ofOffice_93 : decode cX11_ofOffice 93 = .ok (.getfield 260, 3) := by decide +kernel
theorem dX11_ofOffice_96 : decode cX11_ofOffice 96 = .ok (.ifnonnull 7, 3) := by decide +kernel
theorem dX11_ofOffice_99 : decode cX11_ofOffice 99 = .ok (.iconst (-1), 1) := by decide +kernel
theorem dX11_ofOffice_100 : decode cX11_ofOffice 100 = .ok (.goto 7, 3) := by decide +kernel
theorem dX11_ofOffice_103 : decode cX11_ofOffice 103 = .ok (.aload_n 3, 1) := by decide +kernel
theorem dX11_ofOffice_104 : decode cX11_ofOffice 104 = .ok (.getfield 266, 3) := by decide +kernel
theorem dX11_ofOffice_107 : decode cX11_ofOffice 107 = .ok (.ireturn, 1) := by decide +kernel
theorem dX11_ofOffice_108 : decode cX11_ofOffice 108 = .ok (.aload_n 3, 1) := by decide +kernel
theorem dX11_ofOffice_109 : decode cX11_ofOffice 109 = .ok (.aload_n 0, 1) := by decide +kernel
theorem dX11_ofOffice_110 : decode cX11_ofOffice 110 = .ok (.getfield 10, 3) := by decide +kernel
theorem dX11_ofOffice_113 : decode cX11_ofOffice 113 = .ok (.invokevirtual 269, 3) := by decide +kernel
theorem dX11_ofOffice_116 : decode cX11_ofOffice 116 = .ok (.ireturn, 1) := by decide +kernel
theorem dX11_ofOffice_117 : decode cX11_ofOffice 117 = .ok (.new 65, 3) := by decide +kernel
theorem dX11_ofOffice_120 : decode cX11_ofOffice 120 = .ok (.dup, 1) := by decide +kernel
theorem dX11_ofOffice_121 : decode cX11_ofOffice 121 = .ok (.invokespecial 67, 3) := by decide +kernel
theorem dX11_ofOffice_124 : decode cX11_ofOffice 124 = .ok (.athrow, 1) := by decide +kernel
theorem dX11_sue_0 : decode cX11_sue 0 = .ok (.aload_n 0, 1) := by decide +kernel
theorem dX11_sue_1 : decode cX11_sue 1 = .ok (.getfield 10, 3) := by decide +kernel
theorem dX11_sue_4 : decode cX11_sue 4 = .ok (.iload_n 1, 1) := by decide +kernel
theorem dX11_sue_5 : decode cX11_sue 5 = .ok (.invokevirtual 102, 3) := by decide +kernel
theorem dX11_sue_8 : decode cX11_sue 8 = .ok (.astore 6, 2) := by decide +kernel
theorem dX11_sue_10 : decode cX11_sue 10 = .ok (.aload_n 0, 1) := by decide +kernel
theorem dX11_sue_11 : decode cX11_sue 11 = .ok (.getfield 10, 3) := by decide +kernel
theorem dX11_sue_14 : decode cX11_sue 14 = .ok (.iload_n 2, 1) := by decide +kernel
theorem dX11_sue_15 : decode cX11_sue 15 = .ok (.invokevirtual 102, 3) := by decide +kernel
theorem dX11_sue_18 : decode cX11_sue 18 = .ok (.astore 7, 2) := by decide +kernel
theorem dX11_sue_20 : decode cX11_sue 20 = .ok (.aload 6, 2) := by decide +kernel
theorem dX11_sue_22 : decode cX11_sue 22 = .ok (.ifnull 8, 3) := by decide +kernel
theorem dX11_sue_25 : decode cX11_sue 25 = .ok (.aload 7, 2) := by decide +kernel
theorem dX11_sue_27 : decode cX11_sue 27 = .ok (.ifnonnull 11, 3) := by decide +kernel
theorem dX11_sue_30 : decode cX11_sue 30 = .ok (.new 95, 3) := by decide +kernel
theorem dX11_sue_33 : decode cX11_sue 33 = .ok (.dup, 1) := by decide +kernel
theorem dX11_sue_34 : decode cX11_sue 34 = .ok (.invokespecial 97, 3) := by decide +kernel
theorem dX11_sue_37 : decode cX11_sue 37 = .ok (.athrow, 1) := by decide +kernel
theorem dX11_sue_38 : decode cX11_sue 38 = .ok (.iload_n 3, 1) := by decide +kernel
theorem dX11_sue_39 : decode cX11_sue 39 = .ok (.ifCond .eq 13, 3) := by decide +kernel
theorem dX11_sue_42 : decode cX11_sue 42 = .ok (.iload_n 3, 1) := by decide +kernel
theorem dX11_sue_43 : decode cX11_sue 43 = .ok (.iconst 1, 1) := by decide +kernel
theorem dX11_sue_44 : decode cX11_sue 44 = .ok (.if_icmp .eq 8, 3) := by decide +kernel
theorem dX11_sue_47 : decode cX11_sue 47 = .ok (.iload_n 3, 1) := by decide +kernel
theorem dX11_sue_48 : decode cX11_sue 48 = .ok (.iconst 3, 1) := by decide +kernel
theorem dX11_sue_49 : decode cX11_sue 49 = .ok (.if_icmp .ne 7, 3) := by decide +kernel
theorem dX11_sue_52 : decode cX11_sue 52 = .ok (.iconst 1, 1) := by decide +kernel
theorem dX11_sue_53 : decode cX11_sue 53 = .ok (.goto 4, 3) := by decide +kernel
theorem dX11_sue_56 : decode cX11_sue 56 = .ok (.iconst 0, 1) := by decide +kernel
theorem dX11_sue_57 : decode cX11_sue 57 = .ok (.istore 8, 2) := by decide +kernel
theorem dX11_sue_59 : decode cX11_sue 59 = .ok (.aload 6, 2) := by decide +kernel
theorem dX11_sue_61 : decode cX11_sue 61 = .ok (.aload 7, 2) := by decide +kernel
theorem dX11_sue_63 : decode cX11_sue 63 = .ok (.if_acmp .eq 28, 3) := by decide +kernel
theorem dX11_sue_66 : decode cX11_sue 66 = .ok (.iload 8, 2) := by decide +kernel
theorem dX11_sue_68 : decode cX11_sue 68 = .ok (.ifCond .eq 23, 3) := by decide +kernel
theorem dX11_sue_71 : decode cX11_sue 71 = .ok (.iload 4, 2) := by decide +kernel
theorem dX11_sue_73 : decode cX11_sue 73 = .ok (.iconst 1, 1) := by decide +kernel
theorem dX11_sue_74 : decode cX11_sue 74 = .ok (.sipush 200, 3) := by decide +kernel
theorem dX11_sue_77 : decode cX11_sue 77 = .ok (.invokestatic 61, 3) := by decide +kernel
theorem dX11_sue_80 : decode cX11_sue 80 = .ok (.ifCond .eq 11, 3) := by decide +kernel
theorem dX11_sue_83 : decode cX11_sue 83 = .ok (.iload 5, 2) := by decide +kernel
theorem dX11_sue_85 : decode cX11_sue 85 = .ok (.invokestatic 68, 3) := by decide +kernel
theorem dX11_sue_88 : decode cX11_sue 88 = .ok (.ifCond .ne 11, 3) := by decide +kernel
theorem dX11_sue_91 : decode cX11_sue 91 = .ok (.new 65, 3) := by decide +kernel
theorem dX11_sue_94 : decode cX11_sue 94 = .ok (.dup, 1) := by decide +kernel
theorem dX11_sue_95 : decode cX11_sue 95 = .ok (.invokespecial 67, 3) := by decide +kernel
theorem dX11_sue_98 : decode cX11_sue 98 = .ok (.athrow, 1) := by decide +kernel
theorem dX11_sue_99 : decode cX11_sue 99 = .ok (.aload_n 0, 1) := by decide +kernel
theorem dX11_sue_100 : decode cX11_sue 100 = .ok (.getfield 10, 3) := by decide +kernel
theorem dX11_sue_103 : decode cX11_sue 103 = .ok (.aload 6, 2) := by decide +kernel
theorem dX11_sue_105 : decode cX11_sue 105 = .ok (.invokevirtual 186, 3) := by decide +kernel
theorem dX11_sue_108 : decode cX11_sue 108 = .ok (.ifCond .eq 26, 3) := by decide +kernel
theorem dX11_sue_111 : decode cX11_sue 111 = .ok (.aload 7, 2) := by decide +kernel
theorem dX11_sue_113 : decode cX11_sue 113 = .ok (.invokevirtual 275, 3) := by decide +kernel
theorem dX11_sue_116 : decode cX11_sue 116 = .ok (.ifCond .ne 18, 3) := by decide +kernel
theorem dX11_sue_119 : decode cX11_sue 119 = .ok (.aload_n 0, 1) := by decide +kernel
theorem dX11_sue_120 : decode cX11_sue 120 = .ok (.getfield 28, 3) := by decide +kernel
theorem dX11_sue_123 : decode cX11_sue 123 = .ok (.getfield 279, 3) := by decide +kernel
theorem dX11_sue_126 : decode cX11_sue 126 = .ok (.invokevirtual 76, 3) := by decide +kernel
theorem dX11_sue_129 : decode cX11_sue 129 = .ok (.bipush 8, 2) := by decide +kernel
theorem dX11_sue_131 : decode cX11_sue 131 = .ok (.if_icmp .lt 11, 3) := by decide +kernel
theorem dX11_sue_134 : decode cX11_sue 134 = .ok (.new 82, 3) := by decide +kernel
theorem dX11_sue_137 : decode cX11_sue 137 = .ok (.dup, 1) := by decide +kernel
theorem dX11_sue_138 : decode cX11_sue 138 = .ok (.invokespecial 84, 3) := by decide +kernel
theorem dX11_sue_141 : decode cX11_sue 141 = .ok (.athrow, 1) := by decide +kernel
theorem dX11_sue_142 : decode cX11_sue 142 = .ok (.iload_n 3, 1) := by decide +kernel
theorem dX11_sue_143 : decode cX11_sue 143 = .ok (.iconst 3, 1) := by decide +kernel
theorem dX11_sue_144 : decode cX11_sue 144 = .ok (.if_icmp .ne 26, 3) := by decide +kernel
theorem dX11_sue_147 : decode cX11_sue 147 = .ok (.aload 7, 2) := by decide +kernel
theorem dX11_sue_149 : decode cX11_sue 149 = .ok (.getfield 282, 3) := by decide +kernel
theorem dX11_sue_152 : decode cX11_sue 152 = .ok (.aload_n 0, 1) := by decide +kernel
theorem dX11_sue_153 : decode cX11_sue 153 = .ok (.getfield 10, 3) := by decide +kernel
theorem dX11_sue_156 : decode cX11_sue 156 = .ok (.getfield 216, 3) := by decide +kernel
theorem dX11_sue_159 : decode cX11_sue 159 = .ok (.if_icmp .ge 11, 3) := by decide +kernel
theorem dX11_sue_162 : decode cX11_sue 162 = .ok (.new 82, 3) := by decide +kernel
theorem dX11_sue_165 : decode cX11_sue 165 = .ok (.dup, 1) := by decide +kernel
theorem dX11_sue_166 : decode cX11_sue 166 = .ok (.invokespecial 84, 3) := by decide +kernel
theorem dX11_sue_169 : decode cX11_sue 169 = .ok (.athrow, 1) := by decide +kernel
theorem dX11_sue_170 : decode cX11_sue 170 = .ok (.iload_n 3, 1) := by decide +kernel
theorem dX11_sue_171 : decode cX11_sue 171 = .ok (.iconst 1, 1) := by decide +kernel
theorem dX11_sue_172 : decode cX11_sue 172 = .ok (.if_icmp .ne 21, 3) := by decide +kernel
theorem dX11_sue_175 : decode cX11_sue 175 = .ok (.aload_n 0, 1) := by decide +kernel
theorem dX11_sue_176 : decode cX11_sue 176 = .ok (.getfield 53, 3) := by decide +kernel
theorem dX11_sue_179 : decode cX11_sue 179 = .ok (.invokevirtual 285, 3) := by decide +kernel
theorem dX11_sue_182 : decode cX11_sue 182 = .ok (.ifCond .eq 11, 3) := by decide +kernel
theorem dX11_sue_185 : decode cX11_sue 185 = .ok (.new 82, 3) := by decide +kernel
theorem dX11_sue_188 : decode cX11_sue 188 = .ok (.dup, 1) := by decide +kernel
theorem dX11_sue_189 : decode cX11_sue 189 = .ok (.invokespecial 84, 3) := by decide +kernel
theorem dX11_sue_192 : decode cX11_sue 192 = .ok (.athrow, 1) := by decide +kernel
theorem dX11_sue_193 : decode cX11_sue 193 = .ok (.aload_n 0, 1) := by decide +kernel
theorem dX11_sue_194 : decode cX11_sue 194 = .ok (.getfield 28, 3) := by decide +kernel
theorem dX11_sue_197 : decode cX11_sue 197 = .ok (.new 273, 3) := by decide +kernel
theorem dX11_sue_200 : decode cX11_sue 200 = .ok (.dup, 1) := by decide +kernel
theorem dX11_sue_201 : decode cX11_sue 201 = .ok (.aload 6, 2) := by decide +kernel
theorem dX11_sue_203 : decode cX11_sue 203 = .ok (.aload 7, 2) := by decide +kernel
theorem dX11_sue_205 : decode cX11_sue 205 = .ok (.iload_n 3, 1) := by decide +kernel
theorem dX11_sue_206 : decode cX11_sue 206 = .ok (.iload 4, 2) := by decide +kernel
theorem dX11_sue_208 : decode cX11_sue 208 = .ok (.iload 5, 2) := by decide +kernel
theorem dX11_sue_210 : decode cX11_sue 210 = .ok (.aconst_null, 1) := by decide +kernel
theorem dX11_sue_211 : decode cX11_sue 211 = .ok (.invokespecial 288, 3) := by decide +kernel
theorem dX11_sue_214 : decode cX11_sue 214 = .ok (.invokevirtual 291, 3) := by decide +kernel
theorem dX11_sue_217 : decode cX11_sue 217 = .ok (.ireturn, 1) := by decide +kernel
theorem dX11_challenge_0 : decode cX11_challenge 0 = .ok (.aload_n 0, 1) := by decide +kernel
theorem dX11_challenge_1 : decode cX11_challenge 1 = .ok (.getfield 10, 3) := by decide +kernel
theorem dX11_challenge_4 : decode cX11_challenge 4 = .ok (.iload_n 1, 1) := by decide +kernel
theorem dX11_challenge_5 : decode cX11_challenge 5 = .ok (.invokevirtual 102, 3) := by decide +kernel
theorem dX11_challenge_8 : decode cX11_challenge 8 = .ok (.astore 4, 2) := by decide +kernel
theorem dX11_challenge_10 : decode cX11_challenge 10 = .ok (.aload 4, 2) := by decide +kernel
theorem dX11_challenge_12 : decode cX11_challenge 12 = .ok (.ifnull 23, 3) := by decide +kernel
theorem dX11_challenge_15 : decode cX11_challenge 15 = .ok (.iload_n 2, 1) := by decide +kernel
theorem dX11_challenge_16 : decode cX11_challenge 16 = .ok (.iconst 0, 1) := by decide +kernel
theorem dX11_challenge_17 : decode cX11_challenge 17 = .ok (.aload_n 0, 1) := by decide +kernel
theorem dX11_challenge_18 : decode cX11_challenge 18 = .ok (.getfield 37, 3) := by decide +kernel
theorem dX11_challenge_21 : decode cX11_challenge 21 = .ok (.getfield 222, 3) := by decide +kernel
theorem dX11_challenge_24 : decode cX11_challenge 24 = .ok (.invokevirtual 76, 3) := by decide +kernel
theorem dX11_challenge_27 : decode cX11_challenge 27 = .ok (.iconst 1, 1) := by decide +kernel
theorem dX11_challenge_28 : decode cX11_challenge 28 = .ok (.isub, 1) := by decide +kernel
theorem dX11_challenge_29 : decode cX11_challenge 29 = .ok (.invokestatic 61, 3) := by decide +kernel
theorem dX11_challenge_32 : decode cX11_challenge 32 = .ok (.ifCond .ne 11, 3) := by decide +kernel
theorem dX11_challenge_35 : decode cX11_challenge 35 = .ok (.new 95, 3) := by decide +kernel
theorem dX11_challenge_38 : decode cX11_challenge 38 = .ok (.dup, 1) := by decide +kernel
theorem dX11_challenge_39 : decode cX11_challenge 39 = .ok (.invokespecial 97, 3) := by decide +kernel
theorem dX11_challenge_42 : decode cX11_challenge 42 = .ok (.athrow, 1) := by decide +kernel
theorem dX11_challenge_43 : decode cX11_challenge 43 = .ok (.aload_n 0, 1) := by decide +kernel
theorem dX11_challenge_44 : decode cX11_challenge 44 = .ok (.getfield 37, 3) := by decide +kernel
theorem dX11_challenge_47 : decode cX11_challenge 47 = .ok (.getfield 222, 3) := by decide +kernel
theorem dX11_challenge_50 : decode cX11_challenge 50 = .ok (.iload_n 2, 1) := by decide +kernel
theorem dX11_challenge_51 : decode cX11_challenge 51 = .ok (.invokevirtual 202, 3) := by decide +kernel
theorem dX11_challenge_54 : decode cX11_challenge 54 = .ok (.checkcast 184, 3) := by decide +kernel
theorem dX11_challenge_57 : decode cX11_challenge 57 = .ok (.astore 5, 2) := by decide +kernel
theorem dX11_challenge_59 : decode cX11_challenge 59 = .ok (.aload 4, 2) := by decide +kernel
theorem dX11_challenge_61 : decode cX11_challenge 61 = .ok (.aload 5, 2) := by decide +kernel
theorem dX11_challenge_63 : decode cX11_challenge 63 = .ok (.getfield 225, 3) := by decide +kernel
theorem dX11_challenge_66 : decode cX11_challenge 66 = .ok (.if_acmp .eq 14, 3) := by decide +kernel
theorem dX11_challenge_69 : decode cX11_challenge 69 = .ok (.iload_n 3, 1) := by decide +kernel
theorem dX11_challenge_70 : decode cX11_challenge 70 = .ok (.iconst 1, 1) := by decide +kernel
theorem dX11_challenge_71 : decode cX11_challenge 71 = .ok (.sipush 200, 3) := by decide +kernel
theorem dX11_challenge_74 : decode cX11_challenge 74 = .ok (.invokestatic 61, 3) := by decide +kernel
theorem dX11_challenge_77 : decode cX11_challenge 77 = .ok (.ifCond .ne 11, 3) := by decide +kernel
theorem dX11_challenge_80 : decode cX11_challenge 80 = .ok (.new 65, 3) := by decide +kernel
theorem dX11_challenge_83 : decode cX11_challenge 83 = .ok (.dup, 1) := by decide +kernel
theorem dX11_challenge_84 : decode cX11_challenge 84 = .ok (.invokespecial 67, 3) := by decide +kernel
theorem dX11_challenge_87 : decode cX11_challenge 87 = .ok (.athrow, 1) := by decide +kernel
theorem dX11_challenge_88 : decode cX11_challenge 88 = .ok (.aload_n 0, 1) := by decide +kernel
theorem dX11_challenge_89 : decode cX11_challenge 89 = .ok (.getfield 10, 3) := by decide +kernel
theorem dX11_challenge_92 : decode cX11_challenge 92 = .ok (.aload 4, 2) := by decide +kernel
theorem dX11_challenge_94 : decode cX11_challenge 94 = .ok (.invokevirtual 186, 3) := by decide +kernel
theorem dX11_challenge_97 : decode cX11_challenge 97 = .ok (.ifCond .eq 29, 3) := by decide +kernel
theorem dX11_challenge_100 : decode cX11_challenge 100 = .ok (.aload_n 0, 1) := by decide +kernel
theorem dX11_challenge_101 : decode cX11_challenge 101 = .ok (.getfield 10, 3) := by decide +kernel
theorem dX11_challenge_104 : decode cX11_challenge 104 = .ok (.getfield 216, 3) := by decide +kernel
theorem dX11_challenge_107 : decode cX11_challenge 107 = .ok (.aload 5, 2) := by decide +kernel
theorem dX11_challenge_109 : decode cX11_challenge 109 = .ok (.getfield 234, 3) := by decide +kernel
theorem dX11_challenge_112 : decode cX11_challenge 112 = .ok (.isub, 1) := by decide +kernel
theorem dX11_challenge_113 : decode cX11_challenge 113 = .ok (.bipush 40, 2) := by decide +kernel
theorem dX11_challenge_115 : decode cX11_challenge 115 = .ok (.if_icmp .gt 11, 3) := by decide +kernel
theorem dX11_challenge_118 : decode cX11_challenge 118 = .ok (.aload 5, 2) := by decide +kernel
theorem dX11_challenge_120 : decode cX11_challenge 120 = .ok (.getfield 295, 3) := by decide +kernel
theorem dX11_challenge_123 : decode cX11_challenge 123 = .ok (.ifCond .eq 11, 3) := by decide +kernel
theorem dX11_challenge_126 : decode cX11_challenge 126 = .ok (.new 82, 3) := by decide +kernel
theorem dX11_challenge_129 : decode cX11_challenge 129 = .ok (.dup, 1) := by decide +kernel
theorem dX11_challenge_130 : decode cX11_challenge 130 = .ok (.invokespecial 84, 3) := by decide +kernel
theorem dX11_challenge_133 : decode cX11_challenge 133 = .ok (.athrow, 1) := by decide +kernel
theorem dX11_challenge_134 : decode cX11_challenge 134 = .ok (.aload 5, 2) := by decide +kernel
theorem dX11_challenge_136 : decode cX11_challenge 136 = .ok (.getfield 225, 3) := by decide +kernel
theorem dX11_challenge_139 : decode cX11_challenge 139 = .ok (.invokevirtual 275, 3) := by decide +kernel
theorem dX11_challenge_142 : decode cX11_challenge 142 = .ok (.ifCond .ne 18, 3) := by decide +kernel
theorem dX11_challenge_145 : decode cX11_challenge 145 = .ok (.aload_n 0, 1) := by decide +kernel
theorem dX11_challenge_146 : decode cX11_challenge 146 = .ok (.getfield 28, 3) := by decide +kernel
theorem dX11_challenge_149 : decode cX11_challenge 149 = .ok (.getfield 279, 3) := by decide +kernel
theorem dX11_challenge_152 : decode cX11_challenge 152 = .ok (.invokevirtual 76, 3) := by decide +kernel
theorem dX11_challenge_155 : decode cX11_challenge 155 = .ok (.bipush 8, 2) := by decide +kernel
theorem dX11_challenge_157 : decode cX11_challenge 157 = .ok (.if_icmp .lt 11, 3) := by decide +kernel
theorem dX11_challenge_160 : decode cX11_challenge 160 = .ok (.new 82, 3) := by decide +kernel
theorem dX11_challenge_163 : decode cX11_challenge 163 = .ok (.dup, 1) := by decide +kernel
theorem dX11_challenge_164 : decode cX11_challenge 164 = .ok (.invokespecial 84, 3) := by decide +kernel
theorem dX11_challenge_167 : decode cX11_challenge 167 = .ok (.athrow, 1) := by decide +kernel
theorem dX11_challenge_168 : decode cX11_challenge 168 = .ok (.aload 5, 2) := by decide +kernel
theorem dX11_challenge_170 : decode cX11_challenge 170 = .ok (.getfield 234, 3) := by decide +kernel
theorem dX11_challenge_173 : decode cX11_challenge 173 = .ok (.aload_n 0, 1) := by decide +kernel
theorem dX11_challenge_174 : decode cX11_challenge 174 = .ok (.getfield 53, 3) := by decide +kernel
theorem dX11_challenge_177 : decode cX11_challenge 177 = .ok (.getfield 298, 3) := by decide +kernel
theorem dX11_challenge_180 : decode cX11_challenge 180 = .ok (.if_icmp .gt 11, 3) := by decide +kernel
theorem dX11_challenge_183 : decode cX11_challenge 183 = .ok (.new 82, 3) := by decide +kernel
theorem dX11_challenge_186 : decode cX11_challenge 186 = .ok (.dup, 1) := by decide +kernel
theorem dX11_challenge_187 : decode cX11_challenge 187 = .ok (.invokespecial 84, 3) := by decide +kernel
theorem dX11_challenge_190 : decode cX11_challenge 190 = .ok (.athrow, 1) := by decide +kernel
theorem dX11_challenge_191 : decode cX11_challenge 191 = .ok (.aload 5, 2) := by decide +kernel
theorem dX11_challenge_193 : decode cX11_challenge 193 = .ok (.iconst 1, 1) := by decide +kernel
theorem dX11_challenge_194 : decode cX11_challenge 194 = .ok (.putfield 295, 3) := by decide +kernel
theorem dX11_challenge_197 : decode cX11_challenge 197 = .ok (.aload_n 0, 1) := by decide +kernel
theorem dX11_challenge_198 : decode cX11_challenge 198 = .ok (.getfield 37, 3) := by decide +kernel
theorem dX11_challenge_201 : decode cX11_challenge 201 = .ok (.aload 5, 2) := by decide +kernel
theorem dX11_challenge_203 : decode cX11_challenge 203 = .ok (.invokevirtual 301, 3) := by decide +kernel
theorem dX11_challenge_206 : decode cX11_challenge 206 = .ok (.istore 6, 2) := by decide +kernel
theorem dX11_challenge_208 : decode cX11_challenge 208 = .ok (.aload_n 0, 1) := by decide +kernel
theorem dX11_challenge_209 : decode cX11_challenge 209 = .ok (.getfield 28, 3) := by decide +kernel
theorem dX11_challenge_212 : decode cX11_challenge 212 = .ok (.new 273, 3) := by decide +kernel
theorem dX11_challenge_215 : decode cX11_challenge 215 = .ok (.dup, 1) := by decide +kernel
theorem dX11_challenge_216 : decode cX11_challenge 216 = .ok (.aload 4, 2) := by decide +kernel
theorem dX11_challenge_218 : decode cX11_challenge 218 = .ok (.aload 5, 2) := by decide +kernel
theorem dX11_challenge_220 : decode cX11_challenge 220 = .ok (.getfield 225, 3) := by decide +kernel
theorem dX11_challenge_223 : decode cX11_challenge 223 = .ok (.iconst 2, 1) := by decide +kernel
theorem dX11_challenge_224 : decode cX11_challenge 224 = .ok (.iload_n 3, 1) := by decide +kernel
theorem dX11_challenge_225 : decode cX11_challenge 225 = .ok (.iload 6, 2) := by decide +kernel
theorem dX11_challenge_227 : decode cX11_challenge 227 = .ok (.aload 5, 2) := by decide +kernel
theorem dX11_challenge_229 : decode cX11_challenge 229 = .ok (.invokespecial 288, 3) := by decide +kernel
theorem dX11_challenge_232 : decode cX11_challenge 232 = .ok (.invokevirtual 291, 3) := by decide +kernel
theorem dX11_challenge_235 : decode cX11_challenge 235 = .ok (.ireturn, 1) := by decide +kernel
theorem dX11_court_0 : decode cX11_court 0 = .ok (.aload_n 0, 1) := by decide +kernel
theorem dX11_court_1 : decode cX11_court 1 = .ok (.getfield 28, 3) := by decide +kernel
theorem dX11_court_4 : decode cX11_court 4 = .ok (.getfield 310, 3) := by decide +kernel
theorem dX11_court_7 : decode cX11_court 7 = .ok (.aload_n 0, 1) := by decide +kernel
theorem dX11_court_8 : decode cX11_court 8 = .ok (.getfield 10, 3) := by decide +kernel
theorem dX11_court_11 : decode cX11_court 11 = .ok (.getfield 216, 3) := by decide +kernel
theorem dX11_court_14 : decode cX11_court 14 = .ok (.if_icmp .eq 13, 3) := by decide +kernel
theorem dX11_court_17 : decode cX11_court 17 = .ok (.aload_n 0, 1) := by decide +kernel
theorem dX11_court_18 : decode cX11_court 18 = .ok (.getfield 10, 3) := by decide +kernel
theorem dX11_court_21 : decode cX11_court 21 = .ok (.getfield 109, 3) := by decide +kernel
theorem dX11_court_24 : decode cX11_court 24 = .ok (.ifCond .ne 11, 3) := by decide +kernel
theorem dX11_court_27 : decode cX11_court 27 = .ok (.new 82, 3) := by decide +kernel
theorem dX11_court_30 : decode cX11_court 30 = .ok (.dup, 1) := by decide +kernel
theorem dX11_court_31 : decode cX11_court 31 = .ok (.invokespecial 84, 3) := by decide +kernel
theorem dX11_court_34 : decode cX11_court 34 = .ok (.athrow, 1) := by decide +kernel
theorem dX11_court_35 : decode cX11_court 35 = .ok (.aload_n 0, 1) := by decide +kernel
theorem dX11_court_36 : decode cX11_court 36 = .ok (.getfield 28, 3) := by decide +kernel
theorem dX11_court_39 : decode cX11_court 39 = .ok (.invokevirtual 311, 3) := by decide +kernel
theorem dX11_court_42 : decode cX11_court 42 = .ok (.ireturn, 1) := by decide +kernel
theorem dX11_ofSuit_0 : decode cX11_ofSuit 0 = .ok (.iload_n 1, 1) := by decide +kernel
theorem dX11_ofSuit_1 : decode cX11_ofSuit 1 = .ok (.iconst 0, 1) := by decide +kernel
theorem dX11_ofSuit_2 : decode cX11_ofSuit 2 = .ok (.aload_n 0, 1) := by decide +kernel
theorem dX11_ofSuit_3 : decode cX11_ofSuit 3 = .ok (.getfield 28, 3) := by decide +kernel
theorem dX11_ofSuit_6 : decode cX11_ofSuit 6 = .ok (.getfield 279, 3) := by decide +kernel
theorem dX11_ofSuit_9 : decode cX11_ofSuit 9 = .ok (.invokevirtual 76, 3) := by decide +kernel
theorem dX11_ofSuit_12 : decode cX11_ofSuit 12 = .ok (.iconst 1, 1) := by decide +kernel
theorem dX11_ofSuit_13 : decode cX11_ofSuit 13 = .ok (.isub, 1) := by decide +kernel
theorem dX11_ofSuit_14 : decode cX11_ofSuit 14 = .ok (.invokestatic 61, 3) := by decide +kernel
theorem dX11_ofSuit_17 : decode cX11_ofSuit 17 = .ok (.ifCond .ne 11, 3) := by decide +kernel
theorem dX11_ofSuit_20 : decode cX11_ofSuit 20 = .ok (.new 95, 3) := by decide +kernel
theorem dX11_ofSuit_23 : decode cX11_ofSuit 23 = .ok (.dup, 1) := by decide +kernel
theorem dX11_ofSuit_24 : decode cX11_ofSuit 24 = .ok (.invokespecial 97, 3) := by decide +kernel
theorem dX11_ofSuit_27 : decode cX11_ofSuit 27 = .ok (.athrow, 1) := by decide +kernel
theorem dX11_ofSuit_28 : decode cX11_ofSuit 28 = .ok (.aload_n 0, 1) := by decide +kernel
theorem dX11_ofSuit_29 : decode cX11_ofSuit 29 = .ok (.getfield 28, 3) := by decide +kernel
theorem dX11_ofSuit_32 : decode cX11_ofSuit 32 = .ok (.getfield 279, 3) := by decide +kernel
theorem dX11_ofSuit_35 : decode cX11_ofSuit 35 = .ok (.iload_n 1, 1) := by decide +kernel
theorem dX11_ofSuit_36 : decode cX11_ofSuit 36 = .ok (.invokevirtual 202, 3) := by decide +kernel
theorem dX11_ofSuit_39 : decode cX11_ofSuit 39 = .ok (.checkcast 273, 3) := by decide +kernel
theorem dX11_ofSuit_42 : decode cX11_ofSuit 42 = .ok (.astore_n 3, 1) := by decide +kernel
theorem dX11_ofSuit_43 : decode cX11_ofSuit 43 = .ok (.iload_n 2, 1) := by decide +kernel
theorem dX11_ofSuit_44 : decode cX11_ofSuit 44 = .ok (.tableswitch 88 0 6 #[44, 52, 60, 65, 70, 75, 80], 44) := by decide +kernel
theorem dX11_ofSuit_88 : decode cX11_ofSuit 88 = .ok (.aload_n 3, 1) := by decide +kernel
theorem dX11_ofSuit_89 : decode cX11_ofSuit 89 = .ok (.getfield 314, 3) := by decide +kernel
theorem dX11_ofSuit_92 : decode cX11_ofSuit 92 = .ok (.getfield 228, 3) := by decide +kernel
theorem dX11_ofSuit_95 : decode cX11_ofSuit 95 = .ok (.ireturn, 1) := by decide +kernel
theorem dX11_ofSuit_96 : decode cX11_ofSuit 96 = .ok (.aload_n 3, 1) := by decide +kernel
theorem dX11_ofSuit_97 : decode cX11_ofSuit 97 = .ok (.getfield 317, 3) := by decide +kernel
theorem dX11_ofSuit_100 : decode cX11_ofSuit 100 = .ok (.getfield 228, 3) := by decide +kernel
theorem dX11_ofSuit_103 : decode cX11_ofSuit 103 = .ok (.ireturn, 1) := by decide +kernel
theorem dX11_ofSuit_104 : decode cX11_ofSuit 104 = .ok (.aload_n 3, 1) := by decide +kernel
theorem dX11_ofSuit_105 : decode cX11_ofSuit 105 = .ok (.getfield 320, 3) := by decide +kernel
theorem dX11_ofSuit_108 : decode cX11_ofSuit 108 = .ok (.ireturn, 1) := by decide +kernel
theorem dX11_ofSuit_109 : decode cX11_ofSuit 109 = .ok (.aload_n 3, 1) := by decide +kernel
theorem dX11_ofSuit_110 : decode cX11_ofSuit 110 = .ok (.getfield 323, 3) := by decide +kernel
theorem dX11_ofSuit_113 : decode cX11_ofSuit 113 = .ok (.ireturn, 1) := by decide +kernel
theorem dX11_ofSuit_114 : decode cX11_ofSuit 114 = .ok (.aload_n 3, 1) := by decide +kernel
theorem dX11_ofSuit_115 : decode cX11_ofSuit 115 = .ok (.getfield 326, 3) := by decide +kernel
theorem dX11_ofSuit_118 : decode cX11_ofSuit 118 = .ok (.ireturn, 1) := by decide +kernel
theorem dX11_ofSuit_119 : decode cX11_ofSuit 119 = .ok (.aload_n 3, 1) := by decide +kernel
theorem dX11_ofSuit_120 : decode cX11_ofSuit 120 = .ok (.invokevirtual 329, 3) := by decide +kernel
theorem dX11_ofSuit_123 : decode cX11_ofSuit 123 = .ok (.ireturn, 1) := by decide +kernel
theorem dX11_ofSuit_124 : decode cX11_ofSuit 124 = .ok (.aload_n 3, 1) := by decide +kernel
theorem dX11_ofSuit_125 : decode cX11_ofSuit 125 = .ok (.getfield 332, 3) := by decide +kernel
theorem dX11_ofSuit_128 : decode cX11_ofSuit 128 = .ok (.invokestatic 154, 3) := by decide +kernel
theorem dX11_ofSuit_131 : decode cX11_ofSuit 131 = .ok (.ireturn, 1) := by decide +kernel
theorem dX11_ofSuit_132 : decode cX11_ofSuit 132 = .ok (.new 65, 3) := by decide +kernel
theorem dX11_ofSuit_135 : decode cX11_ofSuit 135 = .ok (.dup, 1) := by decide +kernel
theorem dX11_ofSuit_136 : decode cX11_ofSuit 136 = .ok (.invokespecial 67, 3) := by decide +kernel
theorem dX11_ofSuit_139 : decode cX11_ofSuit 139 = .ok (.athrow, 1) := by decide +kernel
theorem dX11_jury_0 : decode cX11_jury 0 = .ok (.iload_n 1, 1) := by decide +kernel
theorem dX11_jury_1 : decode cX11_jury 1 = .ok (.tableswitch 108 0 6 #[43, 54, 62, 73, 81, 89, 97], 43) := by decide +kernel
theorem dX11_jury_44 : decode cX11_jury 44 = .ok (.aload_n 0, 1) := by decide +kernel
theorem dX11_jury_45 : decode cX11_jury 45 = .ok (.getfield 28, 3) := by decide +kernel
theorem dX11_jury_48 : decode cX11_jury 48 = .ok (.getfield 335, 3) := by decide +kernel
theorem dX11_jury_51 : decode cX11_jury 51 = .ok (.invokevirtual 76, 3) := by decide +kernel
theorem dX11_jury_54 : decode cX11_jury 54 = .ok (.ireturn, 1) := by decide +kernel
theorem dX11_jury_55 : decode cX11_jury 55 = .ok (.aload_n 0, 1) := by decide +kernel
theorem dX11_jury_56 : decode cX11_jury 56 = .ok (.getfield 28, 3) := by decide +kernel
theorem dX11_jury_59 : decode cX11_jury 59 = .ok (.getfield 338, 3) := by decide +kernel
theorem dX11_jury_62 : decode cX11_jury 62 = .ok (.ireturn, 1) := by decide +kernel
theorem dX11_jury_63 : decode cX11_jury 63 = .ok (.aload_n 0, 1) := by decide +kernel
theorem dX11_jury_64 : decode cX11_jury 64 = .ok (.getfield 28, 3) := by decide +kernel
theorem dX11_jury_67 : decode cX11_jury 67 = .ok (.getfield 335, 3) := by decide +kernel
theorem dX11_jury_70 : decode cX11_jury 70 = .ok (.invokestatic 341, 3) := by decide +kernel
theorem dX11_jury_73 : decode cX11_jury 73 = .ok (.ireturn, 1) := by decide +kernel
theorem dX11_jury_74 : decode cX11_jury 74 = .ok (.aload_n 0, 1) := by decide +kernel
theorem dX11_jury_75 : decode cX11_jury 75 = .ok (.getfield 28, 3) := by decide +kernel
theorem dX11_jury_78 : decode cX11_jury 78 = .ok (.getfield 345, 3) := by decide +kernel
theorem dX11_jury_81 : decode cX11_jury 81 = .ok (.ireturn, 1) := by decide +kernel
theorem dX11_jury_82 : decode cX11_jury 82 = .ok (.aload_n 0, 1) := by decide +kernel
theorem dX11_jury_83 : decode cX11_jury 83 = .ok (.getfield 28, 3) := by decide +kernel
theorem dX11_jury_86 : decode cX11_jury 86 = .ok (.getfield 348, 3) := by decide +kernel
theorem dX11_jury_89 : decode cX11_jury 89 = .ok (.ireturn, 1) := by decide +kernel
theorem dX11_jury_90 : decode cX11_jury 90 = .ok (.aload_n 0, 1) := by decide +kernel
theorem dX11_jury_91 : decode cX11_jury 91 = .ok (.getfield 28, 3) := by decide +kernel
theorem dX11_jury_94 : decode cX11_jury 94 = .ok (.getfield 351, 3) := by decide +kernel
theorem dX11_jury_97 : decode cX11_jury 97 = .ok (.ireturn, 1) := by decide +kernel
theorem dX11_jury_98 : decode cX11_jury 98 = .ok (.aload_n 0, 1) := by decide +kernel
theorem dX11_jury_99 : decode cX11_jury 99 = .ok (.getfield 28, 3) := by decide +kernel
theorem dX11_jury_102 : decode cX11_jury 102 = .ok (.getfield 279, 3) := by decide +kernel
theorem dX11_jury_105 : decode cX11_jury 105 = .ok (.invokevirtual 76, 3) := by decide +kernel
theorem dX11_jury_108 : decode cX11_jury 108 = .ok (.ireturn, 1) := by decide +kernel
theorem dX11_jury_109 : decode cX11_jury 109 = .ok (.new 65, 3) := by decide +kernel
theorem dX11_jury_112 : decode cX11_jury 112 = .ok (.dup, 1) := by decide +kernel
theorem dX11_jury_113 : decode cX11_jury 113 = .ok (.invokespecial 67, 3) := by decide +kernel
theorem dX11_jury_116 : decode cX11_jury 116 = .ok (.athrow, 1) := by decide +kernel
theorem dX11_lease_0 : decode cX11_lease 0 = .ok (.aload_n 0, 1) := by decide +kernel
theorem dX11_lease_1 : decode cX11_lease 1 = .ok (.getfield 10, 3) := by decide +kernel
theorem dX11_lease_4 : decode cX11_lease 4 = .ok (.iload_n 1, 1) := by decide +kernel
theorem dX11_lease_5 : decode cX11_lease 5 = .ok (.invokevirtual 102, 3) := by decide +kernel
theorem dX11_lease_8 : decode cX11_lease 8 = .ok (.astore 4, 2) := by decide +kernel
theorem dX11_lease_10 : decode cX11_lease 10 = .ok (.aload 4, 2) := by decide +kernel
theorem dX11_lease_12 : decode cX11_lease 12 = .ok (.ifnull 12, 3) := by decide +kernel
theorem dX11_lease_15 : decode cX11_lease 15 = .ok (.iload_n 2, 1) := by decide +kernel
theorem dX11_lease_16 : decode cX11_lease 16 = .ok (.iconst 0, 1) := by decide +kernel
theorem dX11_lease_17 : decode cX11_lease 17 = .ok (.iconst 2, 1) := by decide +kernel
theorem dX11_lease_18 : decode cX11_lease 18 = .ok (.invokestatic 61, 3) := by decide +kernel
theorem dX11_lease_21 : decode cX11_lease 21 = .ok (.ifCond .ne 11, 3) := by decide +kernel
theorem dX11_lease_24 : decode cX11_lease 24 = .ok (.new 95, 3) := by decide +kernel
theorem dX11_lease_27 : decode cX11_lease 27 = .ok (.dup, 1) := by decide +kernel
theorem dX11_lease_28 : decode cX11_lease 28 = .ok (.invokespecial 97, 3) := by decide +kernel
theorem dX11_lease_31 : decode cX11_lease 31 = .ok (.athrow, 1) := by decide +kernel
theorem dX11_lease_32 : decode cX11_lease 32 = .ok (.iload_n 3, 1) := by decide +kernel
theorem dX11_lease_33 : decode cX11_lease 33 = .ok (.iconst 1, 1) := by decide +kernel
theorem dX11_lease_34 : decode cX11_lease 34 = .ok (.bipush 100, 2) := by decide +kernel
theorem dX11_lease_36 : decode cX11_lease 36 = .ok (.invokestatic 61, 3) := by decide +kernel
theorem dX11_lease_39 : decode cX11_lease 39 = .ok (.ifCond .eq 18, 3) := by decide +kernel
theorem dX11_lease_42 : decode cX11_lease 42 = .ok (.iload_n 3, 1) := by decide +kernel
theorem dX11_lease_43 : decode cX11_lease 43 = .ok (.aload_n 0, 1) := by decide +kernel
theorem dX11_lease_44 : decode cX11_lease 44 = .ok (.getfield 10, 3) := by decide +kernel
theorem dX11_lease_47 : decode cX11_lease 47 = .ok (.getfield 354, 3) := by decide +kernel
theorem dX11_lease_50 : decode cX11_lease 50 = .ok (.iload_n 2, 1) := by decide +kernel
theorem dX11_lease_51 : decode cX11_lease 51 = .ok (.invokestatic 358, 3) := by decide +kernel
theorem dX11_lease_54 : decode cX11_lease 54 = .ok (.if_icmp .gt 11, 3) := by decide +kernel
theorem dX11_lease_57 : decode cX11_lease 57 = .ok (.new 65, 3) := by decide +kernel
theorem dX11_lease_60 : decode cX11_lease 60 = .ok (.dup, 1) := by decide +kernel
theorem dX11_lease_61 : decode cX11_lease 61 = .ok (.invokespecial 67, 3) := by decide +kernel
theorem dX11_lease_64 : decode cX11_lease 64 = .ok (.athrow, 1) := by decide +kernel
theorem dX11_lease_65 : decode cX11_lease 65 = .ok (.aload 4, 2) := by decide +kernel
theorem dX11_lease_67 : decode cX11_lease 67 = .ok (.invokevirtual 362, 3) := by decide +kernel
theorem dX11_lease_70 : decode cX11_lease 70 = .ok (.ifCond .ne 11, 3) := by decide +kernel
theorem dX11_lease_73 : decode cX11_lease 73 = .ok (.new 82, 3) := by decide +kernel
theorem dX11_lease_76 : decode cX11_lease 76 = .ok (.dup, 1) := by decide +kernel
theorem dX11_lease_77 : decode cX11_lease 77 = .ok (.invokespecial 84, 3) := by decide +kernel
theorem dX11_lease_80 : decode cX11_lease 80 = .ok (.athrow, 1) := by decide +kernel
theorem dX11_lease_81 : decode cX11_lease 81 = .ok (.aload_n 0, 1) := by decide +kernel
theorem dX11_lease_82 : decode cX11_lease 82 = .ok (.getfield 10, 3) := by decide +kernel
theorem dX11_lease_85 : decode cX11_lease 85 = .ok (.iload_n 2, 1) := by decide +kernel
theorem dX11_lease_86 : decode cX11_lease 86 = .ok (.aload 4, 2) := by decide +kernel
theorem dX11_lease_88 : decode cX11_lease 88 = .ok (.iload_n 3, 1) := by decide +kernel
theorem dX11_lease_89 : decode cX11_lease 89 = .ok (.invokevirtual 365, 3) := by decide +kernel
theorem dX11_lease_92 : decode cX11_lease 92 = .ok (.invokestatic 175, 3) := by decide +kernel
theorem dX11_lease_95 : decode cX11_lease 95 = .ok (.ireturn, 1) := by decide +kernel
theorem dX11_ally_0 : decode cX11_ally 0 = .ok (.iload_n 1, 1) := by decide +kernel
theorem dX11_ally_1 : decode cX11_ally 1 = .ok (.iconst 1, 1) := by decide +kernel
theorem dX11_ally_2 : decode cX11_ally 2 = .ok (.bipush 60, 2) := by decide +kernel
theorem dX11_ally_4 : decode cX11_ally 4 = .ok (.invokestatic 61, 3) := by decide +kernel
theorem dX11_ally_7 : decode cX11_ally 7 = .ok (.ifCond .eq 13, 3) := by decide +kernel
theorem dX11_ally_10 : decode cX11_ally 10 = .ok (.iload_n 2, 1) := by decide +kernel
theorem dX11_ally_11 : decode cX11_ally 11 = .ok (.iconst 1, 1) := by decide +kernel
theorem dX11_ally_12 : decode cX11_ally 12 = .ok (.bipush 99, 2) := by decide +kernel
theorem dX11_ally_14 : decode cX11_ally 14 = .ok (.invokestatic 61, 3) := by decide +kernel
theorem dX11_ally_17 : decode cX11_ally 17 = .ok (.ifCond .ne 11, 3) := by decide +kernel
theorem dX11_ally_20 : decode cX11_ally 20 = .ok (.new 65, 3) := by decide +kernel
theorem dX11_ally_23 : decode cX11_ally 23 = .ok (.dup, 1) := by decide +kernel
theorem dX11_ally_24 : decode cX11_ally 24 = .ok (.invokespecial 67, 3) := by decide +kernel
theorem dX11_ally_27 : decode cX11_ally 27 = .ok (.athrow, 1) := by decide +kernel
theorem dX11_ally_28 : decode cX11_ally 28 = .ok (.aload_n 0, 1) := by decide +kernel
theorem dX11_ally_29 : decode cX11_ally 29 = .ok (.getfield 44, 3) := by decide +kernel
theorem dX11_ally_32 : decode cX11_ally 32 = .ok (.getfield 369, 3) := by decide +kernel
theorem dX11_ally_35 : decode cX11_ally 35 = .ok (.iconst 4, 1) := by decide +kernel
theorem dX11_ally_36 : decode cX11_ally 36 = .ok (.if_icmp .lt 11, 3) := by decide +kernel
theorem dX11_ally_39 : decode cX11_ally 39 = .ok (.new 82, 3) := by decide +kernel
theorem dX11_ally_42 : decode cX11_ally 42 = .ok (.dup, 1) := by decide +kernel
theorem dX11_ally_43 : decode cX11_ally 43 = .ok (.invokespecial 84, 3) := by decide +kernel
theorem dX11_ally_46 : decode cX11_ally 46 = .ok (.athrow, 1) := by decide +kernel
theorem dX11_ally_47 : decode cX11_ally 47 = .ok (.aload_n 0, 1) := by decide +kernel
theorem dX11_ally_48 : decode cX11_ally 48 = .ok (.getfield 44, 3) := by decide +kernel
theorem dX11_ally_51 : decode cX11_ally 51 = .ok (.iload_n 1, 1) := by decide +kernel
theorem dX11_ally_52 : decode cX11_ally 52 = .ok (.iload_n 2, 1) := by decide +kernel
theorem dX11_ally_53 : decode cX11_ally 53 = .ok (.invokevirtual 372, 3) := by decide +kernel
theorem dX11_ally_56 : decode cX11_ally 56 = .ok (.ireturn, 1) := by decide +kernel
theorem dX11_money_0 : decode cX11_money 0 = .ok (.iload_n 1, 1) := by decide +kernel
theorem dX11_money_1 : decode cX11_money 1 = .ok (.tableswitch 126 0 8 #[51, 59, 67, 75, 86, 94, 102, 110, 118], 51) := by decide +kernel
theorem dX11_money_52 : decode cX11_money 52 = .ok (.aload_n 0, 1) := by decide +kernel
theorem dX11_money_53 : decode cX11_money 53 = .ok (.getfield 10, 3) := by decide +kernel
theorem dX11_money_56 : decode cX11_money 56 = .ok (.getfield 375, 3) := by decide +kernel
theorem dX11_money_59 : decode cX11_money 59 = .ok (.ireturn, 1) := by decide +kernel
theorem dX11_money_60 : decode cX11_money 60 = .ok (.aload_n 0, 1) := by decide +kernel
theorem dX11_money_61 : decode cX11_money 61 = .ok (.getfield 10, 3) := by decide +kernel
theorem dX11_money_64 : decode cX11_money 64 = .ok (.getfield 378, 3) := by decide +kernel
theorem dX11_money_67 : decode cX11_money 67 = .ok (.ireturn, 1) := by decide +kernel
theorem dX11_money_68 : decode cX11_money 68 = .ok (.aload_n 0, 1) := by decide +kernel
theorem dX11_money_69 : decode cX11_money 69 = .ok (.getfield 10, 3) := by decide +kernel
theorem dX11_money_72 : decode cX11_money 72 = .ok (.getfield 381, 3) := by decide +kernel
theorem dX11_money_75 : decode cX11_money 75 = .ok (.ireturn, 1) := by decide +kernel
theorem dX11_money_76 : decode cX11_money 76 = .ok (.aload_n 0, 1) := by decide +kernel
theorem dX11_money_77 : decode cX11_money 77 = .ok (.getfield 10, 3) := by decide +kernel
theorem dX11_money_80 : decode cX11_money 80 = .ok (.getfield 354, 3) := by decide +kernel
theorem dX11_money_83 : decode cX11_money 83 = .ok (.invokestatic 384, 3) := by decide +kernel
theorem dX11_money_86 : decode cX11_money 86 = .ok (.ireturn, 1) := by decide +kernel
theorem dX11_money_87 : decode cX11_money 87 = .ok (.aload_n 0, 1) := by decide +kernel
theorem dX11_money_88 : decode cX11_money 88 = .ok (.getfield 44, 3) := by decide +kernel
theorem dX11_money_91 : decode cX11_money 91 = .ok (.invokevirtual 388, 3) := by decide +kernel
theorem dX11_money_94 : decode cX11_money 94 = .ok (.ireturn, 1) := by decide +kernel
theorem dX11_money_95 : decode cX11_money 95 = .ok (.aload_n 0, 1) := by decide +kernel
theorem dX11_money_96 : decode cX11_money 96 = .ok (.getfield 44, 3) := by decide +kernel
theorem dX11_money_99 : decode cX11_money 99 = .ok (.getfield 369, 3) := by decide +kernel
theorem dX11_money_102 : decode cX11_money 102 = .ok (.ireturn, 1) := by decide +kernel
theorem dX11_money_103 : decode cX11_money 103 = .ok (.aload_n 0, 1) := by decide +kernel
theorem dX11_money_104 : decode cX11_money 104 = .ok (.getfield 10, 3) := by decide +kernel
theorem dX11_money_107 : decode cX11_money 107 = .ok (.invokevirtual 391, 3) := by decide +kernel
theorem dX11_money_110 : decode cX11_money 110 = .ok (.ireturn, 1) := by decide +kernel
theorem dX11_money_111 : decode cX11_money 111 = .ok (.aload_n 0, 1) := by decide +kernel
theorem dX11_money_112 : decode cX11_money 112 = .ok (.getfield 10, 3) := by decide +kernel
theorem dX11_money_115 : decode cX11_money 115 = .ok (.getfield 394, 3) := by decide +kernel
theorem dX11_money_118 : decode cX11_money 118 = .ok (.ireturn, 1) := by decide +kernel
theorem dX11_money_119 : decode cX11_money 119 = .ok (.aload_n 0, 1) := by decide +kernel
theorem dX11_money_120 : decode cX11_money 120 = .ok (.getfield 10, 3) := by decide +kernel
theorem dX11_money_123 : decode cX11_money 123 = .ok (.getfield 397, 3) := by decide +kernel
theorem dX11_money_126 : decode cX11_money 126 = .ok (.ireturn, 1) := by decide +kernel
theorem dX11_money_127 : decode cX11_money 127 = .ok (.new 65, 3) := by decide +kernel
theorem dX11_money_130 : decode cX11_money 130 = .ok (.dup, 1) := by decide +kernel
theorem dX11_money_131 : decode cX11_money 131 = .ok (.invokespecial 67, 3) := by decide +kernel
theorem dX11_money_134 : decode cX11_money 134 = .ok (.athrow, 1) := by decide +kernel
theorem dX11_claim_0 : decode cX11_claim 0 = .ok (.aload_n 0, 1) := by decide +kernel
theorem dX11_claim_1 : decode cX11_claim 1 = .ok (.getfield 10, 3) := by decide +kernel
theorem dX11_claim_4 : decode cX11_claim 4 = .ok (.iload_n 1, 1) := by decide +kernel
theorem dX11_claim_5 : decode cX11_claim 5 = .ok (.invokevirtual 102, 3) := by decide +kernel
theorem dX11_claim_8 : decode cX11_claim 8 = .ok (.astore_n 3, 1) := by decide +kernel
theorem dX11_claim_9 : decode cX11_claim 9 = .ok (.aload_n 0, 1) := by decide +kernel
theorem dX11_claim_10 : decode cX11_claim 10 = .ok (.getfield 10, 3) := by decide +kernel
theorem dX11_claim_13 : decode cX11_claim 13 = .ok (.iload_n 2, 1) := by decide +kernel
theorem dX11_claim_14 : decode cX11_claim 14 = .ok (.invokevirtual 102, 3) := by decide +kernel
theorem dX11_claim_17 : decode cX11_claim 17 = .ok (.astore 4, 2) := by decide +kernel
theorem dX11_claim_19 : decode cX11_claim 19 = .ok (.aload_n 3, 1) := by decide +kernel
theorem dX11_claim_20 : decode cX11_claim 20 = .ok (.ifnull 8, 3) := by decide +kernel
theorem dX11_claim_23 : decode cX11_claim 23 = .ok (.aload 4, 2) := by decide +kernel
theorem dX11_claim_25 : decode cX11_claim 25 = .ok (.ifnonnull 11, 3) := by decide +kernel
theorem dX11_claim_28 : decode cX11_claim 28 = .ok (.new 95, 3) := by decide +kernel
theorem dX11_claim_31 : decode cX11_claim 31 = .ok (.dup, 1) := by decide +kernel
theorem dX11_claim_32 : decode cX11_claim 32 = .ok (.invokespecial 97, 3) := by decide +kernel
theorem dX11_claim_35 : decode cX11_claim 35 = .ok (.athrow, 1) := by decide +kernel
theorem dX11_claim_36 : decode cX11_claim 36 = .ok (.aload_n 3, 1) := by decide +kernel
theorem dX11_claim_37 : decode cX11_claim 37 = .ok (.aload 4, 2) := by decide +kernel
theorem dX11_claim_39 : decode cX11_claim 39 = .ok (.if_acmp .ne 11, 3) := by decide +kernel
theorem dX11_claim_42 : decode cX11_claim 42 = .ok (.new 65, 3) := by decide +kernel
theorem dX11_claim_45 : decode cX11_claim 45 = .ok (.dup, 1) := by decide +kernel
theorem dX11_claim_46 : decode cX11_claim 46 = .ok (.invokespecial 67, 3) := by decide +kernel
theorem dX11_claim_49 : decode cX11_claim 49 = .ok (.athrow, 1) := by decide +kernel
theorem dX11_claim_50 : decode cX11_claim 50 = .ok (.aload_n 3, 1) := by decide +kernel
theorem dX11_claim_51 : decode cX11_claim 51 = .ok (.invokevirtual 400, 3) := by decide +kernel
theorem dX11_claim_54 : decode cX11_claim 54 = .ok (.ifCond .eq 12, 3) := by decide +kernel
theorem dX11_claim_57 : decode cX11_claim 57 = .ok (.aload 4, 2) := by decide +kernel
theorem dX11_claim_59 : decode cX11_claim 59 = .ok (.aload_n 3, 1) := by decide +kernel
theorem dX11_claim_60 : decode cX11_claim 60 = .ok (.invokevirtual 403, 3) := by decide +kernel
theorem dX11_claim_63 : decode cX11_claim 63 = .ok (.ifCond .ne 11, 3) := by decide +kernel
theorem dX11_claim_66 : decode cX11_claim 66 = .ok (.new 82, 3) := by decide +kernel
theorem dX11_claim_69 : decode cX11_claim 69 = .ok (.dup, 1) := by decide +kernel
theorem dX11_claim_70 : decode cX11_claim 70 = .ok (.invokespecial 84, 3) := by decide +kernel
theorem dX11_claim_73 : decode cX11_claim 73 = .ok (.athrow, 1) := by decide +kernel
theorem dX11_claim_74 : decode cX11_claim 74 = .ok (.aload_n 0, 1) := by decide +kernel
theorem dX11_claim_75 : decode cX11_claim 75 = .ok (.getfield 44, 3) := by decide +kernel
theorem dX11_claim_78 : decode cX11_claim 78 = .ok (.aload_n 3, 1) := by decide +kernel
theorem dX11_claim_79 : decode cX11_claim 79 = .ok (.aload 4, 2) := by decide +kernel
theorem dX11_claim_81 : decode cX11_claim 81 = .ok (.invokevirtual 406, 3) := by decide +kernel
theorem dX11_claim_84 : decode cX11_claim 84 = .ok (.ireturn, 1) := by decide +kernel
theorem dX11_bear_0 : decode cX11_bear 0 = .ok (.aload_n 0, 1) := by decide +kernel
theorem dX11_bear_1 : decode cX11_bear 1 = .ok (.getfield 10, 3) := by decide +kernel
theorem dX11_bear_4 : decode cX11_bear 4 = .ok (.iload_n 1, 1) := by decide +kernel
theorem dX11_bear_5 : decode cX11_bear 5 = .ok (.invokevirtual 102, 3) := by decide +kernel
theorem dX11_bear_8 : decode cX11_bear 8 = .ok (.astore_n 2, 1) := by decide +kernel
theorem dX11_bear_9 : decode cX11_bear 9 = .ok (.aload_n 2, 1) := by decide +kernel
theorem dX11_bear_10 : decode cX11_bear 10 = .ok (.ifnonnull 11, 3) := by decide +kernel
theorem dX11_bear_13 : decode cX11_bear 13 = .ok (.new 95, 3) := by decide +kernel
theorem dX11_bear_16 : decode cX11_bear 16 = .ok (.dup, 1) := by decide +kernel
theorem dX11_bear_17 : decode cX11_bear 17 = .ok (.invokespecial 97, 3) := by decide +kernel
theorem dX11_bear_20 : decode cX11_bear 20 = .ok (.athrow, 1) := by decide +kernel
