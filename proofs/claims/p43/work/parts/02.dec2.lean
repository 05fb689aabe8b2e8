theorem dX4_drawJury_10 : decode cX4_drawJury 10 = .ok (.iload 4, 2) := by decide +kernel
theorem dX4_drawJury_12 : decode cX4_drawJury 12 = .ok (.iconst 4, 1) := by decide +kernel
theorem dX4_drawJury_13 : decode cX4_drawJury 13 = .ok (.if_icmp .ge 36, 3) := by decide +kernel
theorem dX4_drawJury_16 : decode cX4_drawJury 16 = .ok (.aload_n 0, 1) := by decide +kernel
theorem dX4_drawJury_17 : decode cX4_drawJury 17 = .ok (.iload 4, 2) := by decide +kernel
theorem dX4_drawJury_19 : decode cX4_drawJury 19 = .ok (.aload_n 2, 1) := by decide +kernel
theorem dX4_drawJury_20 : decode cX4_drawJury 20 = .ok (.aload_n 3, 1) := by decide +kernel
theorem dX4_drawJury_21 : decode cX4_drawJury 21 = .ok (.invokevirtual 65, 3) := by decide +kernel
theorem dX4_drawJury_24 : decode cX4_drawJury 24 = .ok (.aload_n 0, 1) := by decide +kernel
theorem dX4_drawJury_25 : decode cX4_drawJury 25 = .ok (.getfield 40, 3) := by decide +kernel
theorem dX4_drawJury_28 : decode cX4_drawJury 28 = .ok (.getfield 69, 3) := by decide +kernel
theorem dX4_drawJury_31 : decode cX4_drawJury 31 = .ok (.aload_n 0, 1) := by decide +kernel
theorem dX4_drawJury_32 : decode cX4_drawJury 32 = .ok (.getfield 21, 3) := by decide +kernel
theorem dX4_drawJury_35 : decode cX4_drawJury 35 = .ok (.iload_n 1, 1) := by decide +kernel
theorem dX4_drawJury_36 : decode cX4_drawJury 36 = .ok (.aload_n 0, 1) := by decide +kernel
theorem dX4_drawJury_37 : decode cX4_drawJury 37 = .ok (.getfield 18, 3) := by decide +kernel
theorem dX4_drawJury_40 : decode cX4_drawJury 40 = .ok (.invokevirtual 75, 3) := by decide +kernel
theorem dX4_drawJury_43 : decode cX4_drawJury 43 = .ok (.iinc 4 1, 3) := by decide +kernel
theorem dX4_drawJury_46 : decode cX4_drawJury 46 = .ok (.goto (-36), 3) := by decide +kernel
theorem dX4_drawJury_49 : decode cX4_drawJury 49 = .ok (.aload_n 0, 1) := by decide +kernel
theorem dX4_drawJury_50 : decode cX4_drawJury 50 = .ok (.getfield 40, 3) := by decide +kernel
theorem dX4_drawJury_53 : decode cX4_drawJury 53 = .ok (.aload_n 0, 1) := by decide +kernel
theorem dX4_drawJury_54 : decode cX4_drawJury 54 = .ok (.getfield 18, 3) := by decide +kernel
theorem dX4_drawJury_57 : decode cX4_drawJury 57 = .ok (.invokevirtual 48, 3) := by decide +kernel
theorem dX4_drawJury_60 : decode cX4_drawJury 60 = .ok (.invokevirtual 81, 3) := by decide +kernel
theorem dX4_drawJury_63 : decode cX4_drawJury 63 = .ok (.ifCond .ne 16, 3) := by decide +kernel
theorem dX4_drawJury_66 : decode cX4_drawJury 66 = .ok (.aload_n 0, 1) := by decide +kernel
theorem dX4_drawJury_67 : decode cX4_drawJury 67 = .ok (.getfield 40, 3) := by decide +kernel
theorem dX4_drawJury_70 : decode cX4_drawJury 70 = .ok (.dup, 1) := by decide +kernel
theorem dX4_drawJury_71 : decode cX4_drawJury 71 = .ok (.getfield 85, 3) := by decide +kernel
theorem dX4_drawJury_74 : decode cX4_drawJury 74 = .ok (.iconst 1, 1) := by decide +kernel
theorem dX4_drawJury_75 : decode cX4_drawJury 75 = .ok (.iadd, 1) := by decide +kernel
theorem dX4_drawJury_76 : decode cX4_drawJury 76 = .ok (.putfield 85, 3) := by decide +kernel
theorem dX4_drawJury_79 : decode cX4_drawJury 79 = .ok (.return_, 1) := by decide +kernel
theorem dX4_gatherJurors_0 : decode cX4_gatherJurors 0 = .ok (.aload_n 0, 1) := by decide +kernel
theorem dX4_gatherJurors_1 : decode cX4_gatherJurors 1 = .ok (.getfield 21, 3) := by decide +kernel
theorem dX4_gatherJurors_4 : decode cX4_gatherJurors 4 = .ok (.invokevirtual 62, 3) := by decide +kernel
theorem dX4_gatherJurors_7 : decode cX4_gatherJurors 7 = .ok (.iconst 0, 1) := by decide +kernel
theorem dX4_gatherJurors_8 : decode cX4_gatherJurors 8 = .ok (.istore 4, 2) := by decide +kernel
theorem dX4_gatherJurors_10 : decode cX4_gatherJurors 10 = .ok (.iload 4, 2) := by decide +kernel
theorem dX4_gatherJurors_12 : decode cX4_gatherJurors 12 = .ok (.aload_n 0, 1) := by decide +kernel
theorem dX4_gatherJurors_13 : decode cX4_gatherJurors 13 = .ok (.getfield 40, 3) := by decide +kernel
theorem dX4_gatherJurors_16 : decode cX4_gatherJurors 16 = .ok (.getfield 88, 3) := by decide +kernel
theorem dX4_gatherJurors_19 : decode cX4_gatherJurors 19 = .ok (.invokevirtual 48, 3) := by decide +kernel
theorem dX4_gatherJurors_22 : decode cX4_gatherJurors 22 = .ok (.if_icmp .ge 65, 3) := by decide +kernel
theorem dX4_gatherJurors_25 : decode cX4_gatherJurors 25 = .ok (.aload_n 0, 1) := by decide +kernel
theorem dX4_gatherJurors_26 : decode cX4_gatherJurors 26 = .ok (.getfield 40, 3) := by decide +kernel
theorem dX4_gatherJurors_29 : decode cX4_gatherJurors 29 = .ok (.getfield 88, 3) := by decide +kernel
theorem dX4_gatherJurors_32 : decode cX4_gatherJurors 32 = .ok (.iload 4, 2) := by decide +kernel
theorem dX4_gatherJurors_34 : decode cX4_gatherJurors 34 = .ok (.invokevirtual 52, 3) := by decide +kernel
theorem dX4_gatherJurors_37 : decode cX4_gatherJurors 37 = .ok (.checkcast 91, 3) := by decide +kernel
theorem dX4_gatherJurors_40 : decode cX4_gatherJurors 40 = .ok (.astore 5, 2) := by decide +kernel
theorem dX4_gatherJurors_42 : decode cX4_gatherJurors 42 = .ok (.aload 5, 2) := by decide +kernel
theorem dX4_gatherJurors_44 : decode cX4_gatherJurors 44 = .ok (.invokevirtual 93, 3) := by decide +kernel
theorem dX4_gatherJurors_47 : decode cX4_gatherJurors 47 = .ok (.iload_n 1, 1) := by decide +kernel
theorem dX4_gatherJurors_48 : decode cX4_gatherJurors 48 = .ok (.if_icmp .ne 33, 3) := by decide +kernel
theorem dX4_gatherJurors_51 : decode cX4_gatherJurors 51 = .ok (.aload 5, 2) := by decide +kernel
theorem dX4_gatherJurors_53 : decode cX4_gatherJurors 53 = .ok (.invokevirtual 96, 3) := by decide +kernel
theorem dX4_gatherJurors_56 : decode cX4_gatherJurors 56 = .ok (.ifCond .eq 25, 3) := by decide +kernel
theorem dX4_gatherJurors_59 : decode cX4_gatherJurors 59 = .ok (.aload 5, 2) := by decide +kernel
theorem dX4_gatherJurors_61 : decode cX4_gatherJurors 61 = .ok (.aload_n 2, 1) := by decide +kernel
theorem dX4_gatherJurors_62 : decode cX4_gatherJurors 62 = .ok (.if_acmp .eq 19, 3) := by decide +kernel
theorem dX4_gatherJurors_65 : decode cX4_gatherJurors 65 = .ok (.aload 5, 2) := by decide +kernel
theorem dX4_gatherJurors_67 : decode cX4_gatherJurors 67 = .ok (.aload_n 3, 1) := by decide +kernel
theorem dX4_gatherJurors_68 : decode cX4_gatherJurors 68 = .ok (.if_acmp .eq 13, 3) := by decide +kernel
theorem dX4_gatherJurors_71 : decode cX4_gatherJurors 71 = .ok (.aload_n 0, 1) := by decide +kernel
theorem dX4_gatherJurors_72 : decode cX4_gatherJurors 72 = .ok (.getfield 21, 3) := by decide +kernel
theorem dX4_gatherJurors_75 : decode cX4_gatherJurors 75 = .ok (.aload 5, 2) := by decide +kernel
theorem dX4_gatherJurors_77 : decode cX4_gatherJurors 77 = .ok (.invokevirtual 44, 3) := by decide +kernel
theorem dX4_gatherJurors_80 : decode cX4_gatherJurors 80 = .ok (.pop, 1) := by decide +kernel
theorem dX4_gatherJurors_81 : decode cX4_gatherJurors 81 = .ok (.iinc 4 1, 3) := by decide +kernel
theorem dX4_gatherJurors_84 : decode cX4_gatherJurors 84 = .ok (.goto (-74), 3) := by decide +kernel
theorem dX4_gatherJurors_87 : decode cX4_gatherJurors 87 = .ok (.return_, 1) := by decide +kernel
theorem dX4_decide_0 : decode cX4_decide 0 = .ok (.aload_n 0, 1) := by decide +kernel
theorem dX4_decide_1 : decode cX4_decide 1 = .ok (.aload_n 0, 1) := by decide +kernel
theorem dX4_decide_2 : decode cX4_decide 2 = .ok (.getfield 18, 3) := by decide +kernel
theorem dX4_decide_5 : decode cX4_decide 5 = .ok (.iload_n 1, 1) := by decide +kernel
theorem dX4_decide_6 : decode cX4_decide 6 = .ok (.invokestatic 100, 3) := by decide +kernel
theorem dX4_decide_9 : decode cX4_decide 9 = .ok (.putfield 24, 3) := by decide +kernel
theorem dX4_decide_12 : decode cX4_decide 12 = .ok (.iconst 2, 1) := by decide +kernel
theorem dX4_decide_13 : decode cX4_decide 13 = .ok (.aload_n 0, 1) := by decide +kernel
theorem dX4_decide_14 : decode cX4_decide 14 = .ok (.getfield 24, 3) := by decide +kernel
theorem dX4_decide_17 : decode cX4_decide 17 = .ok (.imul, 1) := by decide +kernel
theorem dX4_decide_18 : decode cX4_decide 18 = .ok (.aload_n 0, 1) := by decide +kernel
theorem dX4_decide_19 : decode cX4_decide 19 = .ok (.getfield 18, 3) := by decide +kernel
theorem dX4_decide_22 : decode cX4_decide 22 = .ok (.invokevirtual 48, 3) := by decide +kernel
theorem dX4_decide_25 : decode cX4_decide 25 = .ok (.if_icmp .le 7, 3) := by decide +kernel
theorem dX4_decide_28 : decode cX4_decide 28 = .ok (.iconst 1, 1) := by decide +kernel
theorem dX4_decide_29 : decode cX4_decide 29 = .ok (.goto 4, 3) := by decide +kernel
theorem dX4_decide_32 : decode cX4_decide 32 = .ok (.iconst 0, 1) := by decide +kernel
theorem dX4_decide_33 : decode cX4_decide 33 = .ok (.ireturn, 1) := by decide +kernel
theorem dX4_compensate_0 : decode cX4_compensate 0 = .ok (.aload_n 0, 1) := by decide +kernel
theorem dX4_compensate_1 : decode cX4_compensate 1 = .ok (.getfield 148, 3) := by decide +kernel
theorem dX4_compensate_4 : decode cX4_compensate 4 = .ok (.dup, 1) := by decide +kernel
theorem dX4_compensate_5 : decode cX4_compensate 5 = .ok (.getfield 169, 3) := by decide +kernel
theorem dX4_compensate_8 : decode cX4_compensate 8 = .ok (.aload_n 0, 1) := by decide +kernel
theorem dX4_compensate_9 : decode cX4_compensate 9 = .ok (.getfield 144, 3) := by decide +kernel
theorem dX4_compensate_12 : decode cX4_compensate 12 = .ok (.aload_n 0, 1) := by decide +kernel
theorem dX4_compensate_13 : decode cX4_compensate 13 = .ok (.getfield 172, 3) := by decide +kernel
theorem dX4_compensate_16 : decode cX4_compensate 16 = .ok (.invokevirtual 175, 3) := by decide +kernel
theorem dX4_compensate_19 : decode cX4_compensate 19 = .ok (.iadd, 1) := by decide +kernel
theorem dX4_compensate_20 : decode cX4_compensate 20 = .ok (.putfield 169, 3) := by decide +kernel
theorem dX4_compensate_23 : decode cX4_compensate 23 = .ok (.return_, 1) := by decide +kernel
theorem dX4_sit_0 : decode cX4_sit 0 = .ok (.aload_n 0, 1) := by decide +kernel
theorem dX4_sit_1 : decode cX4_sit 1 = .ok (.aload_n 0, 1) := by decide +kernel
theorem dX4_sit_2 : decode cX4_sit 2 = .ok (.getfield 40, 3) := by decide +kernel
theorem dX4_sit_5 : decode cX4_sit 5 = .ok (.getfield 179, 3) := by decide +kernel
theorem dX4_sit_8 : decode cX4_sit 8 = .ok (.putfield 37, 3) := by decide +kernel
theorem dX4_sit_11 : decode cX4_sit 11 = .ok (.bipush 60, 2) := by decide +kernel
theorem dX4_sit_13 : decode cX4_sit 13 = .ok (.istore_n 1, 1) := by decide +kernel
theorem dX4_sit_14 : decode cX4_sit 14 = .ok (.iconst 0, 1) := by decide +kernel
theorem dX4_sit_15 : decode cX4_sit 15 = .ok (.istore_n 2, 1) := by decide +kernel
theorem dX4_sit_16 : decode cX4_sit 16 = .ok (.aload_n 0, 1) := by decide +kernel
theorem dX4_sit_17 : decode cX4_sit 17 = .ok (.getfield 12, 3) := by decide +kernel
theorem dX4_sit_20 : decode cX4_sit 20 = .ok (.invokevirtual 48, 3) := by decide +kernel
theorem dX4_sit_23 : decode cX4_sit 23 = .ok (.istore_n 3, 1) := by decide +kernel
theorem dX4_sit_24 : decode cX4_sit 24 = .ok (.iconst 0, 1) := by decide +kernel
theorem dX4_sit_25 : decode cX4_sit 25 = .ok (.istore 4, 2) := by decide +kernel
theorem dX4_sit_27 : decode cX4_sit 27 = .ok (.iload 4, 2) := by decide +kernel
theorem dX4_sit_29 : decode cX4_sit 29 = .ok (.iload_n 3, 1) := by decide +kernel
theorem dX4_sit_30 : decode cX4_sit 30 = .ok (.if_icmp .ge 100, 3) := by decide +kernel
theorem dX4_sit_33 : decode cX4_sit 33 = .ok (.aload_n 0, 1) := by decide +kernel
theorem dX4_sit_34 : decode cX4_sit 34 = .ok (.getfield 12, 3) := by decide +kernel
theorem dX4_sit_37 : decode cX4_sit 37 = .ok (.invokevirtual 182, 3) := by decide +kernel
theorem dX4_sit_40 : decode cX4_sit 40 = .ok (.ifCond .ne 90, 3) := by decide +kernel
theorem dX4_sit_43 : decode cX4_sit 43 = .ok (.aload_n 0, 1) := by decide +kernel
theorem dX4_sit_44 : decode cX4_sit 44 = .ok (.getfield 12, 3) := by decide +kernel
theorem dX4_sit_47 : decode cX4_sit 47 = .ok (.iconst 0, 1) := by decide +kernel
theorem dX4_sit_48 : decode cX4_sit 48 = .ok (.invokevirtual 52, 3) := by decide +kernel
theorem dX4_sit_51 : decode cX4_sit 51 = .ok (.checkcast 56, 3) := by decide +kernel
theorem dX4_sit_54 : decode cX4_sit 54 = .ok (.astore 5, 2) := by decide +kernel
theorem dX4_sit_56 : decode cX4_sit 56 = .ok (.aload 5, 2) := by decide +kernel
theorem dX4_sit_58 : decode cX4_sit 58 = .ok (.invokevirtual 185, 3) := by decide +kernel
theorem dX4_sit_61 : decode cX4_sit 61 = .ok (.ifCond .eq 25, 3) := by decide +kernel
theorem dX4_sit_64 : decode cX4_sit 64 = .ok (.aload_n 0, 1) := by decide +kernel
theorem dX4_sit_65 : decode cX4_sit 65 = .ok (.getfield 12, 3) := by decide +kernel
theorem dX4_sit_68 : decode cX4_sit 68 = .ok (.iconst 0, 1) := by decide +kernel
theorem dX4_sit_69 : decode cX4_sit 69 = .ok (.invokevirtual 151, 3) := by decide +kernel
theorem dX4_sit_72 : decode cX4_sit 72 = .ok (.pop, 1) := by decide +kernel
theorem dX4_sit_73 : decode cX4_sit 73 = .ok (.aload_n 0, 1) := by decide +kernel
theorem dX4_sit_74 : decode cX4_sit 74 = .ok (.dup, 1) := by decide +kernel
theorem dX4_sit_75 : decode cX4_sit 75 = .ok (.getfield 34, 3) := by decide +kernel
theorem dX4_sit_78 : decode cX4_sit 78 = .ok (.iconst 1, 1) := by decide +kernel
theorem dX4_sit_79 : decode cX4_sit 79 = .ok (.iadd, 1) := by decide +kernel
theorem dX4_sit_80 : decode cX4_sit 80 = .ok (.putfield 34, 3) := by decide +kernel
theorem dX4_sit_83 : decode cX4_sit 83 = .ok (.goto 41, 3) := by decide +kernel
theorem dX4_sit_86 : decode cX4_sit 86 = .ok (.aload 5, 2) := by decide +kernel
theorem dX4_sit_88 : decode cX4_sit 88 = .ok (.invokevirtual 188, 3) := by decide +kernel
theorem dX4_sit_91 : decode cX4_sit 91 = .ok (.iload_n 1, 1) := by decide +kernel
theorem dX4_sit_92 : decode cX4_sit 92 = .ok (.if_icmp .le 6, 3) := by decide +kernel
theorem dX4_sit_95 : decode cX4_sit 95 = .ok (.goto 35, 3) := by decide +kernel
theorem dX4_sit_98 : decode cX4_sit 98 = .ok (.iload_n 1, 1) := by decide +kernel
theorem dX4_sit_99 : decode cX4_sit 99 = .ok (.aload 5, 2) := by decide +kernel
theorem dX4_sit_101 : decode cX4_sit 101 = .ok (.invokevirtual 188, 3) := by decide +kernel
theorem dX4_sit_104 : decode cX4_sit 104 = .ok (.isub, 1) := by decide +kernel
theorem dX4_sit_105 : decode cX4_sit 105 = .ok (.istore_n 1, 1) := by decide +kernel
theorem dX4_sit_106 : decode cX4_sit 106 = .ok (.aload_n 0, 1) := by decide +kernel
theorem dX4_sit_107 : decode cX4_sit 107 = .ok (.getfield 12, 3) := by decide +kernel
theorem dX4_sit_110 : decode cX4_sit 110 = .ok (.iconst 0, 1) := by decide +kernel
theorem dX4_sit_111 : decode cX4_sit 111 = .ok (.invokevirtual 151, 3) := by decide +kernel
theorem dX4_sit_114 : decode cX4_sit 114 = .ok (.pop, 1) := by decide +kernel
theorem dX4_sit_115 : decode cX4_sit 115 = .ok (.aload_n 0, 1) := by decide +kernel
theorem dX4_sit_116 : decode cX4_sit 116 = .ok (.aload 5, 2) := by decide +kernel
theorem dX4_sit_118 : decode cX4_sit 118 = .ok (.invokevirtual 191, 3) := by decide +kernel
theorem dX4_sit_121 : decode cX4_sit 121 = .ok (.iinc 2 1, 3) := by decide +kernel
theorem dX4_sit_124 : decode cX4_sit 124 = .ok (.iinc 4 1, 3) := by decide +kernel
theorem dX4_sit_127 : decode cX4_sit 127 = .ok (.goto (-100), 3) := by decide +kernel
theorem dX4_sit_130 : decode cX4_sit 130 = .ok (.iload_n 2, 1) := by decide +kernel
theorem dX4_sit_131 : decode cX4_sit 131 = .ok (.ireturn, 1) := by decide +kernel
theorem dX4_judge_0 : decode cX4_judge 0 = .ok (.aload_n 0, 1) := by decide +kernel
theorem dX4_judge_1 : decode cX4_judge 1 = .ok (.aload_n 1, 1) := by decide +kernel
theorem dX4_judge_2 : decode cX4_judge 2 = .ok (.invokevirtual 194, 3) := by decide +kernel
theorem dX4_judge_5 : decode cX4_judge 5 = .ok (.ifCond .eq 7, 3) := by decide +kernel
theorem dX4_judge_8 : decode cX4_judge 8 = .ok (.iconst 1, 1) := by decide +kernel
theorem dX4_judge_9 : decode cX4_judge 9 = .ok (.goto 4, 3) := by decide +kernel
theorem dX4_judge_12 : decode cX4_judge 12 = .ok (.iconst 2, 1) := by decide +kernel
theorem dX4_judge_13 : decode cX4_judge 13 = .ok (.aload_n 1, 1) := by decide +kernel
theorem dX4_judge_14 : decode cX4_judge 14 = .ok (.getfield 148, 3) := by decide +kernel
theorem dX4_judge_17 : decode cX4_judge 17 = .ok (.aload_n 1, 1) := by decide +kernel
theorem dX4_judge_18 : decode cX4_judge 18 = .ok (.getfield 144, 3) := by decide +kernel
theorem dX4_judge_21 : decode cX4_judge 21 = .ok (.invokevirtual 104, 3) := by decide +kernel
theorem dX4_judge_24 : decode cX4_judge 24 = .ok (.aload_n 0, 1) := by decide +kernel
theorem dX4_judge_25 : decode cX4_judge 25 = .ok (.aload_n 1, 1) := by decide +kernel
theorem dX4_judge_26 : decode cX4_judge 26 = .ok (.getfield 138, 3) := by decide +kernel
theorem dX4_judge_29 : decode cX4_judge 29 = .ok (.invokevirtual 110, 3) := by decide +kernel
theorem dX4_judge_32 : decode cX4_judge 32 = .ok (.ifCond .eq 21, 3) := by decide +kernel
theorem dX4_judge_35 : decode cX4_judge 35 = .ok (.aload_n 0, 1) := by decide +kernel
theorem dX4_judge_36 : decode cX4_judge 36 = .ok (.dup, 1) := by decide +kernel
theorem dX4_judge_37 : decode cX4_judge 37 = .ok (.getfield 28, 3) := by decide +kernel
theorem dX4_judge_40 : decode cX4_judge 40 = .ok (.iconst 1, 1) := by decide +kernel
theorem dX4_judge_41 : decode cX4_judge 41 = .ok (.iadd, 1) := by decide +kernel
theorem dX4_judge_42 : decode cX4_judge 42 = .ok (.putfield 28, 3) := by decide +kernel
theorem dX4_judge_45 : decode cX4_judge 45 = .ok (.aload_n 0, 1) := by decide +kernel
theorem dX4_judge_46 : decode cX4_judge 46 = .ok (.aload_n 1, 1) := by decide +kernel
theorem dX4_judge_47 : decode cX4_judge 47 = .ok (.invokevirtual 197, 3) := by decide +kernel
theorem dX4_judge_50 : decode cX4_judge 50 = .ok (.goto 60, 3) := by decide +kernel
theorem dX4_judge_53 : decode cX4_judge 53 = .ok (.aload_n 0, 1) := by decide +kernel
theorem dX4_judge_54 : decode cX4_judge 54 = .ok (.dup, 1) := by decide +kernel
theorem dX4_judge_55 : decode cX4_judge 55 = .ok (.getfield 31, 3) := by decide +kernel
theorem dX4_judge_58 : decode cX4_judge 58 = .ok (.iconst 1, 1) := by decide +kernel
theorem dX4_judge_59 : decode cX4_judge 59 = .ok (.iadd, 1) := by decide +kernel
theorem dX4_judge_60 : decode cX4_judge 60 = .ok (.putfield 31, 3) := by decide +kernel
theorem dX4_judge_63 : decode cX4_judge 63 = .ok (.aload_n 1, 1) := by decide +kernel
theorem dX4_judge_64 : decode cX4_judge 64 = .ok (.invokevirtual 194, 3) := by decide +kernel
theorem dX4_judge_67 : decode cX4_judge 67 = .ok (.ifCond .ne 43, 3) := by decide +kernel
theorem dX4_judge_70 : decode cX4_judge 70 = .ok (.iconst 5, 1) := by decide +kernel
theorem dX4_judge_71 : decode cX4_judge 71 = .ok (.aload_n 0, 1) := by decide +kernel
theorem dX4_judge_72 : decode cX4_judge 72 = .ok (.getfield 24, 3) := by decide +kernel
theorem dX4_judge_75 : decode cX4_judge 75 = .ok (.imul, 1) := by decide +kernel
theorem dX4_judge_76 : decode cX4_judge 76 = .ok (.aload_n 0, 1) := by decide +kernel
theorem dX4_judge_77 : decode cX4_judge 77 = .ok (.getfield 18, 3) := by decide +kernel
theorem dX4_judge_80 : decode cX4_judge 80 = .ok (.invokevirtual 48, 3) := by decide +kernel
theorem dX4_judge_83 : decode cX4_judge 83 = .ok (.if_icmp .ge 27, 3) := by decide +kernel
theorem dX4_judge_86 : decode cX4_judge 86 = .ok (.aload_n 0, 1) := by decide +kernel
theorem dX4_judge_87 : decode cX4_judge 87 = .ok (.getfield 40, 3) := by decide +kernel
theorem dX4_judge_90 : decode cX4_judge 90 = .ok (.aload_n 1, 1) := by decide +kernel
theorem dX4_judge_91 : decode cX4_judge 91 = .ok (.getfield 148, 3) := by decide +kernel
theorem dX4_judge_94 : decode cX4_judge 94 = .ok (.bipush 10, 2) := by decide +kernel
theorem dX4_judge_96 : decode cX4_judge 96 = .ok (.invokevirtual 200, 3) := by decide +kernel
theorem dX4_judge_99 : decode cX4_judge 99 = .ok (.aload_n 0, 1) := by decide +kernel
theorem dX4_judge_100 : decode cX4_judge 100 = .ok (.getfield 40, 3) := by decide +kernel
theorem dX4_judge_103 : decode cX4_judge 103 = .ok (.aload_n 1, 1) := by decide +kernel
theorem dX4_judge_104 : decode cX4_judge 104 = .ok (.getfield 148, 3) := by decide +kernel
theorem dX4_judge_107 : decode cX4_judge 107 = .ok (.invokevirtual 203, 3) := by decide +kernel
theorem dX4_judge_110 : decode cX4_judge 110 = .ok (.return_, 1) := by decide +kernel
theorem dX4_punish_0 : decode cX4_punish 0 = .ok (.aload_n 1, 1) := by decide +kernel
theorem dX4_punish_1 : decode cX4_punish 1 = .ok (.invokevirtual 194, 3) := by decide +kernel
theorem dX4_punish_4 : decode cX4_punish 4 = .ok (.ifCond .eq 10, 3) := by decide +kernel
theorem dX4_punish_7 : decode cX4_punish 7 = .ok (.aload_n 1, 1) := by decide +kernel
theorem dX4_punish_8 : decode cX4_punish 8 = .ok (.invokestatic 154, 3) := by decide +kernel
theorem dX4_punish_11 : decode cX4_punish 11 = .ok (.goto 110, 3) := by decide +kernel
theorem dX4_punish_14 : decode cX4_punish 14 = .ok (.aload_n 1, 1) := by decide +kernel
theorem dX4_punish_15 : decode cX4_punish 15 = .ok (.getfield 207, 3) := by decide +kernel
theorem dX4_punish_18 : decode cX4_punish 18 = .ok (.iconst 2, 1) := by decide +kernel
theorem dX4_punish_19 : decode cX4_punish 19 = .ok (.if_icmp .ne 49, 3) := by decide +kernel
theorem dX4_punish_22 : decode cX4_punish 22 = .ok (.aload_n 1, 1) := by decide +kernel
theorem dX4_punish_23 : decode cX4_punish 23 = .ok (.getfield 58, 3) := by decide +kernel
theorem dX4_punish_26 : decode cX4_punish 26 = .ok (.ifnull 11, 3) := by decide +kernel
theorem dX4_punish_29 : decode cX4_punish 29 = .ok (.aload_n 1, 1) := by decide +kernel
theorem dX4_punish_30 : decode cX4_punish 30 = .ok (.getfield 58, 3) := by decide +kernel
theorem dX4_punish_33 : decode cX4_punish 33 = .ok (.iconst 1, 1) := by decide +kernel
theorem dX4_punish_34 : decode cX4_punish 34 = .ok (.putfield 210, 3) := by decide +kernel
theorem dX4_punish_37 : decode cX4_punish 37 = .ok (.aload_n 0, 1) := by decide +kernel
theorem dX4_punish_38 : decode cX4_punish 38 = .ok (.getfield 40, 3) := by decide +kernel
theorem dX4_punish_41 : decode cX4_punish 41 = .ok (.aload_n 1, 1) := by decide +kernel
theorem dX4_punish_42 : decode cX4_punish 42 = .ok (.getfield 144, 3) := by decide +kernel
theorem dX4_punish_45 : decode cX4_punish 45 = .ok (.aload_n 1, 1) := by decide +kernel
theorem dX4_punish_46 : decode cX4_punish 46 = .ok (.getfield 172, 3) := by decide +kernel
theorem dX4_punish_49 : decode cX4_punish 49 = .ok (.iconst 2, 1) := by decide +kernel
theorem dX4_punish_50 : decode cX4_punish 50 = .ok (.idiv, 1) := by decide +kernel
theorem dX4_punish_51 : decode cX4_punish 51 = .ok (.invokevirtual 200, 3) := by decide +kernel
theorem dX4_punish_54 : decode cX4_punish 54 = .ok (.aload_n 0, 1) := by decide +kernel
theorem dX4_punish_55 : decode cX4_punish 55 = .ok (.getfield 40, 3) := by decide +kernel
theorem dX4_punish_58 : decode cX4_punish 58 = .ok (.aload_n 1, 1) := by decide +kernel
theorem dX4_punish_59 : decode cX4_punish 59 = .ok (.getfield 144, 3) := by decide +kernel
theorem dX4_punish_62 : decode cX4_punish 62 = .ok (.invokevirtual 203, 3) := by decide +kernel
theorem dX4_punish_65 : decode cX4_punish 65 = .ok (.goto 56, 3) := by decide +kernel
theorem dX4_punish_68 : decode cX4_punish 68 = .ok (.aload_n 0, 1) := by decide +kernel
theorem dX4_punish_69 : decode cX4_punish 69 = .ok (.getfield 40, 3) := by decide +kernel
theorem dX4_punish_72 : decode cX4_punish 72 = .ok (.aload_n 1, 1) := by decide +kernel
theorem dX4_punish_73 : decode cX4_punish 73 = .ok (.getfield 144, 3) := by decide +kernel
theorem dX4_punish_76 : decode cX4_punish 76 = .ok (.aload_n 0, 1) := by decide +kernel
theorem dX4_punish_77 : decode cX4_punish 77 = .ok (.aload_n 1, 1) := by decide +kernel
theorem dX4_punish_78 : decode cX4_punish 78 = .ok (.getfield 138, 3) := by decide +kernel
theorem dX4_punish_81 : decode cX4_punish 81 = .ok (.invokevirtual 215, 3) := by decide +kernel
theorem dX4_punish_84 : decode cX4_punish 84 = .ok (.ifCond .eq 10, 3) := by decide +kernel
theorem dX4_punish_87 : decode cX4_punish 87 = .ok (.aload_n 1, 1) := by decide +kernel
theorem dX4_punish_88 : decode cX4_punish 88 = .ok (.getfield 172, 3) := by decide +kernel
theorem dX4_punish_91 : decode cX4_punish 91 = .ok (.goto 11, 3) := by decide +kernel
theorem dX4_punish_94 : decode cX4_punish 94 = .ok (.aload_n 1, 1) := by decide +kernel
theorem dX4_punish_95 : decode cX4_punish 95 = .ok (.getfield 172, 3) := by decide +kernel
theorem dX4_punish_98 : decode cX4_punish 98 = .ok (.iconst 3, 1) := by decide +kernel
theorem dX4_punish_99 : decode cX4_punish 99 = .ok (.iadd, 1) := by decide +kernel
theorem dX4_punish_100 : decode cX4_punish 100 = .ok (.iconst 4, 1) := by decide +kernel
theorem dX4_punish_101 : decode cX4_punish 101 = .ok (.idiv, 1) := by decide +kernel
theorem dX4_punish_102 : decode cX4_punish 102 = .ok (.invokevirtual 200, 3) := by decide +kernel
theorem dX4_punish_105 : decode cX4_punish 105 = .ok (.aload_n 1, 1) := by decide +kernel
theorem dX4_punish_106 : decode cX4_punish 106 = .ok (.getfield 207, 3) := by decide +kernel
theorem dX4_punish_109 : decode cX4_punish 109 = .ok (.iconst 3, 1) := by decide +kernel
theorem dX4_punish_110 : decode cX4_punish 110 = .ok (.if_icmp .ne 11, 3) := by decide +kernel
theorem dX4_punish_113 : decode cX4_punish 113 = .ok (.aload_n 1, 1) := by decide +kernel
theorem dX4_punish_114 : decode cX4_punish 114 = .ok (.getfield 144, 3) := by decide +kernel
theorem dX4_punish_117 : decode cX4_punish 117 = .ok (.iconst (-1), 1) := by decide +kernel
theorem dX4_punish_118 : decode cX4_punish 118 = .ok (.putfield 218, 3) := by decide +kernel
theorem dX4_punish_121 : decode cX4_punish 121 = .ok (.return_, 1) := by decide +kernel
theorem dX4_isStrict_0 : decode cX4_isStrict 0 = .ok (.iconst 0, 1) := by decide +kernel
theorem dX4_isStrict_1 : decode cX4_isStrict 1 = .ok (.istore_n 2, 1) := by decide +kernel
theorem dX4_isStrict_2 : decode cX4_isStrict 2 = .ok (.iconst 0, 1) := by decide +kernel
theorem dX4_isStrict_3 : decode cX4_isStrict 3 = .ok (.istore_n 3, 1) := by decide +kernel
theorem dX4_isStrict_4 : decode cX4_isStrict 4 = .ok (.iload_n 3, 1) := by decide +kernel
theorem dX4_isStrict_5 : decode cX4_isStrict 5 = .ok (.aload_n 0, 1) := by decide +kernel
theorem dX4_isStrict_6 : decode cX4_isStrict 6 = .ok (.getfield 18, 3) := by decide +kernel
theorem dX4_isStrict_9 : decode cX4_isStrict 9 = .ok (.invokevirtual 48, 3) := by decide +kernel
theorem dX4_isStrict_12 : decode cX4_isStrict 12 = .ok (.if_icmp .ge 42, 3) := by decide +kernel
theorem dX4_isStrict_15 : decode cX4_isStrict 15 = .ok (.iload_n 2, 1) := by decide +kernel
theorem dX4_isStrict_16 : decode cX4_isStrict 16 = .ok (.aload_n 0, 1) := by decide +kernel
theorem dX4_isStrict_17 : decode cX4_isStrict 17 = .ok (.getfield 18, 3) := by decide +kernel
theorem dX4_isStrict_20 : decode cX4_isStrict 20 = .ok (.iload_n 3, 1) := by decide +kernel
theorem dX4_isStrict_21 : decode cX4_isStrict 21 = .ok (.invokevirtual 52, 3) := by decide +kernel
theorem dX4_isStrict_24 : decode cX4_isStrict 24 = .ok (.checkcast 91, 3) := by decide +kernel
theorem dX4_isStrict_27 : decode cX4_isStrict 27 = .ok (.getfield 107, 3) := by decide +kernel
theorem dX4_isStrict_30 : decode cX4_isStrict 30 = .ok (.iload_n 1, 1) := by decide +kernel
theorem dX4_isStrict_31 : decode cX4_isStrict 31 = .ok (.invokestatic 221, 3) := by decide +kernel
theorem dX4_isStrict_34 : decode cX4_isStrict 34 = .ok (.iconst 2, 1) := by decide +kernel
theorem dX4_isStrict_35 : decode cX4_isStrict 35 = .ok (.if_icmp .gt 7, 3) := by decide +kernel
theorem dX4_isStrict_38 : decode cX4_isStrict 38 = .ok (.iconst 1, 1) := by decide +kernel
theorem dX4_isStrict_39 : decode cX4_isStrict 39 = .ok (.goto 4, 3) := by decide +kernel
theorem dX4_isStrict_42 : decode cX4_isStrict 42 = .ok (.iconst 0, 1) := by decide +kernel
theorem dX4_isStrict_43 : decode cX4_isStrict 43 = .ok (.invokestatic 225, 3) := by decide +kernel
theorem dX4_isStrict_46 : decode cX4_isStrict 46 = .ok (.iadd, 1) := by decide +kernel
theorem dX4_isStrict_47 : decode cX4_isStrict 47 = .ok (.istore_n 2, 1) := by decide +kernel
theorem dX4_isStrict_48 : decode cX4_isStrict 48 = .ok (.iinc 3 1, 3) := by decide +kernel
theorem dX4_isStrict_51 : decode cX4_isStrict 51 = .ok (.goto (-47), 3) := by decide +kernel
theorem dX4_isStrict_54 : decode cX4_isStrict 54 = .ok (.iconst 2, 1) := by decide +kernel
theorem dX4_isStrict_55 : decode cX4_isStrict 55 = .ok (.iload_n 2, 1) := by decide +kernel
theorem dX4_isStrict_56 : decode cX4_isStrict 56 = .ok (.imul, 1) := by decide +kernel
theorem dX4_isStrict_57 : decode cX4_isStrict 57 = .ok (.aload_n 0, 1) := by decide +kernel
theorem dX4_isStrict_58 : decode cX4_isStrict 58 = .ok (.getfield 18, 3) := by decide +kernel
theorem dX4_isStrict_61 : decode cX4_isStrict 61 = .ok (.invokevirtual 48, 3) := by decide +kernel
theorem dX4_isStrict_64 : decode cX4_isStrict 64 = .ok (.if_icmp .le 7, 3) := by decide +kernel
theorem dX4_isStrict_67 : decode cX4_isStrict 67 = .ok (.iconst 1, 1) := by decide +kernel
theorem dX4_isStrict_68 : decode cX4_isStrict 68 = .ok (.goto 4, 3) := by decide +kernel
theorem dX4_isStrict_71 : decode cX4_isStrict 71 = .ok (.iconst 0, 1) := by decide +kernel
theorem dX4_isStrict_72 : decode cX4_isStrict 72 = .ok (.ireturn, 1) := by decide +kernel
theorem dX4_dropPublicSuits_0 : decode cX4_dropPublicSuits 0 = .ok (.aload_n 0, 1) := by decide +kernel
theorem dX4_dropPublicSuits_1 : decode cX4_dropPublicSuits 1 = .ok (.getfield 12, 3) := by decide +kernel
theorem dX4_dropPublicSuits_4 : decode cX4_dropPublicSuits 4 = .ok (.invokevirtual 48, 3) := by decide +kernel
theorem dX4_dropPublicSuits_7 : decode cX4_dropPublicSuits 7 = .ok (.iconst 1, 1) := by decide +kernel
theorem dX4_dropPublicSuits_8 : decode cX4_dropPublicSuits 8 = .ok (.isub, 1) := by decide +kernel
theorem dX4_dropPublicSuits_9 : decode cX4_dropPublicSuits 9 = .ok (.istore_n 1, 1) := by decide +kernel
theorem dX4_dropPublicSuits_10 : decode cX4_dropPublicSuits 10 = .ok (.iload_n 1, 1) := by decide +kernel
theorem dX4_dropPublicSuits_11 : decode cX4_dropPublicSuits 11 = .ok (.ifCond .lt 45, 3) := by decide +kernel
theorem dX4_dropPublicSuits_14 : decode cX4_dropPublicSuits 14 = .ok (.aload_n 0, 1) := by decide +kernel
theorem dX4_dropPublicSuits_15 : decode cX4_dropPublicSuits 15 = .ok (.getfield 12, 3) := by decide +kernel
theorem dX4_dropPublicSuits_18 : decode cX4_dropPublicSuits 18 = .ok (.iload_n 1, 1) := by decide +kernel
theorem dX4_dropPublicSuits_19 : decode cX4_dropPublicSuits 19 = .ok (.invokevirtual 52, 3) := by decide +kernel
theorem dX4_dropPublicSuits_22 : decode cX4_dropPublicSuits 22 = .ok (.checkcast 56, 3) := by decide +kernel
theorem dX4_dropPublicSuits_25 : decode cX4_dropPublicSuits 25 = .ok (.invokevirtual 194, 3) := by decide +kernel
theorem dX4_dropPublicSuits_28 : decode cX4_dropPublicSuits 28 = .ok (.ifCond .ne 22, 3) := by decide +kernel
theorem dX4_dropPublicSuits_31 : decode cX4_dropPublicSuits 31 = .ok (.aload_n 0, 1) := by decide +kernel
theorem dX4_dropPublicSuits_32 : decode cX4_dropPublicSuits 32 = .ok (.getfield 12, 3) := by decide +kernel
theorem dX4_dropPublicSuits_35 : decode cX4_dropPublicSuits 35 = .ok (.iload_n 1, 1) := by decide +kernel
theorem dX4_dropPublicSuits_36 : decode cX4_dropPublicSuits 36 = .ok (.invokevirtual 151, 3) := by decide +kernel
theorem dX4_dropPublicSuits_39 : decode cX4_dropPublicSuits 39 = .ok (.pop, 1) := by decide +kernel
theorem dX4_dropPublicSuits_40 : decode cX4_dropPublicSuits 40 = .ok (.aload_n 0, 1) := by decide +kernel
theorem dX4_dropPublicSuits_41 : decode cX4_dropPublicSuits 41 = .ok (.dup, 1) := by decide +kernel
theorem dX4_dropPublicSuits_42 : decode cX4_dropPublicSuits 42 = .ok (.getfield 34, 3) := by decide +kernel
theorem dX4_dropPublicSuits_45 : decode cX4_dropPublicSuits 45 = .ok (.iconst 1, 1) := by decide +kernel
theorem dX4_dropPublicSuits_46 : decode cX4_dropPublicSuits 46 = .ok (.iadd, 1) := by decide +kernel
theorem dX4_dropPublicSuits_47 : decode cX4_dropPublicSuits 47 = .ok (.putfield 34, 3) := by decide +kernel
theorem dX4_dropPublicSuits_50 : decode cX4_dropPublicSuits 50 = .ok (.iinc 1 (-1), 3) := by decide +kernel
theorem dX4_dropPublicSuits_53 : decode cX4_dropPublicSuits 53 = .ok (.goto (-43), 3) := by decide +kernel
theorem dX4_dropPublicSuits_56 : decode cX4_dropPublicSuits 56 = .ok (.return_, 1) := by decide +kernel
theorem dX5_init_0 : decode cX5_init 0 = .ok (.aload_n 0, 1) := by decide +kernel
theorem dX5_init_1 : decode cX5_init 1 = .ok (.invokespecial 3, 3) := by decide +kernel
theorem dX5_init_4 : decode cX5_init 4 = .ok (.aload_n 0, 1) := by decide +kernel
theorem dX5_init_5 : decode cX5_init 5 = .ok (.iconst 0, 1) := by decide +kernel
theorem dX5_init_6 : decode cX5_init 6 = .ok (.putfield 9, 3) := by decide +kernel
theorem dX5_init_9 : decode cX5_init 9 = .ok (.aload_n 0, 1) := by decide +kernel
theorem dX5_init_10 : decode cX5_init 10 = .ok (.iconst 4, 1) := by decide +kernel
theorem dX5_init_11 : decode cX5_init 11 = .ok (.newarray .int, 2) := by decide +kernel
theorem dX5_init_13 : decode cX5_init 13 = .ok (.putfield 15, 3) := by decide +kernel
theorem dX5_init_16 : decode cX5_init 16 = .ok (.aload_n 0, 1) := by decide +kernel
theorem dX5_init_17 : decode cX5_init 17 = .ok (.iconst 4, 1) := by decide +kernel
theorem dX5_init_18 : decode cX5_init 18 = .ok (.newarray .int, 2) := by decide +kernel
theorem dX5_init_20 : decode cX5_init 20 = .ok (.putfield 19, 3) := by decide +kernel
theorem dX5_init_23 : decode cX5_init 23 = .ok (.aload_n 0, 1) := by decide +kernel
theorem dX5_init_24 : decode cX5_init 24 = .ok (.iconst 4, 1) := by decide +kernel
theorem dX5_init_25 : decode cX5_init 25 = .ok (.newarray .int, 2) := by decide +kernel
theorem dX5_init_27 : decode cX5_init 27 = .ok (.putfield 22, 3) := by decide +kernel
theorem dX5_init_30 : decode cX5_init 30 = .ok (.aload_n 0, 1) := by decide +kernel
theorem dX5_init_31 : decode cX5_init 31 = .ok (.iconst 4, 1) := by decide +kernel
theorem dX5_init_32 : decode cX5_init 32 = .ok (.newarray .int, 2) := by decide +kernel
theorem dX5_init_34 : decode cX5_init 34 = .ok (.putfield 25, 3) := by decide +kernel
theorem dX5_init_37 : decode cX5_init 37 = .ok (.aload_n 0, 1) := by decide +kernel
theorem dX5_init_38 : decode cX5_init 38 = .ok (.iconst 4, 1) := by decide +kernel
theorem dX5_init_39 : decode cX5_init 39 = .ok (.newarray .int, 2) := by decide +kernel
theorem dX5_init_41 : decode cX5_init 41 = .ok (.putfield 28, 3) := by decide +kernel
theorem dX5_init_44 : decode cX5_init 44 = .ok (.aload_n 0, 1) := by decide +kernel
theorem dX5_init_45 : decode cX5_init 45 = .ok (.iconst 4, 1) := by decide +kernel
theorem dX5_init_46 : decode cX5_init 46 = .ok (.newarray .int, 2) := by decide +kernel
theorem dX5_init_48 : decode cX5_init 48 = .ok (.putfield 31, 3) := by decide +kernel
theorem dX5_init_51 : decode cX5_init 51 = .ok (.aload_n 0, 1) := by decide +kernel
theorem dX5_init_52 : decode cX5_init 52 = .ok (.new 34, 3) := by decide +kernel
theorem dX5_init_55 : decode cX5_init 55 = .ok (.dup, 1) := by decide +kernel
theorem dX5_init_56 : decode cX5_init 56 = .ok (.invokespecial 36, 3) := by decide +kernel
theorem dX5_init_59 : decode cX5_init 59 = .ok (.putfield 37, 3) := by decide +kernel
theorem dX5_init_62 : decode cX5_init 62 = .ok (.aload_n 0, 1) := by decide +kernel
theorem dX5_init_63 : decode cX5_init 63 = .ok (.new 34, 3) := by decide +kernel
theorem dX5_init_66 : decode cX5_init 66 = .ok (.dup, 1) := by decide +kernel
theorem dX5_init_67 : decode cX5_init 67 = .ok (.invokespecial 36, 3) := by decide +kernel
theorem dX5_init_70 : decode cX5_init 70 = .ok (.putfield 41, 3) := by decide +kernel
theorem dX5_init_73 : decode cX5_init 73 = .ok (.aload_n 0, 1) := by decide +kernel
theorem dX5_init_74 : decode cX5_init 74 = .ok (.iconst (-1), 1) := by decide +kernel
theorem dX5_init_75 : decode cX5_init 75 = .ok (.putfield 44, 3) := by decide +kernel
theorem dX5_init_78 : decode cX5_init 78 = .ok (.aload_n 0, 1) := by decide +kernel
theorem dX5_init_79 : decode cX5_init 79 = .ok (.aload_n 1, 1) := by decide +kernel
theorem dX5_init_80 : decode cX5_init 80 = .ok (.putfield 47, 3) := by decide +kernel
theorem dX5_init_83 : decode cX5_init 83 = .ok (.return_, 1) := by decide +kernel
theorem dX5_addAlly_0 : decode cX5_addAlly 0 = .ok (.aload_n 0, 1) := by decide +kernel
theorem dX5_addAlly_1 : decode cX5_addAlly 1 = .ok (.getfield 15, 3) := by decide +kernel
theorem dX5_addAlly_4 : decode cX5_addAlly 4 = .ok (.aload_n 0, 1) := by decide +kernel
theorem dX5_addAlly_5 : decode cX5_addAlly 5 = .ok (.getfield 9, 3) := by decide +kernel
theorem dX5_addAlly_8 : decode cX5_addAlly 8 = .ok (.iload_n 1, 1) := by decide +kernel
theorem dX5_addAlly_9 : decode cX5_addAlly 9 = .ok (.invokestatic 51, 3) := by decide +kernel
theorem dX5_addAlly_12 : decode cX5_addAlly 12 = .ok (.aload_n 0, 1) := by decide +kernel
theorem dX5_addAlly_13 : decode cX5_addAlly 13 = .ok (.getfield 19, 3) := by decide +kernel
theorem dX5_addAlly_16 : decode cX5_addAlly 16 = .ok (.aload_n 0, 1) := by decide +kernel
theorem dX5_addAlly_17 : decode cX5_addAlly 17 = .ok (.getfield 9, 3) := by decide +kernel
theorem dX5_addAlly_20 : decode cX5_addAlly 20 = .ok (.iload_n 2, 1) := by decide +kernel
theorem dX5_addAlly_21 : decode cX5_addAlly 21 = .ok (.invokestatic 51, 3) := by decide +kernel
theorem dX5_addAlly_24 : decode cX5_addAlly 24 = .ok (.aload_n 0, 1) := by decide +kernel
theorem dX5_addAlly_25 : decode cX5_addAlly 25 = .ok (.dup, 1) := by decide +kernel
theorem dX5_addAlly_26 : decode cX5_addAlly 26 = .ok (.getfield 9, 3) := by decide +kernel
theorem dX5_addAlly_29 : decode cX5_addAlly 29 = .ok (.iconst 1, 1) := by decide +kernel
theorem dX5_addAlly_30 : decode cX5_addAlly 30 = .ok (.iadd, 1) := by decide +kernel
theorem dX5_addAlly_31 : decode cX5_addAlly 31 = .ok (.putfield 9, 3) := by decide +kernel
theorem dX5_addAlly_34 : decode cX5_addAlly 34 = .ok (.aload_n 0, 1) := by decide +kernel
theorem dX5_addAlly_35 : decode cX5_addAlly 35 = .ok (.getfield 9, 3) := by decide +kernel
theorem dX5_addAlly_38 : decode cX5_addAlly 38 = .ok (.ireturn, 1) := by decide +kernel
theorem dX5_allTribute_0 : decode cX5_allTribute 0 = .ok (.iconst 0, 1) := by decide +kernel
theorem dX5_allTribute_1 : decode cX5_allTribute 1 = .ok (.istore_n 1, 1) := by decide +kernel
theorem dX5_allTribute_2 : decode cX5_allTribute 2 = .ok (.iconst 0, 1) := by decide +kernel
theorem dX5_allTribute_3 : decode cX5_allTribute 3 = .ok (.istore_n 2, 1) := by decide +kernel
theorem dX5_allTribute_4 : decode cX5_allTribute 4 = .ok (.iload_n 2, 1) := by decide +kernel
theorem dX5_allTribute_5 : decode cX5_allTribute 5 = .ok (.aload_n 0, 1) := by decide +kernel
theorem dX5_allTribute_6 : decode cX5_allTribute 6 = .ok (.getfield 9, 3) := by decide +kernel
theorem dX5_allTribute_9 : decode cX5_allTribute 9 = .ok (.if_icmp .ge 20, 3) := by decide +kernel
theorem dX5_allTribute_12 : decode cX5_allTribute 12 = .ok (.iload_n 1, 1) := by decide +kernel
theorem dX5_allTribute_13 : decode cX5_allTribute 13 = .ok (.aload_n 0, 1) := by decide +kernel
theorem dX5_allTribute_14 : decode cX5_allTribute 14 = .ok (.getfield 15, 3) := by decide +kernel
theorem dX5_allTribute_17 : decode cX5_allTribute 17 = .ok (.iload_n 2, 1) := by decide +kernel
theorem dX5_allTribute_18 : decode cX5_allTribute 18 = .ok (.invokestatic 55, 3) := by decide +kernel
theorem dX5_allTribute_21 : decode cX5_allTribute 21 = .ok (.iadd, 1) := by decide +kernel
theorem dX5_allTribute_22 : decode cX5_allTribute 22 = .ok (.istore_n 1, 1) := by decide +kernel
theorem dX5_allTribute_23 : decode cX5_allTribute 23 = .ok (.iinc 2 1, 3) := by decide +kernel
theorem dX5_allTribute_26 : decode cX5_allTribute 26 = .ok (.goto (-22), 3) := by decide +kernel
theorem dX5_allTribute_29 : decode cX5_allTribute 29 = .ok (.iload_n 1, 1) := by decide +kernel
theorem dX5_allTribute_30 : decode cX5_allTribute 30 = .ok (.ireturn, 1) := by decide +kernel
theorem dX5_settleAllies_0 : decode cX5_settleAllies 0 = .ok (.aload_n 0, 1) := by decide +kernel
theorem dX5_settleAllies_1 : decode cX5_settleAllies 1 = .ok (.getfield 9, 3) := by decide +kernel
theorem dX5_settleAllies_4 : decode cX5_settleAllies 4 = .ok (.istore_n 1, 1) := by decide +kernel
theorem dX5_settleAllies_5 : decode cX5_settleAllies 5 = .ok (.aload_n 0, 1) := by decide +kernel
theorem dX5_settleAllies_6 : decode cX5_settleAllies 6 = .ok (.iconst 0, 1) := by decide +kernel
theorem dX5_settleAllies_7 : decode cX5_settleAllies 7 = .ok (.putfield 9, 3) := by decide +kernel
theorem dX5_settleAllies_10 : decode cX5_settleAllies 10 = .ok (.iconst 0, 1) := by decide +kernel
theorem dX5_settleAllies_11 : decode cX5_settleAllies 11 = .ok (.istore_n 2, 1) := by decide +kernel
theorem dX5_settleAllies_12 : decode cX5_settleAllies 12 = .ok (.iload_n 2, 1) := by decide +kernel
theorem dX5_settleAllies_13 : decode cX5_settleAllies 13 = .ok (.iload_n 1, 1) := by decide +kernel
theorem dX5_settleAllies_14 : decode cX5_settleAllies 14 = .ok (.if_icmp .ge 80, 3) := by decide +kernel
theorem dX5_settleAllies_17 : decode cX5_settleAllies 17 = .ok (.aload_n 0, 1) := by decide +kernel
theorem dX5_settleAllies_18 : decode cX5_settleAllies 18 = .ok (.getfield 19, 3) := by decide +kernel
theorem dX5_settleAllies_21 : decode cX5_settleAllies 21 = .ok (.iload_n 2, 1) := by decide +kernel
theorem dX5_settleAllies_22 : decode cX5_settleAllies 22 = .ok (.invokestatic 55, 3) := by decide +kernel
theorem dX5_settleAllies_25 : decode cX5_settleAllies 25 = .ok (.istore_n 3, 1) := by decide +kernel
theorem dX5_settleAllies_26 : decode cX5_settleAllies 26 = .ok (.iload_n 3, 1) := by decide +kernel
theorem dX5_settleAllies_27 : decode cX5_settleAllies 27 = .ok (.bipush 20, 2) := by decide +kernel
theorem dX5_settleAllies_29 : decode cX5_settleAllies 29 = .ok (.bipush 20, 2) := by decide +kernel
theorem dX5_settleAllies_31 : decode cX5_settleAllies 31 = .ok (.aload_n 0, 1) := by decide +kernel
theorem dX5_settleAllies_32 : decode cX5_settleAllies 32 = .ok (.getfield 47, 3) := by decide +kernel
theorem dX5_settleAllies_35 : decode cX5_settleAllies 35 = .ok (.getfield 59, 3) := by decide +kernel
theorem dX5_settleAllies_38 : decode cX5_settleAllies 38 = .ok (.imul, 1) := by decide +kernel
theorem dX5_settleAllies_39 : decode cX5_settleAllies 39 = .ok (.iadd, 1) := by decide +kernel
theorem dX5_settleAllies_40 : decode cX5_settleAllies 40 = .ok (.if_icmp .le 19, 3) := by decide +kernel
theorem dX5_settleAllies_43 : decode cX5_settleAllies 43 = .ok (.aload_n 0, 1) := by decide +kernel
theorem dX5_settleAllies_44 : decode cX5_settleAllies 44 = .ok (.getfield 47, 3) := by decide +kernel
theorem dX5_settleAllies_47 : decode cX5_settleAllies 47 = .ok (.dup, 1) := by decide +kernel
theorem dX5_settleAllies_48 : decode cX5_settleAllies 48 = .ok (.getfield 64, 3) := by decide +kernel
theorem dX5_settleAllies_51 : decode cX5_settleAllies 51 = .ok (.iconst 2, 1) := by decide +kernel
theorem dX5_settleAllies_52 : decode cX5_settleAllies 52 = .ok (.iadd, 1) := by decide +kernel
theorem dX5_settleAllies_53 : decode cX5_settleAllies 53 = .ok (.putfield 64, 3) := by decide +kernel
theorem dX5_settleAllies_56 : decode cX5_settleAllies 56 = .ok (.goto 32, 3) := by decide +kernel
theorem dX5_settleAllies_59 : decode cX5_settleAllies 59 = .ok (.aload_n 0, 1) := by decide +kernel
theorem dX5_settleAllies_60 : decode cX5_settleAllies 60 = .ok (.getfield 47, 3) := by decide +kernel
theorem dX5_settleAllies_63 : decode cX5_settleAllies 63 = .ok (.aload_n 0, 1) := by decide +kernel
theorem dX5_settleAllies_64 : decode cX5_settleAllies 64 = .ok (.getfield 15, 3) := by decide +kernel
theorem dX5_settleAllies_67 : decode cX5_settleAllies 67 = .ok (.iload_n 2, 1) := by decide +kernel
theorem dX5_settleAllies_68 : decode cX5_settleAllies 68 = .ok (.invokestatic 55, 3) := by decide +kernel
theorem dX5_settleAllies_71 : decode cX5_settleAllies 71 = .ok (.invokevirtual 67, 3) := by decide +kernel
theorem dX5_settleAllies_74 : decode cX5_settleAllies 74 = .ok (.aload_n 0, 1) := by decide +kernel
theorem dX5_settleAllies_75 : decode cX5_settleAllies 75 = .ok (.aload_n 0, 1) := by decide +kernel
theorem dX5_settleAllies_76 : decode cX5_settleAllies 76 = .ok (.getfield 15, 3) := by decide +kernel
theorem dX5_settleAllies_79 : decode cX5_settleAllies 79 = .ok (.iload_n 2, 1) := by decide +kernel
theorem dX5_settleAllies_80 : decode cX5_settleAllies 80 = .ok (.invokestatic 55, 3) := by decide +kernel
theorem dX5_settleAllies_83 : decode cX5_settleAllies 83 = .ok (.iload_n 3, 1) := by decide +kernel
theorem dX5_settleAllies_84 : decode cX5_settleAllies 84 = .ok (.invokevirtual 71, 3) := by decide +kernel
theorem dX5_settleAllies_87 : decode cX5_settleAllies 87 = .ok (.pop, 1) := by decide +kernel
theorem dX5_settleAllies_88 : decode cX5_settleAllies 88 = .ok (.iinc 2 1, 3) := by decide +kernel
theorem dX5_settleAllies_91 : decode cX5_settleAllies 91 = .ok (.goto (-79), 3) := by decide +kernel
theorem dX5_settleAllies_94 : decode cX5_settleAllies 94 = .ok (.return_, 1) := by decide +kernel
theorem dX5_fineIdle_0 : decode cX5_fineIdle 0 = .ok (.iconst 0, 1) := by decide +kernel
theorem dX5_fineIdle_1 : decode cX5_fineIdle 1 = .ok (.istore_n 1, 1) := by decide +kernel
theorem dX5_fineIdle_2 : decode cX5_fineIdle 2 = .ok (.iload_n 1, 1) := by decide +kernel
theorem dX5_fineIdle_3 : decode cX5_fineIdle 3 = .ok (.aload_n 0, 1) := by decide +kernel
theorem dX5_fineIdle_4 : decode cX5_fineIdle 4 = .ok (.getfield 47, 3) := by decide +kernel
theorem dX5_fineIdle_7 : decode cX5_fineIdle 7 = .ok (.getfield 75, 3) := by decide +kernel
theorem dX5_fineIdle_10 : decode cX5_fineIdle 10 = .ok (.invokevirtual 78, 3) := by decide +kernel
theorem dX5_fineIdle_13 : decode cX5_fineIdle 13 = .ok (.if_icmp .ge 52, 3) := by decide +kernel
theorem dX5_fineIdle_16 : decode cX5_fineIdle 16 = .ok (.aload_n 0, 1) := by decide +kernel
theorem dX5_fineIdle_17 : decode cX5_fineIdle 17 = .ok (.getfield 47, 3) := by decide +kernel
theorem dX5_fineIdle_20 : decode cX5_fineIdle 20 = .ok (.getfield 75, 3) := by decide +kernel
theorem dX5_fineIdle_23 : decode cX5_fineIdle 23 = .ok (.iload_n 1, 1) := by decide +kernel
theorem dX5_fineIdle_24 : decode cX5_fineIdle 24 = .ok (.invokevirtual 82, 3) := by decide +kernel
theorem dX5_fineIdle_27 : decode cX5_fineIdle 27 = .ok (.checkcast 86, 3) := by decide +kernel
theorem dX5_fineIdle_30 : decode cX5_fineIdle 30 = .ok (.invokevirtual 88, 3) := by decide +kernel
theorem dX5_fineIdle_33 : decode cX5_fineIdle 33 = .ok (.ifCond .eq 26, 3) := by decide +kernel
theorem dX5_fineIdle_36 : decode cX5_fineIdle 36 = .ok (.aload_n 0, 1) := by decide +kernel
theorem dX5_fineIdle_37 : decode cX5_fineIdle 37 = .ok (.getfield 47, 3) := by decide +kernel
theorem dX5_fineIdle_40 : decode cX5_fineIdle 40 = .ok (.aload_n 0, 1) := by decide +kernel
theorem dX5_fineIdle_41 : decode cX5_fineIdle 41 = .ok (.getfield 47, 3) := by decide +kernel
theorem dX5_fineIdle_44 : decode cX5_fineIdle 44 = .ok (.getfield 75, 3) := by decide +kernel
theorem dX5_fineIdle_47 : decode cX5_fineIdle 47 = .ok (.iload_n 1, 1) := by decide +kernel
theorem dX5_fineIdle_48 : decode cX5_fineIdle 48 = .ok (.invokevirtual 82, 3) := by decide +kernel
theorem dX5_fineIdle_51 : decode cX5_fineIdle 51 = .ok (.checkcast 86, 3) := by decide +kernel
theorem dX5_fineIdle_54 : decode cX5_fineIdle 54 = .ok (.bipush 60, 2) := by decide +kernel
theorem dX5_fineIdle_56 : decode cX5_fineIdle 56 = .ok (.invokevirtual 92, 3) := by decide +kernel
theorem dX5_fineIdle_59 : decode cX5_fineIdle 59 = .ok (.iinc 1 1, 3) := by decide +kernel
theorem dX5_fineIdle_62 : decode cX5_fineIdle 62 = .ok (.goto (-60), 3) := by decide +kernel
theorem dX5_fineIdle_65 : decode cX5_fineIdle 65 = .ok (.return_, 1) := by decide +kernel
theorem dX5_toBearIn_0 : decode cX5_toBearIn 0 = .ok (.iconst 0, 1) := by decide +kernel
theorem dX5_toBearIn_1 : decode cX5_toBearIn 1 = .ok (.istore_n 2, 1) := by decide +kernel
theorem dX5_toBearIn_2 : decode cX5_toBearIn 2 = .ok (.iconst 0, 1) := by decide +kernel
theorem dX5_toBearIn_3 : decode cX5_toBearIn 3 = .ok (.istore_n 3, 1) := by decide +kernel
theorem dX5_toBearIn_4 : decode cX5_toBearIn 4 = .ok (.iload_n 3, 1) := by decide +kernel
theorem dX5_toBearIn_5 : decode cX5_toBearIn 5 = .ok (.aload_n 0, 1) := by decide +kernel
theorem dX5_toBearIn_6 : decode cX5_toBearIn 6 = .ok (.getfield 47, 3) := by decide +kernel
theorem dX5_toBearIn_9 : decode cX5_toBearIn 9 = .ok (.getfield 75, 3) := by decide +kernel
theorem dX5_toBearIn_12 : decode cX5_toBearIn 12 = .ok (.invokevirtual 78, 3) := by decide +kernel
theorem dX5_toBearIn_15 : decode cX5_toBearIn 15 = .ok (.if_icmp .ge 53, 3) := by decide +kernel
theorem dX5_toBearIn_18 : decode cX5_toBearIn 18 = .ok (.aload_n 0, 1) := by decide +kernel
theorem dX5_toBearIn_19 : decode cX5_toBearIn 19 = .ok (.getfield 47, 3) := by decide +kernel
theorem dX5_toBearIn_22 : decode cX5_toBearIn 22 = .ok (.getfield 75, 3) := by decide +kernel
theorem dX5_toBearIn_25 : decode cX5_toBearIn 25 = .ok (.iload_n 3, 1) := by decide +kernel
theorem dX5_toBearIn_26 : decode cX5_toBearIn 26 = .ok (.invokevirtual 82, 3) := by decide +kernel
theorem dX5_toBearIn_29 : decode cX5_toBearIn 29 = .ok (.checkcast 86, 3) := by decide +kernel
theorem dX5_toBearIn_32 : decode cX5_toBearIn 32 = .ok (.astore 4, 2) := by decide +kernel
theorem dX5_toBearIn_34 : decode cX5_toBearIn 34 = .ok (.iload_n 2, 1) := by decide +kernel
theorem dX5_toBearIn_35 : decode cX5_toBearIn 35 = .ok (.aload 4, 2) := by decide +kernel
theorem dX5_toBearIn_37 : decode cX5_toBearIn 37 = .ok (.invokevirtual 96, 3) := by decide +kernel
theorem dX5_toBearIn_40 : decode cX5_toBearIn 40 = .ok (.iload_n 1, 1) := by decide +kernel
theorem dX5_toBearIn_41 : decode cX5_toBearIn 41 = .ok (.if_icmp .ne 15, 3) := by decide +kernel
theorem dX5_toBearIn_44 : decode cX5_toBearIn 44 = .ok (.aload 4, 2) := by decide +kernel
theorem dX5_toBearIn_46 : decode cX5_toBearIn 46 = .ok (.invokevirtual 88, 3) := by decide +kernel
theorem dX5_toBearIn_49 : decode cX5_toBearIn 49 = .ok (.ifCond .eq 7, 3) := by decide +kernel
theorem dX5_toBearIn_52 : decode cX5_toBearIn 52 = .ok (.iconst 1, 1) := by decide +kernel
theorem dX5_toBearIn_53 : decode cX5_toBearIn 53 = .ok (.goto 4, 3) := by decide +kernel
theorem dX5_toBearIn_56 : decode cX5_toBearIn 56 = .ok (.iconst 0, 1) := by decide +kernel
theorem dX5_toBearIn_57 : decode cX5_toBearIn 57 = .ok (.invokestatic 99, 3) := by decide +kernel
theorem dX5_toBearIn_60 : decode cX5_toBearIn 60 = .ok (.iadd, 1) := by decide +kernel
theorem dX5_toBearIn_61 : decode cX5_toBearIn 61 = .ok (.istore_n 2, 1) := by decide +kernel
theorem dX5_toBearIn_62 : decode cX5_toBearIn 62 = .ok (.iinc 3 1, 3) := by decide +kernel
theorem dX5_toBearIn_65 : decode cX5_toBearIn 65 = .ok (.goto (-61), 3) := by decide +kernel
theorem dX5_toBearIn_68 : decode cX5_toBearIn 68 = .ok (.iload_n 2, 1) := by decide +kernel
theorem dX5_toBearIn_69 : decode cX5_toBearIn 69 = .ok (.ireturn, 1) := by decide +kernel
theorem dX5_tellBurdens_0 : decode cX5_tellBurdens 0 = .ok (.aload_n 0, 1) := by decide +kernel
theorem dX5_tellBurdens_1 : decode cX5_tellBurdens 1 = .ok (.getfield 47, 3) := by decide +kernel
theorem dX5_tellBurdens_4 : decode cX5_tellBurdens 4 = .ok (.iconst 0, 1) := by decide +kernel
theorem dX5_tellBurdens_5 : decode cX5_tellBurdens 5 = .ok (.putfield 59, 3) := by decide +kernel
theorem dX5_tellBurdens_8 : decode cX5_tellBurdens 8 = .ok (.aload_n 0, 1) := by decide +kernel
theorem dX5_tellBurdens_9 : decode cX5_tellBurdens 9 = .ok (.getfield 22, 3) := by decide +kernel
theorem dX5_tellBurdens_12 : decode cX5_tellBurdens 12 = .ok (.iconst 0, 1) := by decide +kernel
theorem dX5_tellBurdens_13 : decode cX5_tellBurdens 13 = .ok (.invokestatic 103, 3) := by decide +kernel
theorem dX5_tellBurdens_16 : decode cX5_tellBurdens 16 = .ok (.iconst 0, 1) := by decide +kernel
theorem dX5_tellBurdens_17 : decode cX5_tellBurdens 17 = .ok (.istore_n 1, 1) := by decide +kernel
theorem dX5_tellBurdens_18 : decode cX5_tellBurdens 18 = .ok (.iload_n 1, 1) := by decide +kernel
theorem dX5_tellBurdens_19 : decode cX5_tellBurdens 19 = .ok (.aload_n 0, 1) := by decide +kernel
theorem dX5_tellBurdens_20 : decode cX5_tellBurdens 20 = .ok (.getfield 47, 3) := by decide +kernel
theorem dX5_tellBurdens_23 : decode cX5_tellBurdens 23 = .ok (.getfield 75, 3) := by decide +kernel
theorem dX5_tellBurdens_26 : decode cX5_tellBurdens 26 = .ok (.invokevirtual 78, 3) := by decide +kernel
theorem dX5_tellBurdens_29 : decode cX5_tellBurdens 29 = .ok (.if_icmp .ge 55, 3) := by decide +kernel
theorem dX5_tellBurdens_32 : decode cX5_tellBurdens 32 = .ok (.aload_n 0, 1) := by decide +kernel
theorem dX5_tellBurdens_33 : decode cX5_tellBurdens 33 = .ok (.getfield 47, 3) := by decide +kernel
theorem dX5_tellBurdens_36 : decode cX5_tellBurdens 36 = .ok (.getfield 75, 3) := by decide +kernel
theorem dX5_tellBurdens_39 : decode cX5_tellBurdens 39 = .ok (.iload_n 1, 1) := by decide +kernel
theorem dX5_tellBurdens_40 : decode cX5_tellBurdens 40 = .ok (.invokevirtual 82, 3) := by decide +kernel
theorem dX5_tellBurdens_43 : decode cX5_tellBurdens 43 = .ok (.checkcast 86, 3) := by decide +kernel
theorem dX5_tellBurdens_46 : decode cX5_tellBurdens 46 = .ok (.astore_n 2, 1) := by decide +kernel
theorem dX5_tellBurdens_47 : decode cX5_tellBurdens 47 = .ok (.aload_n 2, 1) := by decide +kernel
theorem dX5_tellBurdens_48 : decode cX5_tellBurdens 48 = .ok (.aload_n 2, 1) := by decide +kernel
theorem dX5_tellBurdens_49 : decode cX5_tellBurdens 49 = .ok (.getfield 109, 3) := by decide +kernel
theorem dX5_tellBurdens_52 : decode cX5_tellBurdens 52 = .ok (.ifCond .eq 7, 3) := by decide +kernel
theorem dX5_tellBurdens_55 : decode cX5_tellBurdens 55 = .ok (.iconst 1, 1) := by decide +kernel
theorem dX5_tellBurdens_56 : decode cX5_tellBurdens 56 = .ok (.goto 4, 3) := by decide +kernel
theorem dX5_tellBurdens_59 : decode cX5_tellBurdens 59 = .ok (.iconst 0, 1) := by decide +kernel
theorem dX5_tellBurdens_60 : decode cX5_tellBurdens 60 = .ok (.putfield 112, 3) := by decide +kernel
theorem dX5_tellBurdens_63 : decode cX5_tellBurdens 63 = .ok (.aload_n 2, 1) := by decide +kernel
theorem dX5_tellBurdens_64 : decode cX5_tellBurdens 64 = .ok (.iconst 0, 1) := by decide +kernel
theorem dX5_tellBurdens_65 : decode cX5_tellBurdens 65 = .ok (.putfield 109, 3) := by decide +kernel
theorem dX5_tellBurdens_68 : decode cX5_tellBurdens 68 = .ok (.aload_n 2, 1) := by decide +kernel
theorem dX5_tellBurdens_69 : decode cX5_tellBurdens 69 = .ok (.iconst 0, 1) := by decide +kernel
theorem dX5_tellBurdens_70 : decode cX5_tellBurdens 70 = .ok (.putfield 116, 3) := by decide +kernel
theorem dX5_tellBurdens_73 : decode cX5_tellBurdens 73 = .ok (.aload_n 2, 1) := by decide +kernel
theorem dX5_tellBurdens_74 : decode cX5_tellBurdens 74 = .ok (.iconst 0, 1) := by decide +kernel
theorem dX5_tellBurdens_75 : decode cX5_tellBurdens 75 = .ok (.putfield 119, 3) := by decide +kernel
theorem dX5_tellBurdens_78 : decode cX5_tellBurdens 78 = .ok (.iinc 1 1, 3) := by decide +kernel
theorem dX5_tellBurdens_81 : decode cX5_tellBurdens 81 = .ok (.goto (-63), 3) := by decide +kernel
theorem dX5_tellBurdens_84 : decode cX5_tellBurdens 84 = .ok (.iconst 0, 1) := by decide +kernel
theorem dX5_tellBurdens_85 : decode cX5_tellBurdens 85 = .ok (.istore_n 1, 1) := by decide +kernel
theorem dX5_tellBurdens_86 : decode cX5_tellBurdens 86 = .ok (.iload_n 1, 1) := by decide +kernel
theorem dX5_tellBurdens_87 : decode cX5_tellBurdens 87 = .ok (.iconst 4, 1) := by decide +kernel
theorem dX5_tellBurdens_88 : decode cX5_tellBurdens 88 = .ok (.if_icmp .ge 21, 3) := by decide +kernel
theorem dX5_tellBurdens_91 : decode cX5_tellBurdens 91 = .ok (.aload_n 0, 1) := by decide +kernel
theorem dX5_tellBurdens_92 : decode cX5_tellBurdens 92 = .ok (.iload_n 1, 1) := by decide +kernel
theorem dX5_tellBurdens_93 : decode cX5_tellBurdens 93 = .ok (.iconst 1, 1) := by decide +kernel
theorem dX5_tellBurdens_94 : decode cX5_tellBurdens 94 = .ok (.invokevirtual 122, 3) := by decide +kernel
theorem dX5_tellBurdens_97 : decode cX5_tellBurdens 97 = .ok (.aload_n 0, 1) := by decide +kernel
theorem dX5_tellBurdens_98 : decode cX5_tellBurdens 98 = .ok (.iload_n 1, 1) := by decide +kernel
theorem dX5_tellBurdens_99 : decode cX5_tellBurdens 99 = .ok (.iconst 2, 1) := by decide +kernel
theorem dX5_tellBurdens_100 : decode cX5_tellBurdens 100 = .ok (.invokevirtual 122, 3) := by decide +kernel
theorem dX5_tellBurdens_103 : decode cX5_tellBurdens 103 = .ok (.iinc 1 1, 3) := by decide +kernel
theorem dX5_tellBurdens_106 : decode cX5_tellBurdens 106 = .ok (.goto (-20), 3) := by decide +kernel
theorem dX5_tellBurdens_109 : decode cX5_tellBurdens 109 = .ok (.return_, 1) := by decide +kernel
theorem dX5_tellBurden_0 : decode cX5_tellBurden 0 = .ok (.aconst_null, 1) := by decide +kernel
theorem dX5_tellBurden_1 : decode cX5_tellBurden 1 = .ok (.astore_n 3, 1) := by decide +kernel
theorem dX5_tellBurden_2 : decode cX5_tellBurden 2 = .ok (.iconst 0, 1) := by decide +kernel
theorem dX5_tellBurden_3 : decode cX5_tellBurden 3 = .ok (.istore 4, 2) := by decide +kernel
theorem dX5_tellBurden_5 : decode cX5_tellBurden 5 = .ok (.iload 4, 2) := by decide +kernel
theorem dX5_tellBurden_7 : decode cX5_tellBurden 7 = .ok (.aload_n 0, 1) := by decide +kernel
theorem dX5_tellBurden_8 : decode cX5_tellBurden 8 = .ok (.getfield 47, 3) := by decide +kernel
theorem dX5_tellBurden_11 : decode cX5_tellBurden 11 = .ok (.getfield 75, 3) := by decide +kernel
theorem dX5_tellBurden_14 : decode cX5_tellBurden 14 = .ok (.invokevirtual 78, 3) := by decide +kernel
theorem dX5_tellBurden_17 : decode cX5_tellBurden 17 = .ok (.if_icmp .ge 74, 3) := by decide +kernel
theorem dX5_tellBurden_20 : decode cX5_tellBurden 20 = .ok (.aload_n 0, 1) := by decide +kernel
theorem dX5_tellBurden_21 : decode cX5_tellBurden 21 = .ok (.getfield 47, 3) := by decide +kernel
theorem dX5_tellBurden_24 : decode cX5_tellBurden 24 = .ok (.getfield 75, 3) := by decide +kernel
theorem dX5_tellBurden_27 : decode cX5_tellBurden 27 = .ok (.iload 4, 2) := by decide +kernel
theorem dX5_tellBurden_29 : decode cX5_tellBurden 29 = .ok (.invokevirtual 82, 3) := by decide +kernel
theorem dX5_tellBurden_32 : decode cX5_tellBurden 32 = .ok (.checkcast 86, 3) := by decide +kernel
theorem dX5_tellBurden_35 : decode cX5_tellBurden 35 = .ok (.astore 5, 2) := by decide +kernel
theorem dX5_tellBurden_37 : decode cX5_tellBurden 37 = .ok (.aload_n 3, 1) := by decide +kernel
theorem dX5_tellBurden_38 : decode cX5_tellBurden 38 = .ok (.ifnull 15, 3) := by decide +kernel
theorem dX5_tellBurden_41 : decode cX5_tellBurden 41 = .ok (.aload 5, 2) := by decide +kernel
theorem dX5_tellBurden_43 : decode cX5_tellBurden 43 = .ok (.getfield 126, 3) := by decide +kernel
theorem dX5_tellBurden_46 : decode cX5_tellBurden 46 = .ok (.aload_n 3, 1) := by decide +kernel
theorem dX5_tellBurden_47 : decode cX5_tellBurden 47 = .ok (.getfield 126, 3) := by decide +kernel
theorem dX5_tellBurden_50 : decode cX5_tellBurden 50 = .ok (.if_icmp .le 7, 3) := by decide +kernel
theorem dX5_tellBurden_53 : decode cX5_tellBurden 53 = .ok (.iconst 1, 1) := by decide +kernel
theorem dX5_tellBurden_54 : decode cX5_tellBurden 54 = .ok (.goto 4, 3) := by decide +kernel
theorem dX5_tellBurden_57 : decode cX5_tellBurden 57 = .ok (.iconst 0, 1) := by decide +kernel
theorem dX5_tellBurden_58 : decode cX5_tellBurden 58 = .ok (.istore 6, 2) := by decide +kernel
theorem dX5_tellBurden_60 : decode cX5_tellBurden 60 = .ok (.aload 5, 2) := by decide +kernel
theorem dX5_tellBurden_62 : decode cX5_tellBurden 62 = .ok (.invokevirtual 96, 3) := by decide +kernel
theorem dX5_tellBurden_65 : decode cX5_tellBurden 65 = .ok (.iload_n 1, 1) := by decide +kernel
theorem dX5_tellBurden_66 : decode cX5_tellBurden 66 = .ok (.if_icmp .ne 19, 3) := by decide +kernel
theorem dX5_tellBurden_69 : decode cX5_tellBurden 69 = .ok (.aload 5, 2) := by decide +kernel
theorem dX5_tellBurden_71 : decode cX5_tellBurden 71 = .ok (.invokestatic 129, 3) := by decide +kernel
theorem dX5_tellBurden_74 : decode cX5_tellBurden 74 = .ok (.ifCond .eq 11, 3) := by decide +kernel
theorem dX5_tellBurden_77 : decode cX5_tellBurden 77 = .ok (.iload 6, 2) := by decide +kernel
theorem dX5_tellBurden_79 : decode cX5_tellBurden 79 = .ok (.ifCond .eq 6, 3) := by decide +kernel
theorem dX5_tellBurden_82 : decode cX5_tellBurden 82 = .ok (.aload 5, 2) := by decide +kernel
theorem dX5_tellBurden_84 : decode cX5_tellBurden 84 = .ok (.astore_n 3, 1) := by decide +kernel
theorem dX5_tellBurden_85 : decode cX5_tellBurden 85 = .ok (.iinc 4 1, 3) := by decide +kernel
theorem dX5_tellBurden_88 : decode cX5_tellBurden 88 = .ok (.goto (-83), 3) := by decide +kernel
theorem dX5_tellBurden_91 : decode cX5_tellBurden 91 = .ok (.aload_n 3, 1) := by decide +kernel
theorem dX5_tellBurden_92 : decode cX5_tellBurden 92 = .ok (.ifnull 8, 3) := by decide +kernel
theorem dX5_tellBurden_95 : decode cX5_tellBurden 95 = .ok (.aload_n 3, 1) := by decide +kernel
theorem dX5_tellBurden_96 : decode cX5_tellBurden 96 = .ok (.iload_n 2, 1) := by decide +kernel
theorem dX5_tellBurden_97 : decode cX5_tellBurden 97 = .ok (.putfield 109, 3) := by decide +kernel
theorem dX5_tellBurden_100 : decode cX5_tellBurden 100 = .ok (.return_, 1) := by decide +kernel
theorem dX5_isToBeBurdened_0 : decode cX5_isToBeBurdened 0 = .ok (.aload_n 0, 1) := by decide +kernel
theorem dX5_isToBeBurdened_1 : decode cX5_isToBeBurdened 1 = .ok (.invokevirtual 133, 3) := by decide +kernel
theorem dX5_isToBeBurdened_4 : decode cX5_isToBeBurdened 4 = .ok (.ifCond .eq 28, 3) := by decide +kernel
theorem dX5_isToBeBurdened_7 : decode cX5_isToBeBurdened 7 = .ok (.aload_n 0, 1) := by decide +kernel
theorem dX5_isToBeBurdened_8 : decode cX5_isToBeBurdened 8 = .ok (.invokevirtual 136, 3) := by decide +kernel
theorem dX5_isToBeBurdened_11 : decode cX5_isToBeBurdened 11 = .ok (.ifCond .eq 21, 3) := by decide +kernel
theorem dX5_isToBeBurdened_14 : decode cX5_isToBeBurdened 14 = .ok (.aload_n 0, 1) := by decide +kernel
theorem dX5_isToBeBurdened_15 : decode cX5_isToBeBurdened 15 = .ok (.getfield 112, 3) := by decide +kernel
theorem dX5_isToBeBurdened_18 : decode cX5_isToBeBurdened 18 = .ok (.ifCond .ne 14, 3) := by decide +kernel
theorem dX5_isToBeBurdened_21 : decode cX5_isToBeBurdened 21 = .ok (.aload_n 0, 1) := by decide +kernel
theorem dX5_isToBeBurdened_22 : decode cX5_isToBeBurdened 22 = .ok (.getfield 109, 3) := by decide +kernel
theorem dX5_isToBeBurdened_25 : decode cX5_isToBeBurdened 25 = .ok (.ifCond .ne 7, 3) := by decide +kernel
theorem dX5_isToBeBurdened_28 : decode cX5_isToBeBurdened 28 = .ok (.iconst 1, 1) := by decide +kernel
theorem dX5_isToBeBurdened_29 : decode cX5_isToBeBurdened 29 = .ok (.goto 4, 3) := by decide +kernel
theorem dX5_isToBeBurdened_32 : decode cX5_isToBeBurdened 32 = .ok (.iconst 0, 1) := by decide +kernel
theorem dX5_isToBeBurdened_33 : decode cX5_isToBeBurdened 33 = .ok (.ireturn, 1) := by decide +kernel
theorem dX5_compare_0 : decode cX5_compare 0 = .ok (.aload_n 1, 1) := by decide +kernel
theorem dX5_compare_1 : decode cX5_compare 1 = .ok (.iconst 1, 1) := by decide +kernel
theorem dX5_compare_2 : decode cX5_compare 2 = .ok (.putfield 119, 3) := by decide +kernel
theorem dX5_compare_5 : decode cX5_compare 5 = .ok (.aload_n 2, 1) := by decide +kernel
theorem dX5_compare_6 : decode cX5_compare 6 = .ok (.getfield 126, 3) := by decide +kernel
theorem dX5_compare_9 : decode cX5_compare 9 = .ok (.aload_n 1, 1) := by decide +kernel
theorem dX5_compare_10 : decode cX5_compare 10 = .ok (.getfield 126, 3) := by decide +kernel
theorem dX5_compare_13 : decode cX5_compare 13 = .ok (.if_icmp .gt 5, 3) := by decide +kernel
theorem dX5_compare_16 : decode cX5_compare 16 = .ok (.iconst 0, 1) := by decide +kernel
theorem dX5_compare_17 : decode cX5_compare 17 = .ok (.ireturn, 1) := by decide +kernel
theorem dX5_compare_18 : decode cX5_compare 18 = .ok (.aload_n 2, 1) := by decide +kernel
theorem dX5_compare_19 : decode cX5_compare 19 = .ok (.getfield 139, 3) := by decide +kernel
theorem dX5_compare_22 : decode cX5_compare 22 = .ok (.iconst 2, 1) := by decide +kernel
theorem dX5_compare_23 : decode cX5_compare 23 = .ok (.irem, 1) := by decide +kernel
theorem dX5_compare_24 : decode cX5_compare 24 = .ok (.ifCond .ne 18, 3) := by decide +kernel
theorem dX5_compare_27 : decode cX5_compare 27 = .ok (.aload_n 2, 1) := by decide +kernel
theorem dX5_compare_28 : decode cX5_compare 28 = .ok (.aload_n 1, 1) := by decide +kernel
theorem dX5_compare_29 : decode cX5_compare 29 = .ok (.getfield 109, 3) := by decide +kernel
theorem dX5_compare_32 : decode cX5_compare 32 = .ok (.putfield 109, 3) := by decide +kernel
theorem dX5_compare_35 : decode cX5_compare 35 = .ok (.aload_n 1, 1) := by decide +kernel
theorem dX5_compare_36 : decode cX5_compare 36 = .ok (.iconst 0, 1) := by decide +kernel
theorem dX5_compare_37 : decode cX5_compare 37 = .ok (.putfield 109, 3) := by decide +kernel
theorem dX5_compare_40 : decode cX5_compare 40 = .ok (.iconst 1, 1) := by decide +kernel
theorem dX5_compare_41 : decode cX5_compare 41 = .ok (.ireturn, 1) := by decide +kernel
theorem dX5_compare_42 : decode cX5_compare 42 = .ok (.aload_n 1, 1) := by decide +kernel
theorem dX5_compare_43 : decode cX5_compare 43 = .ok (.getfield 126, 3) := by decide +kernel
theorem dX5_compare_46 : decode cX5_compare 46 = .ok (.istore_n 3, 1) := by decide +kernel
theorem dX5_compare_47 : decode cX5_compare 47 = .ok (.aload_n 1, 1) := by decide +kernel
theorem dX5_compare_48 : decode cX5_compare 48 = .ok (.aload_n 2, 1) := by decide +kernel
theorem dX5_compare_49 : decode cX5_compare 49 = .ok (.getfield 126, 3) := by decide +kernel
theorem dX5_compare_52 : decode cX5_compare 52 = .ok (.putfield 126, 3) := by decide +kernel
theorem dX5_compare_55 : decode cX5_compare 55 = .ok (.aload_n 2, 1) := by decide +kernel
theorem dX5_compare_56 : decode cX5_compare 56 = .ok (.iload_n 3, 1) := by decide +kernel
theorem dX5_compare_57 : decode cX5_compare 57 = .ok (.putfield 126, 3) := by decide +kernel
theorem dX5_compare_60 : decode cX5_compare 60 = .ok (.iconst 2, 1) := by decide +kernel
theorem dX5_compare_61 : decode cX5_compare 61 = .ok (.ireturn, 1) := by decide +kernel
theorem dX5_discharge_0 : decode cX5_discharge 0 = .ok (.aload_n 1, 1) := by decide +kernel
theorem dX5_discharge_1 : decode cX5_discharge 1 = .ok (.iconst 1, 1) := by decide +kernel
theorem dX5_discharge_2 : decode cX5_discharge 2 = .ok (.putfield 116, 3) := by decide +kernel
theorem dX5_discharge_5 : decode cX5_discharge 5 = .ok (.aload_n 1, 1) := by decide +kernel
theorem dX5_discharge_6 : decode cX5_discharge 6 = .ok (.getfield 109, 3) := by decide +kernel
theorem dX5_discharge_9 : decode cX5_discharge 9 = .ok (.iconst 1, 1) := by decide +kernel
theorem dX5_discharge_10 : decode cX5_discharge 10 = .ok (.if_icmp .ne 27, 3) := by decide +kernel
theorem dX5_discharge_13 : decode cX5_discharge 13 = .ok (.aload_n 0, 1) := by decide +kernel
theorem dX5_discharge_14 : decode cX5_discharge 14 = .ok (.getfield 47, 3) := by decide +kernel
theorem dX5_discharge_17 : decode cX5_discharge 17 = .ok (.dup, 1) := by decide +kernel
theorem dX5_discharge_18 : decode cX5_discharge 18 = .ok (.getfield 59, 3) := by decide +kernel
theorem dX5_discharge_21 : decode cX5_discharge 21 = .ok (.iconst 1, 1) := by decide +kernel
theorem dX5_discharge_22 : decode cX5_discharge 22 = .ok (.iadd, 1) := by decide +kernel
theorem dX5_discharge_23 : decode cX5_discharge 23 = .ok (.putfield 59, 3) := by decide +kernel
theorem dX5_discharge_26 : decode cX5_discharge 26 = .ok (.aload_n 0, 1) := by decide +kernel
theorem dX5_discharge_27 : decode cX5_discharge 27 = .ok (.getfield 47, 3) := by decide +kernel
theorem dX5_discharge_30 : decode cX5_discharge 30 = .ok (.getfield 59, 3) := by decide +kernel
theorem dX5_discharge_33 : decode cX5_discharge 33 = .ok (.istore_n 2, 1) := by decide +kernel
theorem dX5_discharge_34 : decode cX5_discharge 34 = .ok (.goto 26, 3) := by decide +kernel
theorem dX5_discharge_37 : decode cX5_discharge 37 = .ok (.bipush 10, 2) := by decide +kernel
theorem dX5_discharge_39 : decode cX5_discharge 39 = .ok (.bipush 10, 2) := by decide +kernel
theorem dX5_discharge_41 : decode cX5_discharge 41 = .ok (.aload_n 1, 1) := by decide +kernel
theorem dX5_discharge_42 : decode cX5_discharge 42 = .ok (.invokevirtual 142, 3) := by decide +kernel
theorem dX5_discharge_45 : decode cX5_discharge 45 = .ok (.imul, 1) := by decide +kernel
theorem dX5_discharge_46 : decode cX5_discharge 46 = .ok (.iadd, 1) := by decide +kernel
theorem dX5_discharge_47 : decode cX5_discharge 47 = .ok (.istore_n 2, 1) := by decide +kernel
theorem dX5_discharge_48 : decode cX5_discharge 48 = .ok (.aload_n 0, 1) := by decide +kernel
theorem dX5_discharge_49 : decode cX5_discharge 49 = .ok (.getfield 22, 3) := by decide +kernel
theorem dX5_discharge_52 : decode cX5_discharge 52 = .ok (.aload_n 1, 1) := by decide +kernel
theorem dX5_discharge_53 : decode cX5_discharge 53 = .ok (.invokevirtual 96, 3) := by decide +kernel
theorem dX5_discharge_56 : decode cX5_discharge 56 = .ok (.iload_n 2, 1) := by decide +kernel
theorem dX5_discharge_57 : decode cX5_discharge 57 = .ok (.invokestatic 51, 3) := by decide +kernel
theorem dX5_discharge_60 : decode cX5_discharge 60 = .ok (.aload_n 0, 1) := by decide +kernel
theorem dX5_discharge_61 : decode cX5_discharge 61 = .ok (.getfield 47, 3) := by decide +kernel
theorem dX5_discharge_64 : decode cX5_discharge 64 = .ok (.aload_n 1, 1) := by decide +kernel
theorem dX5_discharge_65 : decode cX5_discharge 65 = .ok (.bipush 40, 2) := by decide +kernel
theorem dX5_discharge_67 : decode cX5_discharge 67 = .ok (.invokevirtual 92, 3) := by decide +kernel
theorem dX5_discharge_70 : decode cX5_discharge 70 = .ok (.iload_n 2, 1) := by decide +kernel
theorem dX5_discharge_71 : decode cX5_discharge 71 = .ok (.ireturn, 1) := by decide +kernel
theorem dX6_init_0 : decode cX6_init 0 = .ok (.aload_n 0, 1) := by decide +kernel
theorem dX6_init_1 : decode cX6_init 1 = .ok (.invokespecial 1, 3) := by decide +kernel
theorem dX6_init_4 : decode cX6_init 4 = .ok (.aload_n 0, 1) := by decide +kernel
theorem dX6_init_5 : decode cX6_init 5 = .ok (.iconst 0, 1) := by decide +kernel
theorem dX6_init_6 : decode cX6_init 6 = .ok (.putfield 7, 3) := by decide +kernel
theorem dX6_init_9 : decode cX6_init 9 = .ok (.aload_n 0, 1) := by decide +kernel
theorem dX6_init_10 : decode cX6_init 10 = .ok (.iconst 0, 1) := by decide +kernel
theorem dX6_init_11 : decode cX6_init 11 = .ok (.putfield 13, 3) := by decide +kernel
theorem dX6_init_14 : decode cX6_init 14 = .ok (.return_, 1) := by decide +kernel
theorem dX6_drawOneOf_0 : decode cX6_drawOneOf 0 = .ok (.aload_n 0, 1) := by decide +kernel
theorem dX6_drawOneOf_1 : decode cX6_drawOneOf 1 = .ok (.bipush 13, 2) := by decide +kernel
theorem dX6_drawOneOf_3 : decode cX6_drawOneOf 3 = .ok (.aload_n 0, 1) := by decide +kernel
theorem dX6_drawOneOf_4 : decode cX6_drawOneOf 4 = .ok (.getfield 7, 3) := by decide +kernel
theorem dX6_drawOneOf_7 : decode cX6_drawOneOf 7 = .ok (.imul, 1) := by decide +kernel
theorem dX6_drawOneOf_8 : decode cX6_drawOneOf 8 = .ok (.iconst 5, 1) := by decide +kernel
theorem dX6_drawOneOf_9 : decode cX6_drawOneOf 9 = .ok (.iadd, 1) := by decide +kernel
theorem dX6_drawOneOf_10 : decode cX6_drawOneOf 10 = .ok (.bipush 64, 2) := by decide +kernel
theorem dX6_drawOneOf_12 : decode cX6_drawOneOf 12 = .ok (.irem, 1) := by decide +kernel
theorem dX6_drawOneOf_13 : decode cX6_drawOneOf 13 = .ok (.putfield 7, 3) := by decide +kernel
theorem dX6_drawOneOf_16 : decode cX6_drawOneOf 16 = .ok (.aload_n 0, 1) := by decide +kernel
theorem dX6_drawOneOf_17 : decode cX6_drawOneOf 17 = .ok (.dup, 1) := by decide +kernel
theorem dX6_drawOneOf_18 : decode cX6_drawOneOf 18 = .ok (.getfield 13, 3) := by decide +kernel
theorem dX6_drawOneOf_21 : decode cX6_drawOneOf 21 = .ok (.iconst 1, 1) := by decide +kernel
theorem dX6_drawOneOf_22 : decode cX6_drawOneOf 22 = .ok (.iadd, 1) := by decide +kernel
theorem dX6_drawOneOf_23 : decode cX6_drawOneOf 23 = .ok (.putfield 13, 3) := by decide +kernel
theorem dX6_drawOneOf_26 : decode cX6_drawOneOf 26 = .ok (.aload_n 0, 1) := by decide +kernel
theorem dX6_drawOneOf_27 : decode cX6_drawOneOf 27 = .ok (.getfield 7, 3) := by decide +kernel
theorem dX6_drawOneOf_30 : decode cX6_drawOneOf 30 = .ok (.iload_n 1, 1) := by decide +kernel
theorem dX6_drawOneOf_31 : decode cX6_drawOneOf 31 = .ok (.imul, 1) := by decide +kernel
theorem dX6_drawOneOf_32 : decode cX6_drawOneOf 32 = .ok (.bipush 64, 2) := by decide +kernel
theorem dX6_drawOneOf_34 : decode cX6_drawOneOf 34 = .ok (.idiv, 1) := by decide +kernel
theorem dX6_drawOneOf_35 : decode cX6_drawOneOf 35 = .ok (.ireturn, 1) := by decide +kernel
theorem dX6_drawFrom_0 : decode cX6_drawFrom 0 = .ok (.aload_n 1, 1) := by decide +kernel
theorem dX6_drawFrom_1 : decode cX6_drawFrom 1 = .ok (.invokevirtual 16, 3) := by decide +kernel
theorem dX6_drawFrom_4 : decode cX6_drawFrom 4 = .ok (.ifCond .eq 5, 3) := by decide +kernel
theorem dX6_drawFrom_7 : decode cX6_drawFrom 7 = .ok (.aconst_null, 1) := by decide +kernel
theorem dX6_drawFrom_8 : decode cX6_drawFrom 8 = .ok (.areturn, 1) := by decide +kernel
theorem dX6_drawFrom_9 : decode cX6_drawFrom 9 = .ok (.aload_n 0, 1) := by decide +kernel
theorem dX6_drawFrom_10 : decode cX6_drawFrom 10 = .ok (.aload_n 1, 1) := by decide +kernel
theorem dX6_drawFrom_11 : decode cX6_drawFrom 11 = .ok (.invokevirtual 22, 3) := by decide +kernel
theorem dX6_drawFrom_14 : decode cX6_drawFrom 14 = .ok (.invokevirtual 26, 3) := by decide +kernel
theorem dX6_drawFrom_17 : decode cX6_drawFrom 17 = .ok (.istore_n 2, 1) := by decide +kernel
theorem dX6_drawFrom_18 : decode cX6_drawFrom 18 = .ok (.iload_n 2, 1) := by decide +kernel
theorem dX6_drawFrom_19 : decode cX6_drawFrom 19 = .ok (.iconst 0, 1) := by decide +kernel
theorem dX6_drawFrom_20 : decode cX6_drawFrom 20 = .ok (.aload_n 1, 1) := by decide +kernel
theorem dX6_drawFrom_21 : decode cX6_drawFrom 21 = .ok (.invokevirtual 22, 3) := by decide +kernel
theorem dX6_drawFrom_24 : decode cX6_drawFrom 24 = .ok (.iconst 1, 1) := by decide +kernel
theorem dX6_drawFrom_25 : decode cX6_drawFrom 25 = .ok (.isub, 1) := by decide +kernel
theorem dX6_drawFrom_26 : decode cX6_drawFrom 26 = .ok (.invokestatic 30, 3) := by decide +kernel
theorem dX6_drawFrom_29 : decode cX6_drawFrom 29 = .ok (.ifCond .eq 14, 3) := by decide +kernel
theorem dX6_drawFrom_32 : decode cX6_drawFrom 32 = .ok (.aload_n 1, 1) := by decide +kernel
theorem dX6_drawFrom_33 : decode cX6_drawFrom 33 = .ok (.iload_n 2, 1) := by decide +kernel
theorem dX6_drawFrom_34 : decode cX6_drawFrom 34 = .ok (.invokevirtual 36, 3) := by decide +kernel
theorem dX6_drawFrom_37 : decode cX6_drawFrom 37 = .ok (.checkcast 40, 3) := by decide +kernel
theorem dX6_drawFrom_40 : decode cX6_drawFrom 40 = .ok (.goto 4, 3) := by decide +kernel
theorem dX6_drawFrom_43 : decode cX6_drawFrom 43 = .ok (.aconst_null, 1) := by decide +kernel
theorem dX6_drawFrom_44 : decode cX6_drawFrom 44 = .ok (.areturn, 1) := by decide +kernel
theorem dX6_takeRows_0 : decode cX6_takeRows 0 = .ok (.aload_n 1, 1) := by decide +kernel
theorem dX6_takeRows_1 : decode cX6_takeRows 1 = .ok (.iconst 0, 1) := by decide +kernel
theorem dX6_takeRows_2 : decode cX6_takeRows 2 = .ok (.invokestatic 42, 3) := by decide +kernel
theorem dX6_takeRows_5 : decode cX6_takeRows 5 = .ok (.istore 4, 2) := by decide +kernel
theorem dX6_takeRows_7 : decode cX6_takeRows 7 = .ok (.iconst 1, 1) := by decide +kernel
theorem dX6_takeRows_8 : decode cX6_takeRows 8 = .ok (.istore 5, 2) := by decide +kernel
theorem dX6_takeRows_10 : decode cX6_takeRows 10 = .ok (.iload 5, 2) := by decide +kernel
theorem dX6_takeRows_12 : decode cX6_takeRows 12 = .ok (.iconst 3, 1) := by decide +kernel
theorem dX6_takeRows_13 : decode cX6_takeRows 13 = .ok (.if_icmp .ge 22, 3) := by decide +kernel
theorem dX6_takeRows_16 : decode cX6_takeRows 16 = .ok (.iload 4, 2) := by decide +kernel
theorem dX6_takeRows_18 : decode cX6_takeRows 18 = .ok (.aload_n 1, 1) := by decide +kernel
theorem dX6_takeRows_19 : decode cX6_takeRows 19 = .ok (.iload 5, 2) := by decide +kernel
theorem dX6_takeRows_21 : decode cX6_takeRows 21 = .ok (.invokestatic 42, 3) := by decide +kernel
theorem dX6_takeRows_24 : decode cX6_takeRows 24 = .ok (.invokestatic 46, 3) := by decide +kernel
theorem dX6_takeRows_27 : decode cX6_takeRows 27 = .ok (.istore 4, 2) := by decide +kernel
theorem dX6_takeRows_29 : decode cX6_takeRows 29 = .ok (.iinc 5 1, 3) := by decide +kernel
theorem dX6_takeRows_32 : decode cX6_takeRows 32 = .ok (.goto (-22), 3) := by decide +kernel
theorem dX6_takeRows_35 : decode cX6_takeRows 35 = .ok (.iload 4, 2) := by decide +kernel
theorem dX6_takeRows_37 : decode cX6_takeRows 37 = .ok (.iload_n 2, 1) := by decide +kernel
theorem dX6_takeRows_38 : decode cX6_takeRows 38 = .ok (.invokestatic 46, 3) := by decide +kernel
theorem dX6_takeRows_41 : decode cX6_takeRows 41 = .ok (.istore 5, 2) := by decide +kernel
theorem dX6_takeRows_43 : decode cX6_takeRows 43 = .ok (.iconst 0, 1) := by decide +kernel
theorem dX6_takeRows_44 : decode cX6_takeRows 44 = .ok (.istore 6, 2) := by decide +kernel
theorem dX6_takeRows_46 : decode cX6_takeRows 46 = .ok (.iload 6, 2) := by decide +kernel
theorem dX6_takeRows_48 : decode cX6_takeRows 48 = .ok (.iload 4, 2) := by decide +kernel
theorem dX6_takeRows_50 : decode cX6_takeRows 50 = .ok (.if_icmp .ge 33, 3) := by decide +kernel
theorem dX6_takeRows_53 : decode cX6_takeRows 53 = .ok (.aload_n 0, 1) := by decide +kernel
theorem dX6_takeRows_54 : decode cX6_takeRows 54 = .ok (.iload 4, 2) := by decide +kernel
theorem dX6_takeRows_56 : decode cX6_takeRows 56 = .ok (.iload 6, 2) := by decide +kernel
theorem dX6_takeRows_58 : decode cX6_takeRows 58 = .ok (.isub, 1) := by decide +kernel
theorem dX6_takeRows_59 : decode cX6_takeRows 59 = .ok (.invokevirtual 26, 3) := by decide +kernel
theorem dX6_takeRows_62 : decode cX6_takeRows 62 = .ok (.iload 5, 2) := by decide +kernel
theorem dX6_takeRows_64 : decode cX6_takeRows 64 = .ok (.if_icmp .ge 13, 3) := by decide +kernel
theorem dX6_takeRows_67 : decode cX6_takeRows 67 = .ok (.iinc 5 (-1), 3) := by decide +kernel
theorem dX6_takeRows_70 : decode cX6_takeRows 70 = .ok (.aload_n 1, 1) := by decide +kernel
theorem dX6_takeRows_71 : decode cX6_takeRows 71 = .ok (.iload 6, 2) := by decide +kernel
theorem dX6_takeRows_73 : decode cX6_takeRows 73 = .ok (.aload_n 3, 1) := by decide +kernel
theorem dX6_takeRows_74 : decode cX6_takeRows 74 = .ok (.invokestatic 52, 3) := by decide +kernel
theorem dX6_takeRows_77 : decode cX6_takeRows 77 = .ok (.iinc 6 1, 3) := by decide +kernel
theorem dX6_takeRows_80 : decode cX6_takeRows 80 = .ok (.goto (-34), 3) := by decide +kernel
theorem dX6_takeRows_83 : decode cX6_takeRows 83 = .ok (.return_, 1) := by decide +kernel
theorem dX6_heightOf_0 : decode cX6_heightOf 0 = .ok (.iconst 0, 1) := by decide +kernel
theorem dX6_heightOf_1 : decode cX6_heightOf 1 = .ok (.istore_n 2, 1) := by decide +kernel
theorem dX6_heightOf_2 : decode cX6_heightOf 2 = .ok (.iconst 0, 1) := by decide +kernel
theorem dX6_heightOf_3 : decode cX6_heightOf 3 = .ok (.istore_n 3, 1) := by decide +kernel
theorem dX6_heightOf_4 : decode cX6_heightOf 4 = .ok (.iload_n 3, 1) := by decide +kernel
theorem dX6_heightOf_5 : decode cX6_heightOf 5 = .ok (.aload_n 0, 1) := by decide +kernel
theorem dX6_heightOf_6 : decode cX6_heightOf 6 = .ok (.invokevirtual 22, 3) := by decide +kernel
theorem dX6_heightOf_9 : decode cX6_heightOf 9 = .ok (.if_icmp .ge 29, 3) := by decide +kernel
theorem dX6_heightOf_12 : decode cX6_heightOf 12 = .ok (.aload_n 0, 1) := by decide +kernel
theorem dX6_heightOf_13 : decode cX6_heightOf 13 = .ok (.iload_n 3, 1) := by decide +kernel
theorem dX6_heightOf_14 : decode cX6_heightOf 14 = .ok (.invokevirtual 56, 3) := by decide +kernel
theorem dX6_heightOf_17 : decode cX6_heightOf 17 = .ok (.checkcast 40, 3) := by decide +kernel
theorem dX6_heightOf_20 : decode cX6_heightOf 20 = .ok (.getfield 59, 3) := by decide +kernel
theorem dX6_heightOf_23 : decode cX6_heightOf 23 = .ok (.iconst 3, 1) := by decide +kernel
theorem dX6_heightOf_24 : decode cX6_heightOf 24 = .ok (.irem, 1) := by decide +kernel
theorem dX6_heightOf_25 : decode cX6_heightOf 25 = .ok (.iload_n 1, 1) := by decide +kernel
theorem dX6_heightOf_26 : decode cX6_heightOf 26 = .ok (.if_icmp .ne 6, 3) := by decide +kernel
theorem dX6_heightOf_29 : decode cX6_heightOf 29 = .ok (.iinc 2 1, 3) := by decide +kernel
theorem dX6_heightOf_32 : decode cX6_heightOf 32 = .ok (.iinc 3 1, 3) := by decide +kernel
theorem dX6_heightOf_35 : decode cX6_heightOf 35 = .ok (.goto (-31), 3) := by decide +kernel
theorem dX6_heightOf_38 : decode cX6_heightOf 38 = .ok (.iload_n 2, 1) := by decide +kernel
theorem dX6_heightOf_39 : decode cX6_heightOf 39 = .ok (.ireturn, 1) := by decide +kernel
theorem dX6_takeRow_0 : decode cX6_takeRow 0 = .ok (.iconst 0, 1) := by decide +kernel
theorem dX6_takeRow_1 : decode cX6_takeRow 1 = .ok (.istore_n 3, 1) := by decide +kernel
theorem dX6_takeRow_2 : decode cX6_takeRow 2 = .ok (.iload_n 3, 1) := by decide +kernel
theorem dX6_takeRow_3 : decode cX6_takeRow 3 = .ok (.iconst 3, 1) := by decide +kernel
theorem dX6_takeRow_4 : decode cX6_takeRow 4 = .ok (.if_icmp .ge 29, 3) := by decide +kernel
theorem dX6_takeRow_7 : decode cX6_takeRow 7 = .ok (.aload_n 0, 1) := by decide +kernel
theorem dX6_takeRow_8 : decode cX6_takeRow 8 = .ok (.iload_n 1, 1) := by decide +kernel
theorem dX6_takeRow_9 : decode cX6_takeRow 9 = .ok (.iload_n 3, 1) := by decide +kernel
theorem dX6_takeRow_10 : decode cX6_takeRow 10 = .ok (.invokestatic 62, 3) := by decide +kernel
theorem dX6_takeRow_13 : decode cX6_takeRow 13 = .ok (.astore 4, 2) := by decide +kernel
theorem dX6_takeRow_15 : decode cX6_takeRow 15 = .ok (.aload 4, 2) := by decide +kernel
theorem dX6_takeRow_17 : decode cX6_takeRow 17 = .ok (.ifnull 10, 3) := by decide +kernel
theorem dX6_takeRow_20 : decode cX6_takeRow 20 = .ok (.aload_n 2, 1) := by decide +kernel
theorem dX6_takeRow_21 : decode cX6_takeRow 21 = .ok (.aload 4, 2) := by decide +kernel
theorem dX6_takeRow_23 : decode cX6_takeRow 23 = .ok (.invokevirtual 66, 3) := by decide +kernel
theorem dX6_takeRow_26 : decode cX6_takeRow 26 = .ok (.pop, 1) := by decide +kernel
theorem dX6_takeRow_27 : decode cX6_takeRow 27 = .ok (.iinc 3 1, 3) := by decide +kernel
theorem dX6_takeRow_30 : decode cX6_takeRow 30 = .ok (.goto (-28), 3) := by decide +kernel
theorem dX6_takeRow_33 : decode cX6_takeRow 33 = .ok (.return_, 1) := by decide +kernel
theorem dX6_ticketAt_0 : decode cX6_ticketAt 0 = .ok (.iconst 0, 1) := by decide +kernel
theorem dX6_ticketAt_1 : decode cX6_ticketAt 1 = .ok (.istore_n 3, 1) := by decide +kernel
theorem dX6_ticketAt_2 : decode cX6_ticketAt 2 = .ok (.iconst 0, 1) := by decide +kernel
theorem dX6_ticketAt_3 : decode cX6_ticketAt 3 = .ok (.istore 4, 2) := by decide +kernel
theorem dX6_ticketAt_5 : decode cX6_ticketAt 5 = .ok (.iload 4, 2) := by decide +kernel
theorem dX6_ticketAt_7 : decode cX6_ticketAt 7 = .ok (.aload_n 0, 1) := by decide +kernel
theorem dX6_ticketAt_8 : decode cX6_ticketAt 8 = .ok (.invokevirtual 22, 3) := by decide +kernel
theorem dX6_ticketAt_11 : decode cX6_ticketAt 11 = .ok (.if_icmp .ge 42, 3) := by decide +kernel
theorem dX6_ticketAt_14 : decode cX6_ticketAt 14 = .ok (.aload_n 0, 1) := by decide +kernel
theorem dX6_ticketAt_15 : decode cX6_ticketAt 15 = .ok (.iload 4, 2) := by decide +kernel
theorem dX6_ticketAt_17 : decode cX6_ticketAt 17 = .ok (.invokevirtual 56, 3) := by decide +kernel
theorem dX6_ticketAt_20 : decode cX6_ticketAt 20 = .ok (.checkcast 40, 3) := by decide +kernel
theorem dX6_ticketAt_23 : decode cX6_ticketAt 23 = .ok (.astore 5, 2) := by decide +kernel
theorem dX6_ticketAt_25 : decode cX6_ticketAt 25 = .ok (.aload 5, 2) := by decide +kernel
theorem dX6_ticketAt_27 : decode cX6_ticketAt 27 = .ok (.getfield 59, 3) := by decide +kernel
theorem dX6_ticketAt_30 : decode cX6_ticketAt 30 = .ok (.iconst 3, 1) := by decide +kernel
theorem dX6_ticketAt_31 : decode cX6_ticketAt 31 = .ok (.irem, 1) := by decide +kernel
theorem dX6_ticketAt_32 : decode cX6_ticketAt 32 = .ok (.iload_n 2, 1) := by decide +kernel
theorem dX6_ticketAt_33 : decode cX6_ticketAt 33 = .ok (.if_icmp .ne 14, 3) := by decide +kernel
theorem dX6_ticketAt_36 : decode cX6_ticketAt 36 = .ok (.iload_n 3, 1) := by decide +kernel
theorem dX6_ticketAt_37 : decode cX6_ticketAt 37 = .ok (.iload_n 1, 1) := by decide +kernel
theorem dX6_ticketAt_38 : decode cX6_ticketAt 38 = .ok (.if_icmp .ne 6, 3) := by decide +kernel
theorem dX6_ticketAt_41 : decode cX6_ticketAt 41 = .ok (.aload 5, 2) := by decide +kernel
theorem dX6_ticketAt_43 : decode cX6_ticketAt 43 = .ok (.areturn, 1) := by decide +kernel
theorem dX6_ticketAt_44 : decode cX6_ticketAt 44 = .ok (.iinc 3 1, 3) := by decide +kernel
theorem dX6_ticketAt_47 : decode cX6_ticketAt 47 = .ok (.iinc 4 1, 3) := by decide +kernel
theorem dX6_ticketAt_50 : decode cX6_ticketAt 50 = .ok (.goto (-45), 3) := by decide +kernel
theorem dX6_ticketAt_53 : decode cX6_ticketAt 53 = .ok (.aconst_null, 1) := by decide +kernel
theorem dX6_ticketAt_54 : decode cX6_ticketAt 54 = .ok (.areturn, 1) := by decide +kernel
theorem dX7_init_0 : decode cX7_init 0 = .ok (.aload_n 0, 1) := by decide +kernel
theorem dX7_init_1 : decode cX7_init 1 = .ok (.invokespecial 3, 3) := by decide +kernel
theorem dX7_init_4 : decode cX7_init 4 = .ok (.aload_n 0, 1) := by decide +kernel
theorem dX7_init_5 : decode cX7_init 5 = .ok (.iconst (-1), 1) := by decide +kernel
theorem dX7_init_6 : decode cX7_init 6 = .ok (.putfield 9, 3) := by decide +kernel
theorem dX7_init_9 : decode cX7_init 9 = .ok (.aload_n 0, 1) := by decide +kernel
theorem dX7_init_10 : decode cX7_init 10 = .ok (.iconst 0, 1) := by decide +kernel
theorem dX7_init_11 : decode cX7_init 11 = .ok (.putfield 15, 3) := by decide +kernel
theorem dX7_init_14 : decode cX7_init 14 = .ok (.aload_n 0, 1) := by decide +kernel
theorem dX7_init_15 : decode cX7_init 15 = .ok (.iconst 0, 1) := by decide +kernel
theorem dX7_init_16 : decode cX7_init 16 = .ok (.putfield 19, 3) := by decide +kernel
theorem dX7_init_19 : decode cX7_init 19 = .ok (.aload_n 0, 1) := by decide +kernel
theorem dX7_init_20 : decode cX7_init 20 = .ok (.iconst 0, 1) := by decide +kernel
theorem dX7_init_21 : decode cX7_init 21 = .ok (.putfield 22, 3) := by decide +kernel
theorem dX7_init_24 : decode cX7_init 24 = .ok (.aload_n 0, 1) := by decide +kernel
theorem dX7_init_25 : decode cX7_init 25 = .ok (.aload_n 1, 1) := by decide +kernel
theorem dX7_init_26 : decode cX7_init 26 = .ok (.putfield 25, 3) := by decide +kernel
theorem dX7_init_29 : decode cX7_init 29 = .ok (.aload_n 0, 1) := by decide +kernel
theorem dX7_init_30 : decode cX7_init 30 = .ok (.iload_n 2, 1) := by decide +kernel
theorem dX7_init_31 : decode cX7_init 31 = .ok (.putfield 29, 3) := by decide +kernel
theorem dX7_init_34 : decode cX7_init 34 = .ok (.aload_n 0, 1) := by decide +kernel
theorem dX7_init_35 : decode cX7_init 35 = .ok (.iload_n 3, 1) := by decide +kernel
theorem dX7_init_36 : decode cX7_init 36 = .ok (.putfield 32, 3) := by decide +kernel
theorem dX7_init_39 : decode cX7_init 39 = .ok (.aload_n 0, 1) := by decide +kernel
theorem dX7_init_40 : decode cX7_init 40 = .ok (.iload 4, 2) := by decide +kernel
theorem dX7_init_42 : decode cX7_init 42 = .ok (.putfield 35, 3) := by decide +kernel
theorem dX7_init_45 : decode cX7_init 45 = .ok (.aload_n 0, 1) := by decide +kernel
theorem dX7_init_46 : decode cX7_init 46 = .ok (.iload 5, 2) := by decide +kernel
theorem dX7_init_48 : decode cX7_init 48 = .ok (.putfield 38, 3) := by decide +kernel
theorem dX7_init_51 : decode cX7_init 51 = .ok (.return_, 1) := by decide +kernel
theorem dX7_isPassing_0 : decode cX7_isPassing 0 = .ok (.aload_n 0, 1) := by decide +kernel
theorem dX7_isPassing_1 : decode cX7_isPassing 1 = .ok (.getfield 29, 3) := by decide +kernel
theorem dX7_isPassing_4 : decode cX7_isPassing 4 = .ok (.iconst 4, 1) := by decide +kernel
theorem dX7_isPassing_5 : decode cX7_isPassing 5 = .ok (.if_icmp .ne 29, 3) := by decide +kernel
theorem dX7_isPassing_8 : decode cX7_isPassing 8 = .ok (.iconst 3, 1) := by decide +kernel
theorem dX7_isPassing_9 : decode cX7_isPassing 9 = .ok (.iload_n 1, 1) := by decide +kernel
theorem dX7_isPassing_10 : decode cX7_isPassing 10 = .ok (.imul, 1) := by decide +kernel
theorem dX7_isPassing_11 : decode cX7_isPassing 11 = .ok (.iconst 2, 1) := by decide +kernel
theorem dX7_isPassing_12 : decode cX7_isPassing 12 = .ok (.iload_n 2, 1) := by decide +kernel
theorem dX7_isPassing_13 : decode cX7_isPassing 13 = .ok (.imul, 1) := by decide +kernel
theorem dX7_isPassing_14 : decode cX7_isPassing 14 = .ok (.if_icmp .lt 18, 3) := by decide +kernel
theorem dX7_isPassing_17 : decode cX7_isPassing 17 = .ok (.bipush 10, 2) := by decide +kernel
theorem dX7_isPassing_19 : decode cX7_isPassing 19 = .ok (.iload_n 2, 1) := by decide +kernel
theorem dX7_isPassing_20 : decode cX7_isPassing 20 = .ok (.imul, 1) := by decide +kernel
theorem dX7_isPassing_21 : decode cX7_isPassing 21 = .ok (.bipush 6, 2) := by decide +kernel
theorem dX7_isPassing_23 : decode cX7_isPassing 23 = .ok (.iload_n 3, 1) := by decide +kernel
theorem dX7_isPassing_24 : decode cX7_isPassing 24 = .ok (.imul, 1) := by decide +kernel
theorem dX7_isPassing_25 : decode cX7_isPassing 25 = .ok (.if_icmp .lt 7, 3) := by decide +kernel
theorem dX7_isPassing_28 : decode cX7_isPassing 28 = .ok (.iconst 1, 1) := by decide +kernel
theorem dX7_isPassing_29 : decode cX7_isPassing 29 = .ok (.goto 4, 3) := by decide +kernel
theorem dX7_isPassing_32 : decode cX7_isPassing 32 = .ok (.iconst 0, 1) := by decide +kernel
theorem dX7_isPassing_33 : decode cX7_isPassing 33 = .ok (.ireturn, 1) := by decide +kernel
theorem dX7_isPassing_34 : decode cX7_isPassing 34 = .ok (.iconst 2, 1) := by decide +kernel
theorem dX7_isPassing_35 : decode cX7_isPassing 35 = .ok (.iload_n 1, 1) := by decide +kernel
theorem dX7_isPassing_36 : decode cX7_isPassing 36 = .ok (.imul, 1) := by decide +kernel
theorem dX7_isPassing_37 : decode cX7_isPassing 37 = .ok (.iload_n 2, 1) := by decide +kernel
theorem dX7_isPassing_38 : decode cX7_isPassing 38 = .ok (.if_icmp .le 7, 3) := by decide +kernel
theorem dX7_isPassing_41 : decode cX7_isPassing 41 = .ok (.iconst 1, 1) := by decide +kernel
theorem dX7_isPassing_42 : decode cX7_isPassing 42 = .ok (.goto 4, 3) := by decide +kernel
theorem dX7_isPassing_45 : decode cX7_isPassing 45 = .ok (.iconst 0, 1) := by decide +kernel
theorem dX7_isPassing_46 : decode cX7_isPassing 46 = .ok (.ireturn, 1) := by decide +kernel
theorem dX8_init_0 : decode cX8_init 0 = .ok (.aload_n 0, 1) := by decide +kernel
theorem dX8_init_1 : decode cX8_init 1 = .ok (.invokespecial 3, 3) := by decide +kernel
theorem dX8_init_4 : decode cX8_init 4 = .ok (.aload_n 0, 1) := by decide +kernel
theorem dX8_init_5 : decode cX8_init 5 = .ok (.aconst_null, 1) := by decide +kernel
theorem dX8_init_6 : decode cX8_init 6 = .ok (.putfield 9, 3) := by decide +kernel
theorem dX8_init_9 : decode cX8_init 9 = .ok (.aload_n 0, 1) := by decide +kernel
theorem dX8_init_10 : decode cX8_init 10 = .ok (.iconst 0, 1) := by decide +kernel
theorem dX8_init_11 : decode cX8_init 11 = .ok (.putfield 15, 3) := by decide +kernel
theorem dX8_init_14 : decode cX8_init 14 = .ok (.aload_n 0, 1) := by decide +kernel
theorem dX8_init_15 : decode cX8_init 15 = .ok (.iconst 0, 1) := by decide +kernel
theorem dX8_init_16 : decode cX8_init 16 = .ok (.putfield 19, 3) := by decide +kernel
theorem dX8_init_19 : decode cX8_init 19 = .ok (.aload_n 0, 1) := by decide +kernel
theorem dX8_init_20 : decode cX8_init 20 = .ok (.new 22, 3) := by decide +kernel
theorem dX8_init_23 : decode cX8_init 23 = .ok (.dup, 1) := by decide +kernel
theorem dX8_init_24 : decode cX8_init 24 = .ok (.invokespecial 24, 3) := by decide +kernel
theorem dX8_init_27 : decode cX8_init 27 = .ok (.putfield 25, 3) := by decide +kernel
theorem dX8_init_30 : decode cX8_init 30 = .ok (.aload_n 0, 1) := by decide +kernel
theorem dX8_init_31 : decode cX8_init 31 = .ok (.iload_n 1, 1) := by decide +kernel
theorem dX8_init_32 : decode cX8_init 32 = .ok (.putfield 29, 3) := by decide +kernel
theorem dX8_init_35 : decode cX8_init 35 = .ok (.return_, 1) := by decide +kernel
theorem dX8_isGeneral_0 : decode cX8_isGeneral 0 = .ok (.aload_n 0, 1) := by decide +kernel
