theorem dX8_isGeneral_1 : decode cX8_isGeneral 1 = .ok (.getfield 29, 3) := by decide +kernel
theorem dX8_isGeneral_4 : decode cX8_isGeneral 4 = .ok (.iconst 3, 1) := by decide +kernel
theorem dX8_isGeneral_5 : decode cX8_isGeneral 5 = .ok (.if_icmp .lt 7, 3) := by decide +kernel
theorem dX8_isGeneral_8 : decode cX8_isGeneral 8 = .ok (.iconst 1, 1) := by decide +kernel
theorem dX8_isGeneral_9 : decode cX8_isGeneral 9 = .ok (.goto 4, 3) := by decide +kernel
theorem dX8_isGeneral_12 : decode cX8_isGeneral 12 = .ok (.iconst 0, 1) := by decide +kernel
theorem dX8_isGeneral_13 : decode cX8_isGeneral 13 = .ok (.ireturn, 1) := by decide +kernel
theorem dX8_generalOf_0 : decode cX8_generalOf 0 = .ok (.iconst 3, 1) := by decide +kernel
theorem dX8_generalOf_1 : decode cX8_generalOf 1 = .ok (.iload_n 0, 1) := by decide +kernel
theorem dX8_generalOf_2 : decode cX8_generalOf 2 = .ok (.iadd, 1) := by decide +kernel
theorem dX8_generalOf_3 : decode cX8_generalOf 3 = .ok (.ireturn, 1) := by decide +kernel
theorem dX8_isFit_0 : decode cX8_isFit 0 = .ok (.aload_n 2, 1) := by decide +kernel
theorem dX8_isFit_1 : decode cX8_isFit 1 = .ok (.aload_n 1, 1) := by decide +kernel
theorem dX8_isFit_2 : decode cX8_isFit 2 = .ok (.invokevirtual 32, 3) := by decide +kernel
theorem dX8_isFit_5 : decode cX8_isFit 5 = .ok (.ifCond .eq 21, 3) := by decide +kernel
theorem dX8_isFit_8 : decode cX8_isFit 8 = .ok (.aload_n 1, 1) := by decide +kernel
theorem dX8_isFit_9 : decode cX8_isFit 9 = .ok (.getfield 38, 3) := by decide +kernel
theorem dX8_isFit_12 : decode cX8_isFit 12 = .ok (.bipush 30, 2) := by decide +kernel
theorem dX8_isFit_14 : decode cX8_isFit 14 = .ok (.if_icmp .lt 12, 3) := by decide +kernel
theorem dX8_isFit_17 : decode cX8_isFit 17 = .ok (.aload_n 2, 1) := by decide +kernel
theorem dX8_isFit_18 : decode cX8_isFit 18 = .ok (.aload_n 1, 1) := by decide +kernel
theorem dX8_isFit_19 : decode cX8_isFit 19 = .ok (.invokevirtual 43, 3) := by decide +kernel
theorem dX8_isFit_22 : decode cX8_isFit 22 = .ok (.iconst (-1), 1) := by decide +kernel
theorem dX8_isFit_23 : decode cX8_isFit 23 = .ok (.if_icmp .eq 5, 3) := by decide +kernel
theorem dX8_isFit_26 : decode cX8_isFit 26 = .ok (.iconst 0, 1) := by decide +kernel
theorem dX8_isFit_27 : decode cX8_isFit 27 = .ok (.ireturn, 1) := by decide +kernel
theorem dX8_isFit_28 : decode cX8_isFit 28 = .ok (.aload_n 0, 1) := by decide +kernel
theorem dX8_isFit_29 : decode cX8_isFit 29 = .ok (.getfield 29, 3) := by decide +kernel
theorem dX8_isFit_32 : decode cX8_isFit 32 = .ok (.iconst 1, 1) := by decide +kernel
theorem dX8_isFit_33 : decode cX8_isFit 33 = .ok (.if_icmp .ne 8, 3) := by decide +kernel
theorem dX8_isFit_36 : decode cX8_isFit 36 = .ok (.aload_n 1, 1) := by decide +kernel
theorem dX8_isFit_37 : decode cX8_isFit 37 = .ok (.invokevirtual 47, 3) := by decide +kernel
theorem dX8_isFit_40 : decode cX8_isFit 40 = .ok (.ireturn, 1) := by decide +kernel
theorem dX8_isFit_41 : decode cX8_isFit 41 = .ok (.aload_n 0, 1) := by decide +kernel
theorem dX8_isFit_42 : decode cX8_isFit 42 = .ok (.invokevirtual 51, 3) := by decide +kernel
theorem dX8_isFit_45 : decode cX8_isFit 45 = .ok (.ifCond .eq 25, 3) := by decide +kernel
theorem dX8_isFit_48 : decode cX8_isFit 48 = .ok (.aload_n 1, 1) := by decide +kernel
theorem dX8_isFit_49 : decode cX8_isFit 49 = .ok (.invokevirtual 54, 3) := by decide +kernel
theorem dX8_isFit_52 : decode cX8_isFit 52 = .ok (.iconst 1, 1) := by decide +kernel
theorem dX8_isFit_53 : decode cX8_isFit 53 = .ok (.if_icmp .lt 21, 3) := by decide +kernel
theorem dX8_isFit_56 : decode cX8_isFit 56 = .ok (.aload_n 1, 1) := by decide +kernel
theorem dX8_isFit_57 : decode cX8_isFit 57 = .ok (.invokevirtual 58, 3) := by decide +kernel
theorem dX8_isFit_60 : decode cX8_isFit 60 = .ok (.invokestatic 61, 3) := by decide +kernel
theorem dX8_isFit_63 : decode cX8_isFit 63 = .ok (.aload_n 0, 1) := by decide +kernel
theorem dX8_isFit_64 : decode cX8_isFit 64 = .ok (.getfield 29, 3) := by decide +kernel
theorem dX8_isFit_67 : decode cX8_isFit 67 = .ok (.if_icmp .ne 7, 3) := by decide +kernel
theorem dX8_isFit_70 : decode cX8_isFit 70 = .ok (.iconst 1, 1) := by decide +kernel
theorem dX8_isFit_71 : decode cX8_isFit 71 = .ok (.goto 4, 3) := by decide +kernel
theorem dX8_isFit_74 : decode cX8_isFit 74 = .ok (.iconst 0, 1) := by decide +kernel
theorem dX8_isFit_75 : decode cX8_isFit 75 = .ok (.ireturn, 1) := by decide +kernel
theorem dX8_isStanding_0 : decode cX8_isStanding 0 = .ok (.iconst 0, 1) := by decide +kernel
theorem dX8_isStanding_1 : decode cX8_isStanding 1 = .ok (.istore_n 2, 1) := by decide +kernel
theorem dX8_isStanding_2 : decode cX8_isStanding 2 = .ok (.iload_n 2, 1) := by decide +kernel
theorem dX8_isStanding_3 : decode cX8_isStanding 3 = .ok (.aload_n 0, 1) := by decide +kernel
theorem dX8_isStanding_4 : decode cX8_isStanding 4 = .ok (.getfield 25, 3) := by decide +kernel
theorem dX8_isStanding_7 : decode cX8_isStanding 7 = .ok (.invokevirtual 65, 3) := by decide +kernel
theorem dX8_isStanding_10 : decode cX8_isStanding 10 = .ok (.if_icmp .ge 23, 3) := by decide +kernel
theorem dX8_isStanding_13 : decode cX8_isStanding 13 = .ok (.aload_n 0, 1) := by decide +kernel
theorem dX8_isStanding_14 : decode cX8_isStanding 14 = .ok (.getfield 25, 3) := by decide +kernel
theorem dX8_isStanding_17 : decode cX8_isStanding 17 = .ok (.iload_n 2, 1) := by decide +kernel
theorem dX8_isStanding_18 : decode cX8_isStanding 18 = .ok (.invokevirtual 68, 3) := by decide +kernel
theorem dX8_isStanding_21 : decode cX8_isStanding 21 = .ok (.aload_n 1, 1) := by decide +kernel
theorem dX8_isStanding_22 : decode cX8_isStanding 22 = .ok (.if_acmp .ne 5, 3) := by decide +kernel
theorem dX8_isStanding_25 : decode cX8_isStanding 25 = .ok (.iconst 1, 1) := by decide +kernel
theorem dX8_isStanding_26 : decode cX8_isStanding 26 = .ok (.ireturn, 1) := by decide +kernel
theorem dX8_isStanding_27 : decode cX8_isStanding 27 = .ok (.iinc 2 1, 3) := by decide +kernel
theorem dX8_isStanding_30 : decode cX8_isStanding 30 = .ok (.goto (-28), 3) := by decide +kernel
theorem dX8_isStanding_33 : decode cX8_isStanding 33 = .ok (.iconst 0, 1) := by decide +kernel
theorem dX8_isStanding_34 : decode cX8_isStanding 34 = .ok (.ireturn, 1) := by decide +kernel
theorem dX8_choose_0 : decode cX8_choose 0 = .ok (.aload_n 0, 1) := by decide +kernel
theorem dX8_choose_1 : decode cX8_choose 1 = .ok (.getfield 25, 3) := by decide +kernel
theorem dX8_choose_4 : decode cX8_choose 4 = .ok (.invokevirtual 65, 3) := by decide +kernel
theorem dX8_choose_7 : decode cX8_choose 7 = .ok (.istore_n 2, 1) := by decide +kernel
theorem dX8_choose_8 : decode cX8_choose 8 = .ok (.iconst 0, 1) := by decide +kernel
theorem dX8_choose_9 : decode cX8_choose 9 = .ok (.istore_n 3, 1) := by decide +kernel
theorem dX8_choose_10 : decode cX8_choose 10 = .ok (.iload_n 3, 1) := by decide +kernel
theorem dX8_choose_11 : decode cX8_choose 11 = .ok (.iload_n 2, 1) := by decide +kernel
theorem dX8_choose_12 : decode cX8_choose 12 = .ok (.if_icmp .ge 75, 3) := by decide +kernel
theorem dX8_choose_15 : decode cX8_choose 15 = .ok (.aload_n 0, 1) := by decide +kernel
theorem dX8_choose_16 : decode cX8_choose 16 = .ok (.getfield 9, 3) := by decide +kernel
theorem dX8_choose_19 : decode cX8_choose 19 = .ok (.ifnonnull 68, 3) := by decide +kernel
theorem dX8_choose_22 : decode cX8_choose 22 = .ok (.aload_n 0, 1) := by decide +kernel
theorem dX8_choose_23 : decode cX8_choose 23 = .ok (.invokevirtual 51, 3) := by decide +kernel
theorem dX8_choose_26 : decode cX8_choose 26 = .ok (.ifCond .eq 11, 3) := by decide +kernel
theorem dX8_choose_29 : decode cX8_choose 29 = .ok (.aload_n 0, 1) := by decide +kernel
theorem dX8_choose_30 : decode cX8_choose 30 = .ok (.aload_n 1, 1) := by decide +kernel
theorem dX8_choose_31 : decode cX8_choose 31 = .ok (.invokevirtual 72, 3) := by decide +kernel
theorem dX8_choose_34 : decode cX8_choose 34 = .ok (.goto 14, 3) := by decide +kernel
theorem dX8_choose_37 : decode cX8_choose 37 = .ok (.aload_n 1, 1) := by decide +kernel
theorem dX8_choose_38 : decode cX8_choose 38 = .ok (.getfield 76, 3) := by decide +kernel
theorem dX8_choose_41 : decode cX8_choose 41 = .ok (.aload_n 0, 1) := by decide +kernel
theorem dX8_choose_42 : decode cX8_choose 42 = .ok (.getfield 25, 3) := by decide +kernel
theorem dX8_choose_45 : decode cX8_choose 45 = .ok (.invokevirtual 80, 3) := by decide +kernel
theorem dX8_choose_48 : decode cX8_choose 48 = .ok (.astore 4, 2) := by decide +kernel
theorem dX8_choose_50 : decode cX8_choose 50 = .ok (.aload 4, 2) := by decide +kernel
theorem dX8_choose_52 : decode cX8_choose 52 = .ok (.ifnull 29, 3) := by decide +kernel
theorem dX8_choose_55 : decode cX8_choose 55 = .ok (.aload_n 0, 1) := by decide +kernel
theorem dX8_choose_56 : decode cX8_choose 56 = .ok (.aload 4, 2) := by decide +kernel
theorem dX8_choose_58 : decode cX8_choose 58 = .ok (.aload_n 1, 1) := by decide +kernel
theorem dX8_choose_59 : decode cX8_choose 59 = .ok (.invokevirtual 86, 3) := by decide +kernel
theorem dX8_choose_62 : decode cX8_choose 62 = .ok (.ifCond .eq 19, 3) := by decide +kernel
theorem dX8_choose_65 : decode cX8_choose 65 = .ok (.aload 4, 2) := by decide +kernel
theorem dX8_choose_67 : decode cX8_choose 67 = .ok (.aload_n 1, 1) := by decide +kernel
theorem dX8_choose_68 : decode cX8_choose 68 = .ok (.invokestatic 90, 3) := by decide +kernel
theorem dX8_choose_71 : decode cX8_choose 71 = .ok (.ifCond .eq 10, 3) := by decide +kernel
theorem dX8_choose_74 : decode cX8_choose 74 = .ok (.aload_n 0, 1) := by decide +kernel
theorem dX8_choose_75 : decode cX8_choose 75 = .ok (.aload 4, 2) := by decide +kernel
theorem dX8_choose_77 : decode cX8_choose 77 = .ok (.aload_n 1, 1) := by decide +kernel
theorem dX8_choose_78 : decode cX8_choose 78 = .ok (.invokevirtual 93, 3) := by decide +kernel
theorem dX8_choose_81 : decode cX8_choose 81 = .ok (.iinc 3 1, 3) := by decide +kernel
theorem dX8_choose_84 : decode cX8_choose 84 = .ok (.goto (-74), 3) := by decide +kernel
theorem dX8_choose_87 : decode cX8_choose 87 = .ok (.return_, 1) := by decide +kernel
theorem dX8_isAccepted_0 : decode cX8_isAccepted 0 = .ok (.aload_n 1, 1) := by decide +kernel
theorem dX8_isAccepted_1 : decode cX8_isAccepted 1 = .ok (.invokevirtual 97, 3) := by decide +kernel
theorem dX8_isAccepted_4 : decode cX8_isAccepted 4 = .ok (.istore_n 2, 1) := by decide +kernel
theorem dX8_isAccepted_5 : decode cX8_isAccepted 5 = .ok (.iload_n 2, 1) := by decide +kernel
theorem dX8_isAccepted_6 : decode cX8_isAccepted 6 = .ok (.ifCond .ne 5, 3) := by decide +kernel
theorem dX8_isAccepted_9 : decode cX8_isAccepted 9 = .ok (.iconst 1, 1) := by decide +kernel
theorem dX8_isAccepted_10 : decode cX8_isAccepted 10 = .ok (.ireturn, 1) := by decide +kernel
theorem dX8_isAccepted_11 : decode cX8_isAccepted 11 = .ok (.aload_n 0, 1) := by decide +kernel
theorem dX8_isAccepted_12 : decode cX8_isAccepted 12 = .ok (.getfield 100, 3) := by decide +kernel
theorem dX8_isAccepted_15 : decode cX8_isAccepted 15 = .ok (.ifCond .ne 21, 3) := by decide +kernel
theorem dX8_isAccepted_18 : decode cX8_isAccepted 18 = .ok (.iconst 2, 1) := by decide +kernel
theorem dX8_isAccepted_19 : decode cX8_isAccepted 19 = .ok (.aload_n 1, 1) := by decide +kernel
theorem dX8_isAccepted_20 : decode cX8_isAccepted 20 = .ok (.aload_n 0, 1) := by decide +kernel
theorem dX8_isAccepted_21 : decode cX8_isAccepted 21 = .ok (.getfield 104, 3) := by decide +kernel
theorem dX8_isAccepted_24 : decode cX8_isAccepted 24 = .ok (.invokevirtual 107, 3) := by decide +kernel
theorem dX8_isAccepted_27 : decode cX8_isAccepted 27 = .ok (.imul, 1) := by decide +kernel
theorem dX8_isAccepted_28 : decode cX8_isAccepted 28 = .ok (.iload_n 2, 1) := by decide +kernel
theorem dX8_isAccepted_29 : decode cX8_isAccepted 29 = .ok (.if_icmp .le 7, 3) := by decide +kernel
theorem dX8_isAccepted_32 : decode cX8_isAccepted 32 = .ok (.iconst 1, 1) := by decide +kernel
theorem dX8_isAccepted_33 : decode cX8_isAccepted 33 = .ok (.goto 4, 3) := by decide +kernel
theorem dX8_isAccepted_36 : decode cX8_isAccepted 36 = .ok (.iconst 0, 1) := by decide +kernel
theorem dX8_isAccepted_37 : decode cX8_isAccepted 37 = .ok (.ireturn, 1) := by decide +kernel
theorem dX8_takeMostLiked_0 : decode cX8_takeMostLiked 0 = .ok (.iconst (-1), 1) := by decide +kernel
theorem dX8_takeMostLiked_1 : decode cX8_takeMostLiked 1 = .ok (.istore_n 2, 1) := by decide +kernel
theorem dX8_takeMostLiked_2 : decode cX8_takeMostLiked 2 = .ok (.iconst (-1), 1) := by decide +kernel
theorem dX8_takeMostLiked_3 : decode cX8_takeMostLiked 3 = .ok (.istore_n 3, 1) := by decide +kernel
theorem dX8_takeMostLiked_4 : decode cX8_takeMostLiked 4 = .ok (.iconst 0, 1) := by decide +kernel
theorem dX8_takeMostLiked_5 : decode cX8_takeMostLiked 5 = .ok (.istore 4, 2) := by decide +kernel
theorem dX8_takeMostLiked_7 : decode cX8_takeMostLiked 7 = .ok (.iload 4, 2) := by decide +kernel
theorem dX8_takeMostLiked_9 : decode cX8_takeMostLiked 9 = .ok (.aload_n 0, 1) := by decide +kernel
theorem dX8_takeMostLiked_10 : decode cX8_takeMostLiked 10 = .ok (.getfield 25, 3) := by decide +kernel
theorem dX8_takeMostLiked_13 : decode cX8_takeMostLiked 13 = .ok (.invokevirtual 65, 3) := by decide +kernel
theorem dX8_takeMostLiked_16 : decode cX8_takeMostLiked 16 = .ok (.if_icmp .ge 42, 3) := by decide +kernel
theorem dX8_takeMostLiked_19 : decode cX8_takeMostLiked 19 = .ok (.aload_n 1, 1) := by decide +kernel
theorem dX8_takeMostLiked_20 : decode cX8_takeMostLiked 20 = .ok (.aload_n 0, 1) := by decide +kernel
theorem dX8_takeMostLiked_21 : decode cX8_takeMostLiked 21 = .ok (.getfield 25, 3) := by decide +kernel
theorem dX8_takeMostLiked_24 : decode cX8_takeMostLiked 24 = .ok (.iload 4, 2) := by decide +kernel
theorem dX8_takeMostLiked_26 : decode cX8_takeMostLiked 26 = .ok (.invokevirtual 68, 3) := by decide +kernel
theorem dX8_takeMostLiked_29 : decode cX8_takeMostLiked 29 = .ok (.checkcast 39, 3) := by decide +kernel
theorem dX8_takeMostLiked_32 : decode cX8_takeMostLiked 32 = .ok (.getfield 104, 3) := by decide +kernel
theorem dX8_takeMostLiked_35 : decode cX8_takeMostLiked 35 = .ok (.invokevirtual 110, 3) := by decide +kernel
theorem dX8_takeMostLiked_38 : decode cX8_takeMostLiked 38 = .ok (.istore 5, 2) := by decide +kernel
theorem dX8_takeMostLiked_40 : decode cX8_takeMostLiked 40 = .ok (.iload 5, 2) := by decide +kernel
theorem dX8_takeMostLiked_42 : decode cX8_takeMostLiked 42 = .ok (.iload_n 3, 1) := by decide +kernel
theorem dX8_takeMostLiked_43 : decode cX8_takeMostLiked 43 = .ok (.if_icmp .le 9, 3) := by decide +kernel
theorem dX8_takeMostLiked_46 : decode cX8_takeMostLiked 46 = .ok (.iload 5, 2) := by decide +kernel
theorem dX8_takeMostLiked_48 : decode cX8_takeMostLiked 48 = .ok (.istore_n 3, 1) := by decide +kernel
theorem dX8_takeMostLiked_49 : decode cX8_takeMostLiked 49 = .ok (.iload 4, 2) := by decide +kernel
theorem dX8_takeMostLiked_51 : decode cX8_takeMostLiked 51 = .ok (.istore_n 2, 1) := by decide +kernel
theorem dX8_takeMostLiked_52 : decode cX8_takeMostLiked 52 = .ok (.iinc 4 1, 3) := by decide +kernel
theorem dX8_takeMostLiked_55 : decode cX8_takeMostLiked 55 = .ok (.goto (-48), 3) := by decide +kernel
theorem dX8_takeMostLiked_58 : decode cX8_takeMostLiked 58 = .ok (.iload_n 2, 1) := by decide +kernel
theorem dX8_takeMostLiked_59 : decode cX8_takeMostLiked 59 = .ok (.iconst 0, 1) := by decide +kernel
theorem dX8_takeMostLiked_60 : decode cX8_takeMostLiked 60 = .ok (.aload_n 0, 1) := by decide +kernel
theorem dX8_takeMostLiked_61 : decode cX8_takeMostLiked 61 = .ok (.getfield 25, 3) := by decide +kernel
theorem dX8_takeMostLiked_64 : decode cX8_takeMostLiked 64 = .ok (.invokevirtual 65, 3) := by decide +kernel
theorem dX8_takeMostLiked_67 : decode cX8_takeMostLiked 67 = .ok (.iconst 1, 1) := by decide +kernel
theorem dX8_takeMostLiked_68 : decode cX8_takeMostLiked 68 = .ok (.isub, 1) := by decide +kernel
theorem dX8_takeMostLiked_69 : decode cX8_takeMostLiked 69 = .ok (.invokestatic 113, 3) := by decide +kernel
theorem dX8_takeMostLiked_72 : decode cX8_takeMostLiked 72 = .ok (.ifCond .eq 17, 3) := by decide +kernel
theorem dX8_takeMostLiked_75 : decode cX8_takeMostLiked 75 = .ok (.aload_n 0, 1) := by decide +kernel
theorem dX8_takeMostLiked_76 : decode cX8_takeMostLiked 76 = .ok (.getfield 25, 3) := by decide +kernel
theorem dX8_takeMostLiked_79 : decode cX8_takeMostLiked 79 = .ok (.iload_n 2, 1) := by decide +kernel
theorem dX8_takeMostLiked_80 : decode cX8_takeMostLiked 80 = .ok (.invokevirtual 117, 3) := by decide +kernel
theorem dX8_takeMostLiked_83 : decode cX8_takeMostLiked 83 = .ok (.checkcast 39, 3) := by decide +kernel
theorem dX8_takeMostLiked_86 : decode cX8_takeMostLiked 86 = .ok (.goto 4, 3) := by decide +kernel
theorem dX8_takeMostLiked_89 : decode cX8_takeMostLiked 89 = .ok (.aconst_null, 1) := by decide +kernel
theorem dX8_takeMostLiked_90 : decode cX8_takeMostLiked 90 = .ok (.areturn, 1) := by decide +kernel
theorem dX8_install_0 : decode cX8_install 0 = .ok (.aload_n 0, 1) := by decide +kernel
theorem dX8_install_1 : decode cX8_install 1 = .ok (.aload_n 1, 1) := by decide +kernel
theorem dX8_install_2 : decode cX8_install 2 = .ok (.putfield 9, 3) := by decide +kernel
theorem dX8_install_5 : decode cX8_install 5 = .ok (.aload_n 0, 1) := by decide +kernel
theorem dX8_install_6 : decode cX8_install 6 = .ok (.aload_n 2, 1) := by decide +kernel
theorem dX8_install_7 : decode cX8_install 7 = .ok (.getfield 120, 3) := by decide +kernel
theorem dX8_install_10 : decode cX8_install 10 = .ok (.putfield 15, 3) := by decide +kernel
theorem dX8_install_13 : decode cX8_install 13 = .ok (.aload_n 0, 1) := by decide +kernel
theorem dX8_install_14 : decode cX8_install 14 = .ok (.aload_n 2, 1) := by decide +kernel
theorem dX8_install_15 : decode cX8_install 15 = .ok (.getfield 123, 3) := by decide +kernel
theorem dX8_install_18 : decode cX8_install 18 = .ok (.aload_n 2, 1) := by decide +kernel
theorem dX8_install_19 : decode cX8_install 19 = .ok (.getfield 126, 3) := by decide +kernel
theorem dX8_install_22 : decode cX8_install 22 = .ok (.iadd, 1) := by decide +kernel
theorem dX8_install_23 : decode cX8_install 23 = .ok (.putfield 19, 3) := by decide +kernel
theorem dX8_install_26 : decode cX8_install 26 = .ok (.aload_n 0, 1) := by decide +kernel
theorem dX8_install_27 : decode cX8_install 27 = .ok (.getfield 25, 3) := by decide +kernel
theorem dX8_install_30 : decode cX8_install 30 = .ok (.invokevirtual 129, 3) := by decide +kernel
theorem dX8_install_33 : decode cX8_install 33 = .ok (.return_, 1) := by decide +kernel
theorem dX8_handled_0 : decode cX8_handled 0 = .ok (.aload_n 0, 1) := by decide +kernel
theorem dX8_handled_1 : decode cX8_handled 1 = .ok (.getfield 9, 3) := by decide +kernel
theorem dX8_handled_4 : decode cX8_handled 4 = .ok (.ifnonnull 5, 3) := by decide +kernel
theorem dX8_handled_7 : decode cX8_handled 7 = .ok (.iconst 0, 1) := by decide +kernel
theorem dX8_handled_8 : decode cX8_handled 8 = .ok (.ireturn, 1) := by decide +kernel
theorem dX8_handled_9 : decode cX8_handled 9 = .ok (.aload_n 0, 1) := by decide +kernel
theorem dX8_handled_10 : decode cX8_handled 10 = .ok (.getfield 29, 3) := by decide +kernel
theorem dX8_handled_13 : decode cX8_handled 13 = .ok (.iconst 1, 1) := by decide +kernel
theorem dX8_handled_14 : decode cX8_handled 14 = .ok (.if_icmp .ne 18, 3) := by decide +kernel
theorem dX8_handled_17 : decode cX8_handled 17 = .ok (.aload_n 1, 1) := by decide +kernel
theorem dX8_handled_18 : decode cX8_handled 18 = .ok (.getfield 123, 3) := by decide +kernel
theorem dX8_handled_21 : decode cX8_handled 21 = .ok (.aload_n 1, 1) := by decide +kernel
theorem dX8_handled_22 : decode cX8_handled 22 = .ok (.getfield 126, 3) := by decide +kernel
theorem dX8_handled_25 : decode cX8_handled 25 = .ok (.iadd, 1) := by decide +kernel
theorem dX8_handled_26 : decode cX8_handled 26 = .ok (.aload_n 0, 1) := by decide +kernel
theorem dX8_handled_27 : decode cX8_handled 27 = .ok (.getfield 19, 3) := by decide +kernel
theorem dX8_handled_30 : decode cX8_handled 30 = .ok (.isub, 1) := by decide +kernel
theorem dX8_handled_31 : decode cX8_handled 31 = .ok (.ireturn, 1) := by decide +kernel
theorem dX8_handled_32 : decode cX8_handled 32 = .ok (.aload_n 1, 1) := by decide +kernel
theorem dX8_handled_33 : decode cX8_handled 33 = .ok (.getfield 120, 3) := by decide +kernel
theorem dX8_handled_36 : decode cX8_handled 36 = .ok (.aload_n 0, 1) := by decide +kernel
theorem dX8_handled_37 : decode cX8_handled 37 = .ok (.getfield 15, 3) := by decide +kernel
theorem dX8_handled_40 : decode cX8_handled 40 = .ok (.isub, 1) := by decide +kernel
theorem dX8_handled_41 : decode cX8_handled 41 = .ok (.ireturn, 1) := by decide +kernel
theorem dX8_dismiss_0 : decode cX8_dismiss 0 = .ok (.aload_n 0, 1) := by decide +kernel
theorem dX8_dismiss_1 : decode cX8_dismiss 1 = .ok (.getfield 9, 3) := by decide +kernel
theorem dX8_dismiss_4 : decode cX8_dismiss 4 = .ok (.astore_n 2, 1) := by decide +kernel
theorem dX8_dismiss_5 : decode cX8_dismiss 5 = .ok (.aload_n 2, 1) := by decide +kernel
theorem dX8_dismiss_6 : decode cX8_dismiss 6 = .ok (.ifnonnull 4, 3) := by decide +kernel
theorem dX8_dismiss_9 : decode cX8_dismiss 9 = .ok (.return_, 1) := by decide +kernel
theorem dX8_dismiss_10 : decode cX8_dismiss 10 = .ok (.aload_n 0, 1) := by decide +kernel
theorem dX8_dismiss_11 : decode cX8_dismiss 11 = .ok (.aload_n 1, 1) := by decide +kernel
theorem dX8_dismiss_12 : decode cX8_dismiss 12 = .ok (.invokevirtual 132, 3) := by decide +kernel
theorem dX8_dismiss_15 : decode cX8_dismiss 15 = .ok (.istore_n 3, 1) := by decide +kernel
theorem dX8_dismiss_16 : decode cX8_dismiss 16 = .ok (.aload_n 0, 1) := by decide +kernel
theorem dX8_dismiss_17 : decode cX8_dismiss 17 = .ok (.aconst_null, 1) := by decide +kernel
theorem dX8_dismiss_18 : decode cX8_dismiss 18 = .ok (.putfield 9, 3) := by decide +kernel
theorem dX8_dismiss_21 : decode cX8_dismiss 21 = .ok (.aload_n 2, 1) := by decide +kernel
theorem dX8_dismiss_22 : decode cX8_dismiss 22 = .ok (.aload_n 1, 1) := by decide +kernel
theorem dX8_dismiss_23 : decode cX8_dismiss 23 = .ok (.getfield 120, 3) := by decide +kernel
theorem dX8_dismiss_26 : decode cX8_dismiss 26 = .ok (.bipush 10, 2) := by decide +kernel
theorem dX8_dismiss_28 : decode cX8_dismiss 28 = .ok (.iadd, 1) := by decide +kernel
theorem dX8_dismiss_29 : decode cX8_dismiss 29 = .ok (.putfield 136, 3) := by decide +kernel
theorem dX8_dismiss_32 : decode cX8_dismiss 32 = .ok (.aload_n 1, 1) := by decide +kernel
theorem dX8_dismiss_33 : decode cX8_dismiss 33 = .ok (.getfield 76, 3) := by decide +kernel
theorem dX8_dismiss_36 : decode cX8_dismiss 36 = .ok (.bipush 8, 2) := by decide +kernel
theorem dX8_dismiss_38 : decode cX8_dismiss 38 = .ok (.invokevirtual 139, 3) := by decide +kernel
theorem dX8_dismiss_41 : decode cX8_dismiss 41 = .ok (.ifCond .ne 12, 3) := by decide +kernel
theorem dX8_dismiss_44 : decode cX8_dismiss 44 = .ok (.aload_n 1, 1) := by decide +kernel
theorem dX8_dismiss_45 : decode cX8_dismiss 45 = .ok (.aload_n 2, 1) := by decide +kernel
theorem dX8_dismiss_46 : decode cX8_dismiss 46 = .ok (.iload_n 3, 1) := by decide +kernel
theorem dX8_dismiss_47 : decode cX8_dismiss 47 = .ok (.bipush 10, 2) := by decide +kernel
theorem dX8_dismiss_49 : decode cX8_dismiss 49 = .ok (.idiv, 1) := by decide +kernel
theorem dX8_dismiss_50 : decode cX8_dismiss 50 = .ok (.invokevirtual 142, 3) := by decide +kernel
theorem dX8_dismiss_53 : decode cX8_dismiss 53 = .ok (.return_, 1) := by decide +kernel
theorem dX9_init_0 : decode cX9_init 0 = .ok (.aload_n 0, 1) := by decide +kernel
theorem dX9_init_1 : decode cX9_init 1 = .ok (.invokespecial 3, 3) := by decide +kernel
theorem dX9_init_4 : decode cX9_init 4 = .ok (.aload_n 0, 1) := by decide +kernel
theorem dX9_init_5 : decode cX9_init 5 = .ok (.new 9, 3) := by decide +kernel
theorem dX9_init_8 : decode cX9_init 8 = .ok (.dup, 1) := by decide +kernel
theorem dX9_init_9 : decode cX9_init 9 = .ok (.invokespecial 11, 3) := by decide +kernel
theorem dX9_init_12 : decode cX9_init 12 = .ok (.putfield 12, 3) := by decide +kernel
theorem dX9_init_15 : decode cX9_init 15 = .ok (.aload_n 0, 1) := by decide +kernel
theorem dX9_init_16 : decode cX9_init 16 = .ok (.new 9, 3) := by decide +kernel
theorem dX9_init_19 : decode cX9_init 19 = .ok (.dup, 1) := by decide +kernel
theorem dX9_init_20 : decode cX9_init 20 = .ok (.invokespecial 11, 3) := by decide +kernel
theorem dX9_init_23 : decode cX9_init 23 = .ok (.putfield 18, 3) := by decide +kernel
theorem dX9_init_26 : decode cX9_init 26 = .ok (.aload_n 0, 1) := by decide +kernel
theorem dX9_init_27 : decode cX9_init 27 = .ok (.iconst 4, 1) := by decide +kernel
theorem dX9_init_28 : decode cX9_init 28 = .ok (.newarray .int, 2) := by decide +kernel
theorem dX9_init_30 : decode cX9_init 30 = .ok (.putfield 21, 3) := by decide +kernel
theorem dX9_init_33 : decode cX9_init 33 = .ok (.aload_n 0, 1) := by decide +kernel
theorem dX9_init_34 : decode cX9_init 34 = .ok (.iconst (-1), 1) := by decide +kernel
theorem dX9_init_35 : decode cX9_init 35 = .ok (.putfield 25, 3) := by decide +kernel
theorem dX9_init_38 : decode cX9_init 38 = .ok (.aload_n 0, 1) := by decide +kernel
theorem dX9_init_39 : decode cX9_init 39 = .ok (.iconst (-1), 1) := by decide +kernel
theorem dX9_init_40 : decode cX9_init 40 = .ok (.putfield 29, 3) := by decide +kernel
theorem dX9_init_43 : decode cX9_init 43 = .ok (.aload_n 0, 1) := by decide +kernel
theorem dX9_init_44 : decode cX9_init 44 = .ok (.aload_n 1, 1) := by decide +kernel
theorem dX9_init_45 : decode cX9_init 45 = .ok (.putfield 32, 3) := by decide +kernel
theorem dX9_init_48 : decode cX9_init 48 = .ok (.aload_n 0, 1) := by decide +kernel
theorem dX9_init_49 : decode cX9_init 49 = .ok (.aload_n 2, 1) := by decide +kernel
theorem dX9_init_50 : decode cX9_init 50 = .ok (.putfield 36, 3) := by decide +kernel
theorem dX9_init_53 : decode cX9_init 53 = .ok (.aload_n 0, 1) := by decide +kernel
theorem dX9_init_54 : decode cX9_init 54 = .ok (.aload_n 3, 1) := by decide +kernel
theorem dX9_init_55 : decode cX9_init 55 = .ok (.putfield 40, 3) := by decide +kernel
theorem dX9_init_58 : decode cX9_init 58 = .ok (.return_, 1) := by decide +kernel
theorem dX9_isAmnesty_0 : decode cX9_isAmnesty 0 = .ok (.aload_n 0, 1) := by decide +kernel
theorem dX9_isAmnesty_1 : decode cX9_isAmnesty 1 = .ok (.getfield 29, 3) := by decide +kernel
theorem dX9_isAmnesty_4 : decode cX9_isAmnesty 4 = .ok (.iconst (-1), 1) := by decide +kernel
theorem dX9_isAmnesty_5 : decode cX9_isAmnesty 5 = .ok (.if_icmp .eq 24, 3) := by decide +kernel
theorem dX9_isAmnesty_8 : decode cX9_isAmnesty 8 = .ok (.aload_n 0, 1) := by decide +kernel
theorem dX9_isAmnesty_9 : decode cX9_isAmnesty 9 = .ok (.getfield 32, 3) := by decide +kernel
theorem dX9_isAmnesty_12 : decode cX9_isAmnesty 12 = .ok (.getfield 44, 3) := by decide +kernel
theorem dX9_isAmnesty_15 : decode cX9_isAmnesty 15 = .ok (.aload_n 0, 1) := by decide +kernel
theorem dX9_isAmnesty_16 : decode cX9_isAmnesty 16 = .ok (.getfield 29, 3) := by decide +kernel
theorem dX9_isAmnesty_19 : decode cX9_isAmnesty 19 = .ok (.bipush 40, 2) := by decide +kernel
theorem dX9_isAmnesty_21 : decode cX9_isAmnesty 21 = .ok (.iadd, 1) := by decide +kernel
theorem dX9_isAmnesty_22 : decode cX9_isAmnesty 22 = .ok (.if_icmp .gt 7, 3) := by decide +kernel
theorem dX9_isAmnesty_25 : decode cX9_isAmnesty 25 = .ok (.iconst 1, 1) := by decide +kernel
theorem dX9_isAmnesty_26 : decode cX9_isAmnesty 26 = .ok (.goto 4, 3) := by decide +kernel
theorem dX9_isAmnesty_29 : decode cX9_isAmnesty 29 = .ok (.iconst 0, 1) := by decide +kernel
theorem dX9_isAmnesty_30 : decode cX9_isAmnesty 30 = .ok (.ireturn, 1) := by decide +kernel
theorem dX9_firstRuler_0 : decode cX9_firstRuler 0 = .ok (.aload_n 0, 1) := by decide +kernel
theorem dX9_firstRuler_1 : decode cX9_firstRuler 1 = .ok (.getfield 12, 3) := by decide +kernel
theorem dX9_firstRuler_4 : decode cX9_firstRuler 4 = .ok (.invokevirtual 49, 3) := by decide +kernel
theorem dX9_firstRuler_7 : decode cX9_firstRuler 7 = .ok (.ifCond .eq 7, 3) := by decide +kernel
theorem dX9_firstRuler_10 : decode cX9_firstRuler 10 = .ok (.aconst_null, 1) := by decide +kernel
theorem dX9_firstRuler_11 : decode cX9_firstRuler 11 = .ok (.goto 14, 3) := by decide +kernel
theorem dX9_firstRuler_14 : decode cX9_firstRuler 14 = .ok (.aload_n 0, 1) := by decide +kernel
theorem dX9_firstRuler_15 : decode cX9_firstRuler 15 = .ok (.getfield 12, 3) := by decide +kernel
theorem dX9_firstRuler_18 : decode cX9_firstRuler 18 = .ok (.iconst 0, 1) := by decide +kernel
theorem dX9_firstRuler_19 : decode cX9_firstRuler 19 = .ok (.invokevirtual 53, 3) := by decide +kernel
theorem dX9_firstRuler_22 : decode cX9_firstRuler 22 = .ok (.checkcast 57, 3) := by decide +kernel
theorem dX9_firstRuler_25 : decode cX9_firstRuler 25 = .ok (.areturn, 1) := by decide +kernel
theorem dX9_beginPrytany_0 : decode cX9_beginPrytany 0 = .ok (.aload_n 0, 1) := by decide +kernel
theorem dX9_beginPrytany_1 : decode cX9_beginPrytany 1 = .ok (.getfield 32, 3) := by decide +kernel
theorem dX9_beginPrytany_4 : decode cX9_beginPrytany 4 = .ok (.getfield 59, 3) := by decide +kernel
theorem dX9_beginPrytany_7 : decode cX9_beginPrytany 7 = .ok (.ifCond .ne 10, 3) := by decide +kernel
theorem dX9_beginPrytany_10 : decode cX9_beginPrytany 10 = .ok (.aload_n 0, 1) := by decide +kernel
theorem dX9_beginPrytany_11 : decode cX9_beginPrytany 11 = .ok (.invokevirtual 63, 3) := by decide +kernel
theorem dX9_beginPrytany_14 : decode cX9_beginPrytany 14 = .ok (.goto 19, 3) := by decide +kernel
theorem dX9_beginPrytany_17 : decode cX9_beginPrytany 17 = .ok (.aload_n 0, 1) := by decide +kernel
theorem dX9_beginPrytany_18 : decode cX9_beginPrytany 18 = .ok (.getfield 32, 3) := by decide +kernel
theorem dX9_beginPrytany_21 : decode cX9_beginPrytany 21 = .ok (.getfield 66, 3) := by decide +kernel
theorem dX9_beginPrytany_24 : decode cX9_beginPrytany 24 = .ok (.bipush 20, 2) := by decide +kernel
theorem dX9_beginPrytany_26 : decode cX9_beginPrytany 26 = .ok (.if_icmp .lt 7, 3) := by decide +kernel
theorem dX9_beginPrytany_29 : decode cX9_beginPrytany 29 = .ok (.aload_n 0, 1) := by decide +kernel
theorem dX9_beginPrytany_30 : decode cX9_beginPrytany 30 = .ok (.invokevirtual 69, 3) := by decide +kernel
theorem dX9_beginPrytany_33 : decode cX9_beginPrytany 33 = .ok (.return_, 1) := by decide +kernel
theorem dX9_overthrow_0 : decode cX9_overthrow 0 = .ok (.aload_n 0, 1) := by decide +kernel
theorem dX9_overthrow_1 : decode cX9_overthrow 1 = .ok (.getfield 32, 3) := by decide +kernel
theorem dX9_overthrow_4 : decode cX9_overthrow 4 = .ok (.iconst 0, 1) := by decide +kernel
theorem dX9_overthrow_5 : decode cX9_overthrow 5 = .ok (.putfield 59, 3) := by decide +kernel
theorem dX9_overthrow_8 : decode cX9_overthrow 8 = .ok (.aload_n 0, 1) := by decide +kernel
theorem dX9_overthrow_9 : decode cX9_overthrow 9 = .ok (.getfield 32, 3) := by decide +kernel
theorem dX9_overthrow_12 : decode cX9_overthrow 12 = .ok (.invokevirtual 72, 3) := by decide +kernel
theorem dX9_overthrow_15 : decode cX9_overthrow 15 = .ok (.aload_n 0, 1) := by decide +kernel
theorem dX9_overthrow_16 : decode cX9_overthrow 16 = .ok (.getfield 32, 3) := by decide +kernel
theorem dX9_overthrow_19 : decode cX9_overthrow 19 = .ok (.invokevirtual 75, 3) := by decide +kernel
theorem dX9_overthrow_22 : decode cX9_overthrow 22 = .ok (.aload_n 0, 1) := by decide +kernel
theorem dX9_overthrow_23 : decode cX9_overthrow 23 = .ok (.getfield 36, 3) := by decide +kernel
theorem dX9_overthrow_26 : decode cX9_overthrow 26 = .ok (.getfield 78, 3) := by decide +kernel
theorem dX9_overthrow_29 : decode cX9_overthrow 29 = .ok (.invokevirtual 83, 3) := by decide +kernel
theorem dX9_overthrow_32 : decode cX9_overthrow 32 = .ok (.iconst 0, 1) := by decide +kernel
theorem dX9_overthrow_33 : decode cX9_overthrow 33 = .ok (.istore_n 1, 1) := by decide +kernel
theorem dX9_overthrow_34 : decode cX9_overthrow 34 = .ok (.iload_n 1, 1) := by decide +kernel
theorem dX9_overthrow_35 : decode cX9_overthrow 35 = .ok (.iconst 3, 1) := by decide +kernel
theorem dX9_overthrow_36 : decode cX9_overthrow 36 = .ok (.if_icmp .ge 27, 3) := by decide +kernel
theorem dX9_overthrow_39 : decode cX9_overthrow 39 = .ok (.aload_n 0, 1) := by decide +kernel
theorem dX9_overthrow_40 : decode cX9_overthrow 40 = .ok (.invokevirtual 86, 3) := by decide +kernel
theorem dX9_overthrow_43 : decode cX9_overthrow 43 = .ok (.astore_n 2, 1) := by decide +kernel
theorem dX9_overthrow_44 : decode cX9_overthrow 44 = .ok (.aload_n 2, 1) := by decide +kernel
theorem dX9_overthrow_45 : decode cX9_overthrow 45 = .ok (.ifnull 12, 3) := by decide +kernel
theorem dX9_overthrow_48 : decode cX9_overthrow 48 = .ok (.aload_n 0, 1) := by decide +kernel
theorem dX9_overthrow_49 : decode cX9_overthrow 49 = .ok (.getfield 12, 3) := by decide +kernel
theorem dX9_overthrow_52 : decode cX9_overthrow 52 = .ok (.aload_n 2, 1) := by decide +kernel
theorem dX9_overthrow_53 : decode cX9_overthrow 53 = .ok (.invokevirtual 90, 3) := by decide +kernel
theorem dX9_overthrow_56 : decode cX9_overthrow 56 = .ok (.pop, 1) := by decide +kernel
theorem dX9_overthrow_57 : decode cX9_overthrow 57 = .ok (.iinc 1 1, 3) := by decide +kernel
theorem dX9_overthrow_60 : decode cX9_overthrow 60 = .ok (.goto (-26), 3) := by decide +kernel
theorem dX9_overthrow_63 : decode cX9_overthrow 63 = .ok (.return_, 1) := by decide +kernel
theorem dX9_richestBehind_0 : decode cX9_richestBehind 0 = .ok (.aconst_null, 1) := by decide +kernel
theorem dX9_richestBehind_1 : decode cX9_richestBehind 1 = .ok (.astore_n 1, 1) := by decide +kernel
theorem dX9_richestBehind_2 : decode cX9_richestBehind 2 = .ok (.iconst 0, 1) := by decide +kernel
theorem dX9_richestBehind_3 : decode cX9_richestBehind 3 = .ok (.istore_n 2, 1) := by decide +kernel
theorem dX9_richestBehind_4 : decode cX9_richestBehind 4 = .ok (.iload_n 2, 1) := by decide +kernel
theorem dX9_richestBehind_5 : decode cX9_richestBehind 5 = .ok (.aload_n 0, 1) := by decide +kernel
theorem dX9_richestBehind_6 : decode cX9_richestBehind 6 = .ok (.getfield 32, 3) := by decide +kernel
theorem dX9_richestBehind_9 : decode cX9_richestBehind 9 = .ok (.getfield 94, 3) := by decide +kernel
theorem dX9_richestBehind_12 : decode cX9_richestBehind 12 = .ok (.invokevirtual 97, 3) := by decide +kernel
theorem dX9_richestBehind_15 : decode cX9_richestBehind 15 = .ok (.if_icmp .ge 68, 3) := by decide +kernel
theorem dX9_richestBehind_18 : decode cX9_richestBehind 18 = .ok (.aload_n 0, 1) := by decide +kernel
theorem dX9_richestBehind_19 : decode cX9_richestBehind 19 = .ok (.getfield 32, 3) := by decide +kernel
theorem dX9_richestBehind_22 : decode cX9_richestBehind 22 = .ok (.getfield 94, 3) := by decide +kernel
theorem dX9_richestBehind_25 : decode cX9_richestBehind 25 = .ok (.iload_n 2, 1) := by decide +kernel
theorem dX9_richestBehind_26 : decode cX9_richestBehind 26 = .ok (.invokevirtual 53, 3) := by decide +kernel
theorem dX9_richestBehind_29 : decode cX9_richestBehind 29 = .ok (.checkcast 57, 3) := by decide +kernel
theorem dX9_richestBehind_32 : decode cX9_richestBehind 32 = .ok (.astore_n 3, 1) := by decide +kernel
theorem dX9_richestBehind_33 : decode cX9_richestBehind 33 = .ok (.aload_n 1, 1) := by decide +kernel
theorem dX9_richestBehind_34 : decode cX9_richestBehind 34 = .ok (.ifnull 14, 3) := by decide +kernel
theorem dX9_richestBehind_37 : decode cX9_richestBehind 37 = .ok (.aload_n 3, 1) := by decide +kernel
theorem dX9_richestBehind_38 : decode cX9_richestBehind 38 = .ok (.getfield 101, 3) := by decide +kernel
theorem dX9_richestBehind_41 : decode cX9_richestBehind 41 = .ok (.aload_n 1, 1) := by decide +kernel
theorem dX9_richestBehind_42 : decode cX9_richestBehind 42 = .ok (.getfield 101, 3) := by decide +kernel
theorem dX9_richestBehind_45 : decode cX9_richestBehind 45 = .ok (.if_icmp .le 7, 3) := by decide +kernel
theorem dX9_richestBehind_48 : decode cX9_richestBehind 48 = .ok (.iconst 1, 1) := by decide +kernel
theorem dX9_richestBehind_49 : decode cX9_richestBehind 49 = .ok (.goto 4, 3) := by decide +kernel
theorem dX9_richestBehind_52 : decode cX9_richestBehind 52 = .ok (.iconst 0, 1) := by decide +kernel
theorem dX9_richestBehind_53 : decode cX9_richestBehind 53 = .ok (.istore 4, 2) := by decide +kernel
theorem dX9_richestBehind_55 : decode cX9_richestBehind 55 = .ok (.aload_n 3, 1) := by decide +kernel
theorem dX9_richestBehind_56 : decode cX9_richestBehind 56 = .ok (.invokevirtual 104, 3) := by decide +kernel
theorem dX9_richestBehind_59 : decode cX9_richestBehind 59 = .ok (.ifCond .eq 18, 3) := by decide +kernel
theorem dX9_richestBehind_62 : decode cX9_richestBehind 62 = .ok (.aload_n 0, 1) := by decide +kernel
theorem dX9_richestBehind_63 : decode cX9_richestBehind 63 = .ok (.aload_n 3, 1) := by decide +kernel
theorem dX9_richestBehind_64 : decode cX9_richestBehind 64 = .ok (.invokevirtual 107, 3) := by decide +kernel
theorem dX9_richestBehind_67 : decode cX9_richestBehind 67 = .ok (.ifCond .ne 10, 3) := by decide +kernel
theorem dX9_richestBehind_70 : decode cX9_richestBehind 70 = .ok (.iload 4, 2) := by decide +kernel
theorem dX9_richestBehind_72 : decode cX9_richestBehind 72 = .ok (.ifCond .eq 5, 3) := by decide +kernel
theorem dX9_richestBehind_75 : decode cX9_richestBehind 75 = .ok (.aload_n 3, 1) := by decide +kernel
theorem dX9_richestBehind_76 : decode cX9_richestBehind 76 = .ok (.astore_n 1, 1) := by decide +kernel
theorem dX9_richestBehind_77 : decode cX9_richestBehind 77 = .ok (.iinc 2 1, 3) := by decide +kernel
theorem dX9_richestBehind_80 : decode cX9_richestBehind 80 = .ok (.goto (-76), 3) := by decide +kernel
theorem dX9_richestBehind_83 : decode cX9_richestBehind 83 = .ok (.aload_n 1, 1) := by decide +kernel
theorem dX9_richestBehind_84 : decode cX9_richestBehind 84 = .ok (.areturn, 1) := by decide +kernel
theorem dX9_isRuler_0 : decode cX9_isRuler 0 = .ok (.iconst 0, 1) := by decide +kernel
theorem dX9_isRuler_1 : decode cX9_isRuler 1 = .ok (.istore_n 2, 1) := by decide +kernel
theorem dX9_isRuler_2 : decode cX9_isRuler 2 = .ok (.iload_n 2, 1) := by decide +kernel
theorem dX9_isRuler_3 : decode cX9_isRuler 3 = .ok (.aload_n 0, 1) := by decide +kernel
theorem dX9_isRuler_4 : decode cX9_isRuler 4 = .ok (.getfield 12, 3) := by decide +kernel
theorem dX9_isRuler_7 : decode cX9_isRuler 7 = .ok (.invokevirtual 97, 3) := by decide +kernel
theorem dX9_isRuler_10 : decode cX9_isRuler 10 = .ok (.if_icmp .ge 23, 3) := by decide +kernel
theorem dX9_isRuler_13 : decode cX9_isRuler 13 = .ok (.aload_n 0, 1) := by decide +kernel
theorem dX9_isRuler_14 : decode cX9_isRuler 14 = .ok (.getfield 12, 3) := by decide +kernel
theorem dX9_isRuler_17 : decode cX9_isRuler 17 = .ok (.iload_n 2, 1) := by decide +kernel
theorem dX9_isRuler_18 : decode cX9_isRuler 18 = .ok (.invokevirtual 53, 3) := by decide +kernel
theorem dX9_isRuler_21 : decode cX9_isRuler 21 = .ok (.aload_n 1, 1) := by decide +kernel
theorem dX9_isRuler_22 : decode cX9_isRuler 22 = .ok (.if_acmp .ne 5, 3) := by decide +kernel
theorem dX9_isRuler_25 : decode cX9_isRuler 25 = .ok (.iconst 1, 1) := by decide +kernel
theorem dX9_isRuler_26 : decode cX9_isRuler 26 = .ok (.ireturn, 1) := by decide +kernel
theorem dX9_isRuler_27 : decode cX9_isRuler 27 = .ok (.iinc 2 1, 3) := by decide +kernel
theorem dX9_isRuler_30 : decode cX9_isRuler 30 = .ok (.goto (-28), 3) := by decide +kernel
theorem dX9_isRuler_33 : decode cX9_isRuler 33 = .ok (.iconst 0, 1) := by decide +kernel
theorem dX9_isRuler_34 : decode cX9_isRuler 34 = .ok (.ireturn, 1) := by decide +kernel
theorem dX9_exact_0 : decode cX9_exact 0 = .ok (.iconst 0, 1) := by decide +kernel
theorem dX9_exact_1 : decode cX9_exact 1 = .ok (.istore_n 1, 1) := by decide +kernel
theorem dX9_exact_2 : decode cX9_exact 2 = .ok (.iconst 0, 1) := by decide +kernel
theorem dX9_exact_3 : decode cX9_exact 3 = .ok (.istore_n 2, 1) := by decide +kernel
theorem dX9_exact_4 : decode cX9_exact 4 = .ok (.iload_n 2, 1) := by decide +kernel
theorem dX9_exact_5 : decode cX9_exact 5 = .ok (.aload_n 0, 1) := by decide +kernel
theorem dX9_exact_6 : decode cX9_exact 6 = .ok (.getfield 32, 3) := by decide +kernel
theorem dX9_exact_9 : decode cX9_exact 9 = .ok (.getfield 94, 3) := by decide +kernel
theorem dX9_exact_12 : decode cX9_exact 12 = .ok (.invokevirtual 97, 3) := by decide +kernel
theorem dX9_exact_15 : decode cX9_exact 15 = .ok (.if_icmp .ge 102, 3) := by decide +kernel
theorem dX9_exact_18 : decode cX9_exact 18 = .ok (.iload_n 1, 1) := by decide +kernel
theorem dX9_exact_19 : decode cX9_exact 19 = .ok (.aload_n 0, 1) := by decide +kernel
theorem dX9_exact_20 : decode cX9_exact 20 = .ok (.getfield 12, 3) := by decide +kernel
theorem dX9_exact_23 : decode cX9_exact 23 = .ok (.invokevirtual 97, 3) := by decide +kernel
theorem dX9_exact_26 : decode cX9_exact 26 = .ok (.if_icmp .ge 91, 3) := by decide +kernel
theorem dX9_exact_29 : decode cX9_exact 29 = .ok (.aload_n 0, 1) := by decide +kernel
theorem dX9_exact_30 : decode cX9_exact 30 = .ok (.getfield 32, 3) := by decide +kernel
theorem dX9_exact_33 : decode cX9_exact 33 = .ok (.getfield 94, 3) := by decide +kernel
theorem dX9_exact_36 : decode cX9_exact 36 = .ok (.iload_n 2, 1) := by decide +kernel
theorem dX9_exact_37 : decode cX9_exact 37 = .ok (.invokevirtual 53, 3) := by decide +kernel
theorem dX9_exact_40 : decode cX9_exact 40 = .ok (.checkcast 57, 3) := by decide +kernel
theorem dX9_exact_43 : decode cX9_exact 43 = .ok (.astore_n 3, 1) := by decide +kernel
theorem dX9_exact_44 : decode cX9_exact 44 = .ok (.aload_n 3, 1) := by decide +kernel
theorem dX9_exact_45 : decode cX9_exact 45 = .ok (.invokevirtual 111, 3) := by decide +kernel
theorem dX9_exact_48 : decode cX9_exact 48 = .ok (.ifCond .eq 63, 3) := by decide +kernel
theorem dX9_exact_51 : decode cX9_exact 51 = .ok (.aload_n 3, 1) := by decide +kernel
theorem dX9_exact_52 : decode cX9_exact 52 = .ok (.invokevirtual 114, 3) := by decide +kernel
theorem dX9_exact_55 : decode cX9_exact 55 = .ok (.ifCond .eq 56, 3) := by decide +kernel
theorem dX9_exact_58 : decode cX9_exact 58 = .ok (.aload_n 0, 1) := by decide +kernel
theorem dX9_exact_59 : decode cX9_exact 59 = .ok (.aload_n 3, 1) := by decide +kernel
theorem dX9_exact_60 : decode cX9_exact 60 = .ok (.invokevirtual 107, 3) := by decide +kernel
theorem dX9_exact_63 : decode cX9_exact 63 = .ok (.ifCond .ne 48, 3) := by decide +kernel
theorem dX9_exact_66 : decode cX9_exact 66 = .ok (.aload_n 0, 1) := by decide +kernel
theorem dX9_exact_67 : decode cX9_exact 67 = .ok (.getfield 12, 3) := by decide +kernel
theorem dX9_exact_70 : decode cX9_exact 70 = .ok (.iload_n 1, 1) := by decide +kernel
theorem dX9_exact_71 : decode cX9_exact 71 = .ok (.invokevirtual 53, 3) := by decide +kernel
theorem dX9_exact_74 : decode cX9_exact 74 = .ok (.checkcast 57, 3) := by decide +kernel
theorem dX9_exact_77 : decode cX9_exact 77 = .ok (.dup, 1) := by decide +kernel
theorem dX9_exact_78 : decode cX9_exact 78 = .ok (.getfield 101, 3) := by decide +kernel
theorem dX9_exact_81 : decode cX9_exact 81 = .ok (.aload_n 3, 1) := by decide +kernel
theorem dX9_exact_82 : decode cX9_exact 82 = .ok (.iconst 5, 1) := by decide +kernel
theorem dX9_exact_83 : decode cX9_exact 83 = .ok (.invokevirtual 117, 3) := by decide +kernel
theorem dX9_exact_86 : decode cX9_exact 86 = .ok (.iadd, 1) := by decide +kernel
theorem dX9_exact_87 : decode cX9_exact 87 = .ok (.putfield 101, 3) := by decide +kernel
theorem dX9_exact_90 : decode cX9_exact 90 = .ok (.iload_n 1, 1) := by decide +kernel
theorem dX9_exact_91 : decode cX9_exact 91 = .ok (.iconst 1, 1) := by decide +kernel
theorem dX9_exact_92 : decode cX9_exact 92 = .ok (.iadd, 1) := by decide +kernel
theorem dX9_exact_93 : decode cX9_exact 93 = .ok (.aload_n 0, 1) := by decide +kernel
theorem dX9_exact_94 : decode cX9_exact 94 = .ok (.getfield 12, 3) := by decide +kernel
theorem dX9_exact_97 : decode cX9_exact 97 = .ok (.invokevirtual 97, 3) := by decide +kernel
theorem dX9_exact_100 : decode cX9_exact 100 = .ok (.if_icmp .ge 9, 3) := by decide +kernel
theorem dX9_exact_103 : decode cX9_exact 103 = .ok (.iload_n 1, 1) := by decide +kernel
theorem dX9_exact_104 : decode cX9_exact 104 = .ok (.iconst 1, 1) := by decide +kernel
theorem dX9_exact_105 : decode cX9_exact 105 = .ok (.iadd, 1) := by decide +kernel
theorem dX9_exact_106 : decode cX9_exact 106 = .ok (.goto 4, 3) := by decide +kernel
theorem dX9_exact_109 : decode cX9_exact 109 = .ok (.iconst 0, 1) := by decide +kernel
theorem dX9_exact_110 : decode cX9_exact 110 = .ok (.istore_n 1, 1) := by decide +kernel
theorem dX9_exact_111 : decode cX9_exact 111 = .ok (.iinc 2 1, 3) := by decide +kernel
theorem dX9_exact_114 : decode cX9_exact 114 = .ok (.goto (-110), 3) := by decide +kernel
theorem dX9_exact_117 : decode cX9_exact 117 = .ok (.return_, 1) := by decide +kernel
theorem dX9_revolt_0 : decode cX9_revolt 0 = .ok (.iconst 2, 1) := by decide +kernel
theorem dX9_revolt_1 : decode cX9_revolt 1 = .ok (.aload_n 0, 1) := by decide +kernel
theorem dX9_revolt_2 : decode cX9_revolt 2 = .ok (.getfield 32, 3) := by decide +kernel
theorem dX9_revolt_5 : decode cX9_revolt 5 = .ok (.iload_n 1, 1) := by decide +kernel
theorem dX9_revolt_6 : decode cX9_revolt 6 = .ok (.invokevirtual 121, 3) := by decide +kernel
theorem dX9_revolt_9 : decode cX9_revolt 9 = .ok (.imul, 1) := by decide +kernel
theorem dX9_revolt_10 : decode cX9_revolt 10 = .ok (.aload_n 0, 1) := by decide +kernel
theorem dX9_revolt_11 : decode cX9_revolt 11 = .ok (.getfield 32, 3) := by decide +kernel
theorem dX9_revolt_14 : decode cX9_revolt 14 = .ok (.invokevirtual 124, 3) := by decide +kernel
theorem dX9_revolt_17 : decode cX9_revolt 17 = .ok (.if_icmp .gt 10, 3) := by decide +kernel
theorem dX9_revolt_20 : decode cX9_revolt 20 = .ok (.aload_n 0, 1) := by decide +kernel
theorem dX9_revolt_21 : decode cX9_revolt 21 = .ok (.iload_n 1, 1) := by decide +kernel
theorem dX9_revolt_22 : decode cX9_revolt 22 = .ok (.invokevirtual 127, 3) := by decide +kernel
theorem dX9_revolt_25 : decode cX9_revolt 25 = .ok (.iconst 0, 1) := by decide +kernel
theorem dX9_revolt_26 : decode cX9_revolt 26 = .ok (.ireturn, 1) := by decide +kernel
theorem dX9_revolt_27 : decode cX9_revolt 27 = .ok (.aload_n 0, 1) := by decide +kernel
theorem dX9_revolt_28 : decode cX9_revolt 28 = .ok (.getfield 32, 3) := by decide +kernel
theorem dX9_revolt_31 : decode cX9_revolt 31 = .ok (.iconst 1, 1) := by decide +kernel
theorem dX9_revolt_32 : decode cX9_revolt 32 = .ok (.putfield 59, 3) := by decide +kernel
theorem dX9_revolt_35 : decode cX9_revolt 35 = .ok (.aload_n 0, 1) := by decide +kernel
theorem dX9_revolt_36 : decode cX9_revolt 36 = .ok (.getfield 32, 3) := by decide +kernel
theorem dX9_revolt_39 : decode cX9_revolt 39 = .ok (.iconst 0, 1) := by decide +kernel
theorem dX9_revolt_40 : decode cX9_revolt 40 = .ok (.putfield 66, 3) := by decide +kernel
theorem dX9_revolt_43 : decode cX9_revolt 43 = .ok (.aload_n 0, 1) := by decide +kernel
theorem dX9_revolt_44 : decode cX9_revolt 44 = .ok (.getfield 36, 3) := by decide +kernel
theorem dX9_revolt_47 : decode cX9_revolt 47 = .ok (.iload_n 1, 1) := by decide +kernel
theorem dX9_revolt_48 : decode cX9_revolt 48 = .ok (.invokevirtual 131, 3) := by decide +kernel
theorem dX9_revolt_51 : decode cX9_revolt 51 = .ok (.iload_n 2, 1) := by decide +kernel
theorem dX9_revolt_52 : decode cX9_revolt 52 = .ok (.ifCond .eq 10, 3) := by decide +kernel
theorem dX9_revolt_55 : decode cX9_revolt 55 = .ok (.aload_n 0, 1) := by decide +kernel
theorem dX9_revolt_56 : decode cX9_revolt 56 = .ok (.invokevirtual 134, 3) := by decide +kernel
theorem dX9_revolt_59 : decode cX9_revolt 59 = .ok (.goto 7, 3) := by decide +kernel
theorem dX9_revolt_62 : decode cX9_revolt 62 = .ok (.aload_n 0, 1) := by decide +kernel
theorem dX9_revolt_63 : decode cX9_revolt 63 = .ok (.invokevirtual 137, 3) := by decide +kernel
theorem dX9_revolt_66 : decode cX9_revolt 66 = .ok (.aload_n 0, 1) := by decide +kernel
theorem dX9_revolt_67 : decode cX9_revolt 67 = .ok (.getfield 12, 3) := by decide +kernel
theorem dX9_revolt_70 : decode cX9_revolt 70 = .ok (.invokevirtual 83, 3) := by decide +kernel
theorem dX9_revolt_73 : decode cX9_revolt 73 = .ok (.iconst 1, 1) := by decide +kernel
theorem dX9_revolt_74 : decode cX9_revolt 74 = .ok (.ireturn, 1) := by decide +kernel
theorem dX9_exileOneOf_0 : decode cX9_exileOneOf 0 = .ok (.aload_n 0, 1) := by decide +kernel
theorem dX9_exileOneOf_1 : decode cX9_exileOneOf 1 = .ok (.getfield 18, 3) := by decide +kernel
theorem dX9_exileOneOf_4 : decode cX9_exileOneOf 4 = .ok (.invokevirtual 83, 3) := by decide +kernel
theorem dX9_exileOneOf_7 : decode cX9_exileOneOf 7 = .ok (.iconst 0, 1) := by decide +kernel
theorem dX9_exileOneOf_8 : decode cX9_exileOneOf 8 = .ok (.istore_n 2, 1) := by decide +kernel
theorem dX9_exileOneOf_9 : decode cX9_exileOneOf 9 = .ok (.iload_n 2, 1) := by decide +kernel
theorem dX9_exileOneOf_10 : decode cX9_exileOneOf 10 = .ok (.aload_n 0, 1) := by decide +kernel
theorem dX9_exileOneOf_11 : decode cX9_exileOneOf 11 = .ok (.getfield 32, 3) := by decide +kernel
theorem dX9_exileOneOf_14 : decode cX9_exileOneOf 14 = .ok (.getfield 94, 3) := by decide +kernel
theorem dX9_exileOneOf_17 : decode cX9_exileOneOf 17 = .ok (.invokevirtual 97, 3) := by decide +kernel
theorem dX9_exileOneOf_20 : decode cX9_exileOneOf 20 = .ok (.if_icmp .ge 48, 3) := by decide +kernel
theorem dX9_exileOneOf_23 : decode cX9_exileOneOf 23 = .ok (.aload_n 0, 1) := by decide +kernel
theorem dX9_exileOneOf_24 : decode cX9_exileOneOf 24 = .ok (.getfield 32, 3) := by decide +kernel
theorem dX9_exileOneOf_27 : decode cX9_exileOneOf 27 = .ok (.getfield 94, 3) := by decide +kernel
theorem dX9_exileOneOf_30 : decode cX9_exileOneOf 30 = .ok (.iload_n 2, 1) := by decide +kernel
theorem dX9_exileOneOf_31 : decode cX9_exileOneOf 31 = .ok (.invokevirtual 53, 3) := by decide +kernel
theorem dX9_exileOneOf_34 : decode cX9_exileOneOf 34 = .ok (.checkcast 57, 3) := by decide +kernel
theorem dX9_exileOneOf_37 : decode cX9_exileOneOf 37 = .ok (.astore_n 3, 1) := by decide +kernel
theorem dX9_exileOneOf_38 : decode cX9_exileOneOf 38 = .ok (.aload_n 3, 1) := by decide +kernel
theorem dX9_exileOneOf_39 : decode cX9_exileOneOf 39 = .ok (.invokevirtual 104, 3) := by decide +kernel
theorem dX9_exileOneOf_42 : decode cX9_exileOneOf 42 = .ok (.ifCond .eq 20, 3) := by decide +kernel
theorem dX9_exileOneOf_45 : decode cX9_exileOneOf 45 = .ok (.aload_n 3, 1) := by decide +kernel
theorem dX9_exileOneOf_46 : decode cX9_exileOneOf 46 = .ok (.iload_n 1, 1) := by decide +kernel
theorem dX9_exileOneOf_47 : decode cX9_exileOneOf 47 = .ok (.invokevirtual 140, 3) := by decide +kernel
theorem dX9_exileOneOf_50 : decode cX9_exileOneOf 50 = .ok (.ifCond .eq 12, 3) := by decide +kernel
theorem dX9_exileOneOf_53 : decode cX9_exileOneOf 53 = .ok (.aload_n 0, 1) := by decide +kernel
theorem dX9_exileOneOf_54 : decode cX9_exileOneOf 54 = .ok (.getfield 18, 3) := by decide +kernel
theorem dX9_exileOneOf_57 : decode cX9_exileOneOf 57 = .ok (.aload_n 3, 1) := by decide +kernel
theorem dX9_exileOneOf_58 : decode cX9_exileOneOf 58 = .ok (.invokevirtual 90, 3) := by decide +kernel
theorem dX9_exileOneOf_61 : decode cX9_exileOneOf 61 = .ok (.pop, 1) := by decide +kernel
theorem dX9_exileOneOf_62 : decode cX9_exileOneOf 62 = .ok (.iinc 2 1, 3) := by decide +kernel
theorem dX9_exileOneOf_65 : decode cX9_exileOneOf 65 = .ok (.goto (-56), 3) := by decide +kernel
theorem dX9_exileOneOf_68 : decode cX9_exileOneOf 68 = .ok (.aload_n 0, 1) := by decide +kernel
theorem dX9_exileOneOf_69 : decode cX9_exileOneOf 69 = .ok (.getfield 32, 3) := by decide +kernel
theorem dX9_exileOneOf_72 : decode cX9_exileOneOf 72 = .ok (.getfield 144, 3) := by decide +kernel
theorem dX9_exileOneOf_75 : decode cX9_exileOneOf 75 = .ok (.aload_n 0, 1) := by decide +kernel
theorem dX9_exileOneOf_76 : decode cX9_exileOneOf 76 = .ok (.getfield 18, 3) := by decide +kernel
theorem dX9_exileOneOf_79 : decode cX9_exileOneOf 79 = .ok (.invokevirtual 148, 3) := by decide +kernel
theorem dX9_exileOneOf_82 : decode cX9_exileOneOf 82 = .ok (.astore_n 2, 1) := by decide +kernel
theorem dX9_exileOneOf_83 : decode cX9_exileOneOf 83 = .ok (.aload_n 2, 1) := by decide +kernel
theorem dX9_exileOneOf_84 : decode cX9_exileOneOf 84 = .ok (.ifnull 12, 3) := by decide +kernel
theorem dX9_exileOneOf_87 : decode cX9_exileOneOf 87 = .ok (.aload_n 0, 1) := by decide +kernel
theorem dX9_exileOneOf_88 : decode cX9_exileOneOf 88 = .ok (.getfield 32, 3) := by decide +kernel
theorem dX9_exileOneOf_91 : decode cX9_exileOneOf 91 = .ok (.aload_n 2, 1) := by decide +kernel
theorem dX9_exileOneOf_92 : decode cX9_exileOneOf 92 = .ok (.iconst 3, 1) := by decide +kernel
theorem dX9_exileOneOf_93 : decode cX9_exileOneOf 93 = .ok (.invokevirtual 154, 3) := by decide +kernel
theorem dX9_exileOneOf_96 : decode cX9_exileOneOf 96 = .ok (.return_, 1) := by decide +kernel
theorem dX9_swear_0 : decode cX9_swear 0 = .ok (.aload_n 0, 1) := by decide +kernel
theorem dX9_swear_1 : decode cX9_swear 1 = .ok (.aload_n 0, 1) := by decide +kernel
theorem dX9_swear_2 : decode cX9_swear 2 = .ok (.getfield 32, 3) := by decide +kernel
theorem dX9_swear_5 : decode cX9_swear 5 = .ok (.getfield 44, 3) := by decide +kernel
theorem dX9_swear_8 : decode cX9_swear 8 = .ok (.putfield 29, 3) := by decide +kernel
theorem dX9_swear_11 : decode cX9_swear 11 = .ok (.aload_n 0, 1) := by decide +kernel
theorem dX9_swear_12 : decode cX9_swear 12 = .ok (.getfield 40, 3) := by decide +kernel
theorem dX9_swear_15 : decode cX9_swear 15 = .ok (.invokevirtual 158, 3) := by decide +kernel
theorem dX9_swear_18 : decode cX9_swear 18 = .ok (.iconst 0, 1) := by decide +kernel
theorem dX9_swear_19 : decode cX9_swear 19 = .ok (.istore_n 1, 1) := by decide +kernel
theorem dX9_swear_20 : decode cX9_swear 20 = .ok (.iload_n 1, 1) := by decide +kernel
theorem dX9_swear_21 : decode cX9_swear 21 = .ok (.aload_n 0, 1) := by decide +kernel
theorem dX9_swear_22 : decode cX9_swear 22 = .ok (.getfield 32, 3) := by decide +kernel
theorem dX9_swear_25 : decode cX9_swear 25 = .ok (.getfield 94, 3) := by decide +kernel
theorem dX9_swear_28 : decode cX9_swear 28 = .ok (.invokevirtual 97, 3) := by decide +kernel
theorem dX9_swear_31 : decode cX9_swear 31 = .ok (.if_icmp .ge 27, 3) := by decide +kernel
theorem dX9_swear_34 : decode cX9_swear 34 = .ok (.aload_n 0, 1) := by decide +kernel
theorem dX9_swear_35 : decode cX9_swear 35 = .ok (.getfield 32, 3) := by decide +kernel
theorem dX9_swear_38 : decode cX9_swear 38 = .ok (.getfield 94, 3) := by decide +kernel
theorem dX9_swear_41 : decode cX9_swear 41 = .ok (.iload_n 1, 1) := by decide +kernel
theorem dX9_swear_42 : decode cX9_swear 42 = .ok (.invokevirtual 53, 3) := by decide +kernel
theorem dX9_swear_45 : decode cX9_swear 45 = .ok (.checkcast 57, 3) := by decide +kernel
theorem dX9_swear_48 : decode cX9_swear 48 = .ok (.iconst (-1), 1) := by decide +kernel
theorem dX9_swear_49 : decode cX9_swear 49 = .ok (.putfield 163, 3) := by decide +kernel
theorem dX9_swear_52 : decode cX9_swear 52 = .ok (.iinc 1 1, 3) := by decide +kernel
theorem dX9_swear_55 : decode cX9_swear 55 = .ok (.goto (-35), 3) := by decide +kernel
theorem dX9_swear_58 : decode cX9_swear 58 = .ok (.return_, 1) := by decide +kernel
theorem dX9_exileRulers_0 : decode cX9_exileRulers 0 = .ok (.iconst 0, 1) := by decide +kernel
theorem dX9_exileRulers_1 : decode cX9_exileRulers 1 = .ok (.istore_n 1, 1) := by decide +kernel
theorem dX9_exileRulers_2 : decode cX9_exileRulers 2 = .ok (.iload_n 1, 1) := by decide +kernel
theorem dX9_exileRulers_3 : decode cX9_exileRulers 3 = .ok (.aload_n 0, 1) := by decide +kernel
theorem dX9_exileRulers_4 : decode cX9_exileRulers 4 = .ok (.getfield 12, 3) := by decide +kernel
theorem dX9_exileRulers_7 : decode cX9_exileRulers 7 = .ok (.invokevirtual 97, 3) := by decide +kernel
theorem dX9_exileRulers_10 : decode cX9_exileRulers 10 = .ok (.if_icmp .ge 45, 3) := by decide +kernel
theorem dX9_exileRulers_13 : decode cX9_exileRulers 13 = .ok (.aload_n 0, 1) := by decide +kernel
theorem dX9_exileRulers_14 : decode cX9_exileRulers 14 = .ok (.getfield 12, 3) := by decide +kernel
theorem dX9_exileRulers_17 : decode cX9_exileRulers 17 = .ok (.iload_n 1, 1) := by decide +kernel
theorem dX9_exileRulers_18 : decode cX9_exileRulers 18 = .ok (.invokevirtual 53, 3) := by decide +kernel
theorem dX9_exileRulers_21 : decode cX9_exileRulers 21 = .ok (.checkcast 57, 3) := by decide +kernel
theorem dX9_exileRulers_24 : decode cX9_exileRulers 24 = .ok (.invokevirtual 111, 3) := by decide +kernel
theorem dX9_exileRulers_27 : decode cX9_exileRulers 27 = .ok (.ifCond .eq 22, 3) := by decide +kernel
theorem dX9_exileRulers_30 : decode cX9_exileRulers 30 = .ok (.aload_n 0, 1) := by decide +kernel
theorem dX9_exileRulers_31 : decode cX9_exileRulers 31 = .ok (.getfield 32, 3) := by decide +kernel
theorem dX9_exileRulers_34 : decode cX9_exileRulers 34 = .ok (.aload_n 0, 1) := by decide +kernel
theorem dX9_exileRulers_35 : decode cX9_exileRulers 35 = .ok (.getfield 12, 3) := by decide +kernel
theorem dX9_exileRulers_38 : decode cX9_exileRulers 38 = .ok (.iload_n 1, 1) := by decide +kernel
theorem dX9_exileRulers_39 : decode cX9_exileRulers 39 = .ok (.invokevirtual 53, 3) := by decide +kernel
theorem dX9_exileRulers_42 : decode cX9_exileRulers 42 = .ok (.checkcast 57, 3) := by decide +kernel
theorem dX9_exileRulers_45 : decode cX9_exileRulers 45 = .ok (.iconst 3, 1) := by decide +kernel
theorem dX9_exileRulers_46 : decode cX9_exileRulers 46 = .ok (.invokevirtual 154, 3) := by decide +kernel
theorem dX9_exileRulers_49 : decode cX9_exileRulers 49 = .ok (.iinc 1 1, 3) := by decide +kernel
theorem dX9_exileRulers_52 : decode cX9_exileRulers 52 = .ok (.goto (-50), 3) := by decide +kernel
theorem dX9_exileRulers_55 : decode cX9_exileRulers 55 = .ok (.return_, 1) := by decide +kernel
theorem dX9_fight_0 : decode cX9_fight 0 = .ok (.aload_n 0, 1) := by decide +kernel
theorem dX9_fight_1 : decode cX9_fight 1 = .ok (.aload_n 0, 1) := by decide +kernel
theorem dX9_fight_2 : decode cX9_fight 2 = .ok (.getfield 32, 3) := by decide +kernel
theorem dX9_fight_5 : decode cX9_fight 5 = .ok (.getfield 44, 3) := by decide +kernel
theorem dX9_fight_8 : decode cX9_fight 8 = .ok (.putfield 25, 3) := by decide +kernel
theorem dX9_fight_11 : decode cX9_fight 11 = .ok (.aload_n 0, 1) := by decide +kernel
theorem dX9_fight_12 : decode cX9_fight 12 = .ok (.iload_n 1, 1) := by decide +kernel
theorem dX9_fight_13 : decode cX9_fight 13 = .ok (.invokevirtual 166, 3) := by decide +kernel
theorem dX9_fight_16 : decode cX9_fight 16 = .ok (.istore_n 2, 1) := by decide +kernel
theorem dX9_fight_17 : decode cX9_fight 17 = .ok (.aload_n 0, 1) := by decide +kernel
theorem dX9_fight_18 : decode cX9_fight 18 = .ok (.getfield 32, 3) := by decide +kernel
theorem dX9_fight_21 : decode cX9_fight 21 = .ok (.dup, 1) := by decide +kernel
theorem dX9_fight_22 : decode cX9_fight 22 = .ok (.getfield 169, 3) := by decide +kernel
theorem dX9_fight_25 : decode cX9_fight 25 = .ok (.aload_n 0, 1) := by decide +kernel
theorem dX9_fight_26 : decode cX9_fight 26 = .ok (.getfield 32, 3) := by decide +kernel
theorem dX9_fight_29 : decode cX9_fight 29 = .ok (.getfield 169, 3) := by decide +kernel
theorem dX9_fight_32 : decode cX9_fight 32 = .ok (.iconst 2, 1) := by decide +kernel
theorem dX9_fight_33 : decode cX9_fight 33 = .ok (.idiv, 1) := by decide +kernel
theorem dX9_fight_34 : decode cX9_fight 34 = .ok (.isub, 1) := by decide +kernel
theorem dX9_fight_35 : decode cX9_fight 35 = .ok (.putfield 169, 3) := by decide +kernel
theorem dX9_fight_38 : decode cX9_fight 38 = .ok (.aload_n 0, 1) := by decide +kernel
theorem dX9_fight_39 : decode cX9_fight 39 = .ok (.getfield 32, 3) := by decide +kernel
theorem dX9_fight_42 : decode cX9_fight 42 = .ok (.getfield 172, 3) := by decide +kernel
theorem dX9_fight_45 : decode cX9_fight 45 = .ok (.aload_n 0, 1) := by decide +kernel
theorem dX9_fight_46 : decode cX9_fight 46 = .ok (.getfield 32, 3) := by decide +kernel
theorem dX9_fight_49 : decode cX9_fight 49 = .ok (.getfield 144, 3) := by decide +kernel
theorem dX9_fight_52 : decode cX9_fight 52 = .ok (.bipush 40, 2) := by decide +kernel
theorem dX9_fight_54 : decode cX9_fight 54 = .ok (.invokevirtual 175, 3) := by decide +kernel
theorem dX9_fight_57 : decode cX9_fight 57 = .ok (.iadd, 1) := by decide +kernel
theorem dX9_fight_58 : decode cX9_fight 58 = .ok (.istore_n 3, 1) := by decide +kernel
theorem dX9_fight_59 : decode cX9_fight 59 = .ok (.iload_n 2, 1) := by decide +kernel
theorem dX9_fight_60 : decode cX9_fight 60 = .ok (.iload_n 3, 1) := by decide +kernel
theorem dX9_fight_61 : decode cX9_fight 61 = .ok (.if_icmp .le 7, 3) := by decide +kernel
theorem dX9_fight_64 : decode cX9_fight 64 = .ok (.iconst 1, 1) := by decide +kernel
theorem dX9_fight_65 : decode cX9_fight 65 = .ok (.goto 4, 3) := by decide +kernel
theorem dX9_fight_68 : decode cX9_fight 68 = .ok (.iconst 0, 1) := by decide +kernel
theorem dX9_fight_69 : decode cX9_fight 69 = .ok (.istore 4, 2) := by decide +kernel
theorem dX9_fight_71 : decode cX9_fight 71 = .ok (.iload 4, 2) := by decide +kernel
theorem dX9_fight_73 : decode cX9_fight 73 = .ok (.ifCond .eq 36, 3) := by decide +kernel
theorem dX9_fight_76 : decode cX9_fight 76 = .ok (.aload_n 0, 1) := by decide +kernel
theorem dX9_fight_77 : decode cX9_fight 77 = .ok (.getfield 32, 3) := by decide +kernel
theorem dX9_fight_80 : decode cX9_fight 80 = .ok (.aload_n 0, 1) := by decide +kernel
theorem dX9_fight_81 : decode cX9_fight 81 = .ok (.getfield 32, 3) := by decide +kernel
theorem dX9_fight_84 : decode cX9_fight 84 = .ok (.getfield 172, 3) := by decide +kernel
theorem dX9_fight_87 : decode cX9_fight 87 = .ok (.invokevirtual 178, 3) := by decide +kernel
theorem dX9_fight_90 : decode cX9_fight 90 = .ok (.aload_n 0, 1) := by decide +kernel
theorem dX9_fight_91 : decode cX9_fight 91 = .ok (.getfield 32, 3) := by decide +kernel
theorem dX9_fight_94 : decode cX9_fight 94 = .ok (.iconst 2, 1) := by decide +kernel
theorem dX9_fight_95 : decode cX9_fight 95 = .ok (.invokevirtual 181, 3) := by decide +kernel
theorem dX9_fight_98 : decode cX9_fight 98 = .ok (.aload_n 0, 1) := by decide +kernel
theorem dX9_fight_99 : decode cX9_fight 99 = .ok (.getfield 32, 3) := by decide +kernel
theorem dX9_fight_102 : decode cX9_fight 102 = .ok (.iconst (-1), 1) := by decide +kernel
theorem dX9_fight_103 : decode cX9_fight 103 = .ok (.putfield 172, 3) := by decide +kernel
theorem dX9_fight_106 : decode cX9_fight 106 = .ok (.goto 37, 3) := by decide +kernel
theorem dX9_fight_109 : decode cX9_fight 109 = .ok (.aload_n 0, 1) := by decide +kernel
theorem dX9_fight_110 : decode cX9_fight 110 = .ok (.getfield 32, 3) := by decide +kernel
theorem dX9_fight_113 : decode cX9_fight 113 = .ok (.iconst 0, 1) := by decide +kernel
theorem dX9_fight_114 : decode cX9_fight 114 = .ok (.aload_n 0, 1) := by decide +kernel
theorem dX9_fight_115 : decode cX9_fight 115 = .ok (.getfield 32, 3) := by decide +kernel
theorem dX9_fight_118 : decode cX9_fight 118 = .ok (.getfield 172, 3) := by decide +kernel
theorem dX9_fight_121 : decode cX9_fight 121 = .ok (.bipush 10, 2) := by decide +kernel
theorem dX9_fight_123 : decode cX9_fight 123 = .ok (.isub, 1) := by decide +kernel
theorem dX9_fight_124 : decode cX9_fight 124 = .ok (.invokestatic 184, 3) := by decide +kernel
theorem dX9_fight_127 : decode cX9_fight 127 = .ok (.putfield 172, 3) := by decide +kernel
theorem dX9_fight_130 : decode cX9_fight 130 = .ok (.aload_n 0, 1) := by decide +kernel
theorem dX9_fight_131 : decode cX9_fight 131 = .ok (.getfield 32, 3) := by decide +kernel
theorem dX9_fight_134 : decode cX9_fight 134 = .ok (.dup, 1) := by decide +kernel
theorem dX9_fight_135 : decode cX9_fight 135 = .ok (.getfield 66, 3) := by decide +kernel
theorem dX9_fight_138 : decode cX9_fight 138 = .ok (.iconst 3, 1) := by decide +kernel
theorem dX9_fight_139 : decode cX9_fight 139 = .ok (.iadd, 1) := by decide +kernel
theorem dX9_fight_140 : decode cX9_fight 140 = .ok (.putfield 66, 3) := by decide +kernel
theorem dX9_fight_143 : decode cX9_fight 143 = .ok (.aload_n 0, 1) := by decide +kernel
theorem dX9_fight_144 : decode cX9_fight 144 = .ok (.iload 4, 2) := by decide +kernel
theorem dX9_fight_146 : decode cX9_fight 146 = .ok (.ifCond .eq 8, 3) := by decide +kernel
theorem dX9_fight_149 : decode cX9_fight 149 = .ok (.bipush 16, 2) := by decide +kernel
theorem dX9_fight_151 : decode cX9_fight 151 = .ok (.goto 5, 3) := by decide +kernel
theorem dX9_fight_154 : decode cX9_fight 154 = .ok (.bipush 8, 2) := by decide +kernel
theorem dX9_fight_156 : decode cX9_fight 156 = .ok (.invokevirtual 190, 3) := by decide +kernel
theorem dX9_fight_159 : decode cX9_fight 159 = .ok (.iload_n 2, 1) := by decide +kernel
theorem dX9_fight_160 : decode cX9_fight 160 = .ok (.iload_n 3, 1) := by decide +kernel
theorem dX9_fight_161 : decode cX9_fight 161 = .ok (.isub, 1) := by decide +kernel
theorem dX9_fight_162 : decode cX9_fight 162 = .ok (.ireturn, 1) := by decide +kernel
theorem dX9_mightOf_0 : decode cX9_mightOf 0 = .ok (.aload_n 0, 1) := by decide +kernel
theorem dX9_mightOf_1 : decode cX9_mightOf 1 = .ok (.getfield 18, 3) := by decide +kernel
theorem dX9_mightOf_4 : decode cX9_mightOf 4 = .ok (.invokevirtual 83, 3) := by decide +kernel
theorem dX9_mightOf_7 : decode cX9_mightOf 7 = .ok (.iconst 0, 1) := by decide +kernel
theorem dX9_mightOf_8 : decode cX9_mightOf 8 = .ok (.istore_n 2, 1) := by decide +kernel
theorem dX9_mightOf_9 : decode cX9_mightOf 9 = .ok (.iconst 0, 1) := by decide +kernel
theorem dX9_mightOf_10 : decode cX9_mightOf 10 = .ok (.istore_n 3, 1) := by decide +kernel
theorem dX9_mightOf_11 : decode cX9_mightOf 11 = .ok (.iconst 0, 1) := by decide +kernel
theorem dX9_mightOf_12 : decode cX9_mightOf 12 = .ok (.istore 4, 2) := by decide +kernel
theorem dX9_mightOf_14 : decode cX9_mightOf 14 = .ok (.iload 4, 2) := by decide +kernel
theorem dX9_mightOf_16 : decode cX9_mightOf 16 = .ok (.iconst 4, 1) := by decide +kernel
theorem dX9_mightOf_17 : decode cX9_mightOf 17 = .ok (.if_icmp .ge 40, 3) := by decide +kernel
theorem dX9_mightOf_20 : decode cX9_mightOf 20 = .ok (.iload_n 1, 1) := by decide +kernel
theorem dX9_mightOf_21 : decode cX9_mightOf 21 = .ok (.iload 4, 2) := by decide +kernel
theorem dX9_mightOf_23 : decode cX9_mightOf 23 = .ok (.ishr, 1) := by decide +kernel
theorem dX9_mightOf_24 : decode cX9_mightOf 24 = .ok (.iconst 1, 1) := by decide +kernel
theorem dX9_mightOf_25 : decode cX9_mightOf 25 = .ok (.iand, 1) := by decide +kernel
theorem dX9_mightOf_26 : decode cX9_mightOf 26 = .ok (.iconst 1, 1) := by decide +kernel
theorem dX9_mightOf_27 : decode cX9_mightOf 27 = .ok (.if_icmp .ne 24, 3) := by decide +kernel
theorem dX9_mightOf_30 : decode cX9_mightOf 30 = .ok (.iload_n 2, 1) := by decide +kernel
theorem dX9_mightOf_31 : decode cX9_mightOf 31 = .ok (.aload_n 0, 1) := by decide +kernel
theorem dX9_mightOf_32 : decode cX9_mightOf 32 = .ok (.iload 4, 2) := by decide +kernel
theorem dX9_mightOf_34 : decode cX9_mightOf 34 = .ok (.invokevirtual 193, 3) := by decide +kernel
theorem dX9_mightOf_37 : decode cX9_mightOf 37 = .ok (.iadd, 1) := by decide +kernel
theorem dX9_mightOf_38 : decode cX9_mightOf 38 = .ok (.istore_n 2, 1) := by decide +kernel
theorem dX9_mightOf_39 : decode cX9_mightOf 39 = .ok (.iload_n 3, 1) := by decide +kernel
theorem dX9_mightOf_40 : decode cX9_mightOf 40 = .ok (.aload_n 0, 1) := by decide +kernel
theorem dX9_mightOf_41 : decode cX9_mightOf 41 = .ok (.iload 4, 2) := by decide +kernel
theorem dX9_mightOf_43 : decode cX9_mightOf 43 = .ok (.invokevirtual 196, 3) := by decide +kernel
theorem dX9_mightOf_46 : decode cX9_mightOf 46 = .ok (.invokestatic 199, 3) := by decide +kernel
theorem dX9_mightOf_49 : decode cX9_mightOf 49 = .ok (.iadd, 1) := by decide +kernel
theorem dX9_mightOf_50 : decode cX9_mightOf 50 = .ok (.istore_n 3, 1) := by decide +kernel
theorem dX9_mightOf_51 : decode cX9_mightOf 51 = .ok (.iinc 4 1, 3) := by decide +kernel
theorem dX9_mightOf_54 : decode cX9_mightOf 54 = .ok (.goto (-40), 3) := by decide +kernel
theorem dX9_mightOf_57 : decode cX9_mightOf 57 = .ok (.iload_n 2, 1) := by decide +kernel
theorem dX9_mightOf_58 : decode cX9_mightOf 58 = .ok (.iconst 4, 1) := by decide +kernel
theorem dX9_mightOf_59 : decode cX9_mightOf 59 = .ok (.idiv, 1) := by decide +kernel
theorem dX9_mightOf_60 : decode cX9_mightOf 60 = .ok (.aload_n 0, 1) := by decide +kernel
theorem dX9_mightOf_61 : decode cX9_mightOf 61 = .ok (.getfield 32, 3) := by decide +kernel
theorem dX9_mightOf_64 : decode cX9_mightOf 64 = .ok (.getfield 203, 3) := by decide +kernel
theorem dX9_mightOf_67 : decode cX9_mightOf 67 = .ok (.invokestatic 206, 3) := by decide +kernel
theorem dX9_mightOf_70 : decode cX9_mightOf 70 = .ok (.istore 4, 2) := by decide +kernel
theorem dX9_mightOf_72 : decode cX9_mightOf 72 = .ok (.iconst 3, 1) := by decide +kernel
theorem dX9_mightOf_73 : decode cX9_mightOf 73 = .ok (.aload_n 0, 1) := by decide +kernel
theorem dX9_mightOf_74 : decode cX9_mightOf 74 = .ok (.getfield 18, 3) := by decide +kernel
theorem dX9_mightOf_77 : decode cX9_mightOf 77 = .ok (.invokevirtual 97, 3) := by decide +kernel
theorem dX9_mightOf_80 : decode cX9_mightOf 80 = .ok (.imul, 1) := by decide +kernel
theorem dX9_mightOf_81 : decode cX9_mightOf 81 = .ok (.iconst 5, 1) := by decide +kernel
theorem dX9_mightOf_82 : decode cX9_mightOf 82 = .ok (.iload_n 3, 1) := by decide +kernel
theorem dX9_mightOf_83 : decode cX9_mightOf 83 = .ok (.imul, 1) := by decide +kernel
theorem dX9_mightOf_84 : decode cX9_mightOf 84 = .ok (.iadd, 1) := by decide +kernel
theorem dX9_mightOf_85 : decode cX9_mightOf 85 = .ok (.bipush 10, 2) := by decide +kernel
theorem dX9_mightOf_87 : decode cX9_mightOf 87 = .ok (.iload 4, 2) := by decide +kernel
theorem dX9_mightOf_89 : decode cX9_mightOf 89 = .ok (.imul, 1) := by decide +kernel
theorem dX9_mightOf_90 : decode cX9_mightOf 90 = .ok (.iadd, 1) := by decide +kernel
theorem dX9_mightOf_91 : decode cX9_mightOf 91 = .ok (.aload_n 0, 1) := by decide +kernel
theorem dX9_mightOf_92 : decode cX9_mightOf 92 = .ok (.getfield 32, 3) := by decide +kernel
theorem dX9_mightOf_95 : decode cX9_mightOf 95 = .ok (.getfield 169, 3) := by decide +kernel
theorem dX9_mightOf_98 : decode cX9_mightOf 98 = .ok (.bipush 10, 2) := by decide +kernel
theorem dX9_mightOf_100 : decode cX9_mightOf 100 = .ok (.idiv, 1) := by decide +kernel
theorem dX9_mightOf_101 : decode cX9_mightOf 101 = .ok (.iadd, 1) := by decide +kernel
theorem dX9_mightOf_102 : decode cX9_mightOf 102 = .ok (.ireturn, 1) := by decide +kernel
theorem dX9_callUp_0 : decode cX9_callUp 0 = .ok (.iconst 0, 1) := by decide +kernel
theorem dX9_callUp_1 : decode cX9_callUp 1 = .ok (.istore_n 2, 1) := by decide +kernel
theorem dX9_callUp_2 : decode cX9_callUp 2 = .ok (.iconst 0, 1) := by decide +kernel
theorem dX9_callUp_3 : decode cX9_callUp 3 = .ok (.istore_n 3, 1) := by decide +kernel
theorem dX9_callUp_4 : decode cX9_callUp 4 = .ok (.iload_n 3, 1) := by decide +kernel
theorem dX9_callUp_5 : decode cX9_callUp 5 = .ok (.aload_n 0, 1) := by decide +kernel
theorem dX9_callUp_6 : decode cX9_callUp 6 = .ok (.getfield 32, 3) := by decide +kernel
theorem dX9_callUp_9 : decode cX9_callUp 9 = .ok (.getfield 94, 3) := by decide +kernel
theorem dX9_callUp_12 : decode cX9_callUp 12 = .ok (.invokevirtual 97, 3) := by decide +kernel
theorem dX9_callUp_15 : decode cX9_callUp 15 = .ok (.if_icmp .ge 81, 3) := by decide +kernel
theorem dX9_callUp_18 : decode cX9_callUp 18 = .ok (.aload_n 0, 1) := by decide +kernel
theorem dX9_callUp_19 : decode cX9_callUp 19 = .ok (.getfield 32, 3) := by decide +kernel
theorem dX9_callUp_22 : decode cX9_callUp 22 = .ok (.getfield 94, 3) := by decide +kernel
theorem dX9_callUp_25 : decode cX9_callUp 25 = .ok (.iload_n 3, 1) := by decide +kernel
theorem dX9_callUp_26 : decode cX9_callUp 26 = .ok (.invokevirtual 53, 3) := by decide +kernel
theorem dX9_callUp_29 : decode cX9_callUp 29 = .ok (.checkcast 57, 3) := by decide +kernel
theorem dX9_callUp_32 : decode cX9_callUp 32 = .ok (.astore 4, 2) := by decide +kernel
theorem dX9_callUp_34 : decode cX9_callUp 34 = .ok (.aload 4, 2) := by decide +kernel
theorem dX9_callUp_36 : decode cX9_callUp 36 = .ok (.invokevirtual 104, 3) := by decide +kernel
theorem dX9_callUp_39 : decode cX9_callUp 39 = .ok (.ifCond .eq 51, 3) := by decide +kernel
theorem dX9_callUp_42 : decode cX9_callUp 42 = .ok (.aload 4, 2) := by decide +kernel
theorem dX9_callUp_44 : decode cX9_callUp 44 = .ok (.invokevirtual 209, 3) := by decide +kernel
theorem dX9_callUp_47 : decode cX9_callUp 47 = .ok (.iload_n 1, 1) := by decide +kernel
theorem dX9_callUp_48 : decode cX9_callUp 48 = .ok (.if_icmp .ne 42, 3) := by decide +kernel
theorem dX9_callUp_51 : decode cX9_callUp 51 = .ok (.aload 4, 2) := by decide +kernel
theorem dX9_callUp_53 : decode cX9_callUp 53 = .ok (.getfield 212, 3) := by decide +kernel
theorem dX9_callUp_56 : decode cX9_callUp 56 = .ok (.bipush 18, 2) := by decide +kernel
theorem dX9_callUp_58 : decode cX9_callUp 58 = .ok (.bipush 59, 2) := by decide +kernel
theorem dX9_callUp_60 : decode cX9_callUp 60 = .ok (.invokestatic 215, 3) := by decide +kernel
theorem dX9_callUp_63 : decode cX9_callUp 63 = .ok (.ifCond .eq 27, 3) := by decide +kernel
theorem dX9_callUp_66 : decode cX9_callUp 66 = .ok (.aload 4, 2) := by decide +kernel
theorem dX9_callUp_68 : decode cX9_callUp 68 = .ok (.invokevirtual 219, 3) := by decide +kernel
theorem dX9_callUp_71 : decode cX9_callUp 71 = .ok (.ifCond .ne 9, 3) := by decide +kernel
theorem dX9_callUp_74 : decode cX9_callUp 74 = .ok (.iinc 2 1, 3) := by decide +kernel
theorem dX9_callUp_77 : decode cX9_callUp 77 = .ok (.goto 13, 3) := by decide +kernel
theorem dX9_callUp_80 : decode cX9_callUp 80 = .ok (.aload_n 0, 1) := by decide +kernel
theorem dX9_callUp_81 : decode cX9_callUp 81 = .ok (.getfield 18, 3) := by decide +kernel
theorem dX9_callUp_84 : decode cX9_callUp 84 = .ok (.aload 4, 2) := by decide +kernel
theorem dX9_callUp_86 : decode cX9_callUp 86 = .ok (.invokevirtual 90, 3) := by decide +kernel
theorem dX9_callUp_89 : decode cX9_callUp 89 = .ok (.pop, 1) := by decide +kernel
theorem dX9_callUp_90 : decode cX9_callUp 90 = .ok (.iinc 3 1, 3) := by decide +kernel
theorem dX9_callUp_93 : decode cX9_callUp 93 = .ok (.goto (-89), 3) := by decide +kernel
theorem dX9_callUp_96 : decode cX9_callUp 96 = .ok (.iload_n 2, 1) := by decide +kernel
theorem dX9_callUp_97 : decode cX9_callUp 97 = .ok (.ireturn, 1) := by decide +kernel
theorem dX9_hasGeneral_0 : decode cX9_hasGeneral 0 = .ok (.iload_n 1, 1) := by decide +kernel
theorem dX9_hasGeneral_1 : decode cX9_hasGeneral 1 = .ok (.invokestatic 222, 3) := by decide +kernel
theorem dX9_hasGeneral_4 : decode cX9_hasGeneral 4 = .ok (.istore_n 2, 1) := by decide +kernel
theorem dX9_hasGeneral_5 : decode cX9_hasGeneral 5 = .ok (.iload_n 2, 1) := by decide +kernel
theorem dX9_hasGeneral_6 : decode cX9_hasGeneral 6 = .ok (.iconst 0, 1) := by decide +kernel
theorem dX9_hasGeneral_7 : decode cX9_hasGeneral 7 = .ok (.aload_n 0, 1) := by decide +kernel
theorem dX9_hasGeneral_8 : decode cX9_hasGeneral 8 = .ok (.getfield 32, 3) := by decide +kernel
theorem dX9_hasGeneral_11 : decode cX9_hasGeneral 11 = .ok (.getfield 227, 3) := by decide +kernel
theorem dX9_hasGeneral_14 : decode cX9_hasGeneral 14 = .ok (.invokevirtual 97, 3) := by decide +kernel
theorem dX9_hasGeneral_17 : decode cX9_hasGeneral 17 = .ok (.iconst 1, 1) := by decide +kernel
theorem dX9_hasGeneral_18 : decode cX9_hasGeneral 18 = .ok (.isub, 1) := by decide +kernel
theorem dX9_hasGeneral_19 : decode cX9_hasGeneral 19 = .ok (.invokestatic 215, 3) := by decide +kernel
theorem dX9_hasGeneral_22 : decode cX9_hasGeneral 22 = .ok (.ifCond .eq 27, 3) := by decide +kernel
theorem dX9_hasGeneral_25 : decode cX9_hasGeneral 25 = .ok (.aload_n 0, 1) := by decide +kernel
theorem dX9_hasGeneral_26 : decode cX9_hasGeneral 26 = .ok (.getfield 32, 3) := by decide +kernel
theorem dX9_hasGeneral_29 : decode cX9_hasGeneral 29 = .ok (.getfield 227, 3) := by decide +kernel
theorem dX9_hasGeneral_32 : decode cX9_hasGeneral 32 = .ok (.iload_n 2, 1) := by decide +kernel
theorem dX9_hasGeneral_33 : decode cX9_hasGeneral 33 = .ok (.invokevirtual 53, 3) := by decide +kernel
theorem dX9_hasGeneral_36 : decode cX9_hasGeneral 36 = .ok (.checkcast 223, 3) := by decide +kernel
theorem dX9_hasGeneral_39 : decode cX9_hasGeneral 39 = .ok (.getfield 230, 3) := by decide +kernel
theorem dX9_hasGeneral_42 : decode cX9_hasGeneral 42 = .ok (.ifnull 7, 3) := by decide +kernel
theorem dX9_hasGeneral_45 : decode cX9_hasGeneral 45 = .ok (.iconst 1, 1) := by decide +kernel
theorem dX9_hasGeneral_46 : decode cX9_hasGeneral 46 = .ok (.goto 4, 3) := by decide +kernel
theorem dX9_hasGeneral_49 : decode cX9_hasGeneral 49 = .ok (.iconst 0, 1) := by decide +kernel
theorem dX9_hasGeneral_50 : decode cX9_hasGeneral 50 = .ok (.ireturn, 1) := by decide +kernel
theorem dX9_buryFallen_0 : decode cX9_buryFallen 0 = .ok (.iconst 0, 1) := by decide +kernel
theorem dX9_buryFallen_1 : decode cX9_buryFallen 1 = .ok (.istore_n 2, 1) := by decide +kernel
theorem dX9_buryFallen_2 : decode cX9_buryFallen 2 = .ok (.iload_n 2, 1) := by decide +kernel
theorem dX9_buryFallen_3 : decode cX9_buryFallen 3 = .ok (.aload_n 0, 1) := by decide +kernel
theorem dX9_buryFallen_4 : decode cX9_buryFallen 4 = .ok (.getfield 18, 3) := by decide +kernel
theorem dX9_buryFallen_7 : decode cX9_buryFallen 7 = .ok (.invokevirtual 97, 3) := by decide +kernel
theorem dX9_buryFallen_10 : decode cX9_buryFallen 10 = .ok (.if_icmp .ge 56, 3) := by decide +kernel
theorem dX9_buryFallen_13 : decode cX9_buryFallen 13 = .ok (.aload_n 0, 1) := by decide +kernel
theorem dX9_buryFallen_14 : decode cX9_buryFallen 14 = .ok (.getfield 18, 3) := by decide +kernel
theorem dX9_buryFallen_17 : decode cX9_buryFallen 17 = .ok (.iload_n 2, 1) := by decide +kernel
theorem dX9_buryFallen_18 : decode cX9_buryFallen 18 = .ok (.invokevirtual 53, 3) := by decide +kernel
theorem dX9_buryFallen_21 : decode cX9_buryFallen 21 = .ok (.checkcast 57, 3) := by decide +kernel
theorem dX9_buryFallen_24 : decode cX9_buryFallen 24 = .ok (.astore_n 3, 1) := by decide +kernel
theorem dX9_buryFallen_25 : decode cX9_buryFallen 25 = .ok (.aload_n 0, 1) := by decide +kernel
theorem dX9_buryFallen_26 : decode cX9_buryFallen 26 = .ok (.getfield 32, 3) := by decide +kernel
theorem dX9_buryFallen_29 : decode cX9_buryFallen 29 = .ok (.getfield 144, 3) := by decide +kernel
theorem dX9_buryFallen_32 : decode cX9_buryFallen 32 = .ok (.iload_n 1, 1) := by decide +kernel
theorem dX9_buryFallen_33 : decode cX9_buryFallen 33 = .ok (.invokevirtual 175, 3) := by decide +kernel
theorem dX9_buryFallen_36 : decode cX9_buryFallen 36 = .ok (.ifCond .ne 24, 3) := by decide +kernel
theorem dX9_buryFallen_39 : decode cX9_buryFallen 39 = .ok (.aload_n 0, 1) := by decide +kernel
theorem dX9_buryFallen_40 : decode cX9_buryFallen 40 = .ok (.getfield 32, 3) := by decide +kernel
theorem dX9_buryFallen_43 : decode cX9_buryFallen 43 = .ok (.aload_n 3, 1) := by decide +kernel
theorem dX9_buryFallen_44 : decode cX9_buryFallen 44 = .ok (.iconst 4, 1) := by decide +kernel
theorem dX9_buryFallen_45 : decode cX9_buryFallen 45 = .ok (.invokevirtual 154, 3) := by decide +kernel
theorem dX9_buryFallen_48 : decode cX9_buryFallen 48 = .ok (.aload_n 0, 1) := by decide +kernel
theorem dX9_buryFallen_49 : decode cX9_buryFallen 49 = .ok (.getfield 21, 3) := by decide +kernel
theorem dX9_buryFallen_52 : decode cX9_buryFallen 52 = .ok (.aload_n 3, 1) := by decide +kernel
theorem dX9_buryFallen_53 : decode cX9_buryFallen 53 = .ok (.invokevirtual 209, 3) := by decide +kernel
theorem dX9_buryFallen_56 : decode cX9_buryFallen 56 = .ok (.iconst 1, 1) := by decide +kernel
theorem dX9_buryFallen_57 : decode cX9_buryFallen 57 = .ok (.invokestatic 234, 3) := by decide +kernel
theorem dX9_buryFallen_60 : decode cX9_buryFallen 60 = .ok (.iinc 2 1, 3) := by decide +kernel
theorem dX9_buryFallen_63 : decode cX9_buryFallen 63 = .ok (.goto (-61), 3) := by decide +kernel
theorem dX9_buryFallen_66 : decode cX9_buryFallen 66 = .ok (.return_, 1) := by decide +kernel
theorem dX10_init_0 : decode cX10_init 0 = .ok (.aload_n 0, 1) := by decide +kernel
theorem dX10_init_1 : decode cX10_init 1 = .ok (.invokespecial 1, 3) := by decide +kernel
theorem dX10_init_4 : decode cX10_init 4 = .ok (.aload_n 0, 1) := by decide +kernel
theorem dX10_init_5 : decode cX10_init 5 = .ok (.iconst 0, 1) := by decide +kernel
theorem dX10_init_6 : decode cX10_init 6 = .ok (.putfield 7, 3) := by decide +kernel
theorem dX10_init_9 : decode cX10_init 9 = .ok (.aload_n 0, 1) := by decide +kernel
theorem dX10_init_10 : decode cX10_init 10 = .ok (.aload_n 1, 1) := by decide +kernel
theorem dX10_init_11 : decode cX10_init 11 = .ok (.putfield 13, 3) := by decide +kernel
theorem dX10_init_14 : decode cX10_init 14 = .ok (.aload_n 0, 1) := by decide +kernel
theorem dX10_init_15 : decode cX10_init 15 = .ok (.aload_n 2, 1) := by decide +kernel
theorem dX10_init_16 : decode cX10_init 16 = .ok (.putfield 17, 3) := by decide +kernel
theorem dX10_init_19 : decode cX10_init 19 = .ok (.aload_n 0, 1) := by decide +kernel
theorem dX10_init_20 : decode cX10_init 20 = .ok (.iload_n 3, 1) := by decide +kernel
theorem dX10_init_21 : decode cX10_init 21 = .ok (.putfield 20, 3) := by decide +kernel
theorem dX10_init_24 : decode cX10_init 24 = .ok (.aload_n 0, 1) := by decide +kernel
theorem dX10_init_25 : decode cX10_init 25 = .ok (.iload 4, 2) := by decide +kernel
theorem dX10_init_27 : decode cX10_init 27 = .ok (.putfield 24, 3) := by decide +kernel
theorem dX10_init_30 : decode cX10_init 30 = .ok (.aload_n 0, 1) := by decide +kernel
theorem dX10_init_31 : decode cX10_init 31 = .ok (.iload 5, 2) := by decide +kernel
theorem dX10_init_33 : decode cX10_init 33 = .ok (.putfield 27, 3) := by decide +kernel
theorem dX10_init_36 : decode cX10_init 36 = .ok (.aload_n 0, 1) := by decide +kernel
theorem dX10_init_37 : decode cX10_init 37 = .ok (.aload 6, 2) := by decide +kernel
theorem dX10_init_39 : decode cX10_init 39 = .ok (.putfield 30, 3) := by decide +kernel
theorem dX10_init_42 : decode cX10_init 42 = .ok (.return_, 1) := by decide +kernel
theorem dX10_isPrivate_0 : decode cX10_isPrivate 0 = .ok (.aload_n 0, 1) := by decide +kernel
theorem dX10_isPrivate_1 : decode cX10_isPrivate 1 = .ok (.getfield 20, 3) := by decide +kernel
theorem dX10_isPrivate_4 : decode cX10_isPrivate 4 = .ok (.ifCond .ne 7, 3) := by decide +kernel
theorem dX10_isPrivate_7 : decode cX10_isPrivate 7 = .ok (.iconst 1, 1) := by decide +kernel
theorem dX10_isPrivate_8 : decode cX10_isPrivate 8 = .ok (.goto 4, 3) := by decide +kernel
theorem dX10_isPrivate_11 : decode cX10_isPrivate 11 = .ok (.iconst 0, 1) := by decide +kernel
theorem dX10_isPrivate_12 : decode cX10_isPrivate 12 = .ok (.ireturn, 1) := by decide +kernel
theorem dX10_water_0 : decode cX10_water 0 = .ok (.aload_n 0, 1) := by decide +kernel
theorem dX10_water_1 : decode cX10_water 1 = .ok (.invokevirtual 34, 3) := by decide +kernel
theorem dX10_water_4 : decode cX10_water 4 = .ok (.ifCond .eq 15, 3) := by decide +kernel
theorem dX10_water_7 : decode cX10_water 7 = .ok (.iconst 4, 1) := by decide +kernel
theorem dX10_water_8 : decode cX10_water 8 = .ok (.aload_n 0, 1) := by decide +kernel
theorem dX10_water_9 : decode cX10_water 9 = .ok (.getfield 24, 3) := by decide +kernel
theorem dX10_water_12 : decode cX10_water 12 = .ok (.bipush 10, 2) := by decide +kernel
theorem dX10_water_14 : decode cX10_water 14 = .ok (.idiv, 1) := by decide +kernel
theorem dX10_water_15 : decode cX10_water 15 = .ok (.iadd, 1) := by decide +kernel
theorem dX10_water_16 : decode cX10_water 16 = .ok (.goto 5, 3) := by decide +kernel
theorem dX10_water_19 : decode cX10_water 19 = .ok (.bipush 20, 2) := by decide +kernel
theorem dX10_water_21 : decode cX10_water 21 = .ok (.ireturn, 1) := by decide +kernel
theorem dX10_isMoot_0 : decode cX10_isMoot 0 = .ok (.aload_n 0, 1) := by decide +kernel
theorem dX10_isMoot_1 : decode cX10_isMoot 1 = .ok (.getfield 13, 3) := by decide +kernel
theorem dX10_isMoot_4 : decode cX10_isMoot 4 = .ok (.invokevirtual 38, 3) := by decide +kernel
theorem dX10_isMoot_7 : decode cX10_isMoot 7 = .ok (.ifCond .ne 30, 3) := by decide +kernel
theorem dX10_isMoot_10 : decode cX10_isMoot 10 = .ok (.aload_n 0, 1) := by decide +kernel
theorem dX10_isMoot_11 : decode cX10_isMoot 11 = .ok (.getfield 17, 3) := by decide +kernel
theorem dX10_isMoot_14 : decode cX10_isMoot 14 = .ok (.invokevirtual 38, 3) := by decide +kernel
theorem dX10_isMoot_17 : decode cX10_isMoot 17 = .ok (.ifCond .ne 20, 3) := by decide +kernel
theorem dX10_isMoot_20 : decode cX10_isMoot 20 = .ok (.aload_n 0, 1) := by decide +kernel
theorem dX10_isMoot_21 : decode cX10_isMoot 21 = .ok (.getfield 30, 3) := by decide +kernel
theorem dX10_isMoot_24 : decode cX10_isMoot 24 = .ok (.ifnull 17, 3) := by decide +kernel
theorem dX10_isMoot_27 : decode cX10_isMoot 27 = .ok (.aload_n 0, 1) := by decide +kernel
theorem dX10_isMoot_28 : decode cX10_isMoot 28 = .ok (.getfield 30, 3) := by decide +kernel
theorem dX10_isMoot_31 : decode cX10_isMoot 31 = .ok (.getfield 43, 3) := by decide +kernel
theorem dX10_isMoot_34 : decode cX10_isMoot 34 = .ok (.ifCond .ne 7, 3) := by decide +kernel
theorem dX10_isMoot_37 : decode cX10_isMoot 37 = .ok (.iconst 1, 1) := by decide +kernel
theorem dX10_isMoot_38 : decode cX10_isMoot 38 = .ok (.goto 4, 3) := by decide +kernel
theorem dX10_isMoot_41 : decode cX10_isMoot 41 = .ok (.iconst 0, 1) := by decide +kernel
theorem dX10_isMoot_42 : decode cX10_isMoot 42 = .ok (.ireturn, 1) := by decide +kernel
theorem dX11_init_0 : decode cX11_init 0 = .ok (.aload_n 0, 1) := by decide +kernel
theorem dX11_init_1 : decode cX11_init 1 = .ok (.invokespecial 1, 3) := by decide +kernel
theorem dX11_init_4 : decode cX11_init 4 = .ok (.aload_n 0, 1) := by decide +kernel
theorem dX11_init_5 : decode cX11_init 5 = .ok (.new 7, 3) := by decide +kernel
theorem dX11_init_8 : decode cX11_init 8 = .ok (.dup, 1) := by decide +kernel
theorem dX11_init_9 : decode cX11_init 9 = .ok (.invokespecial 9, 3) := by decide +kernel
theorem dX11_init_12 : decode cX11_init 12 = .ok (.putfield 10, 3) := by decide +kernel
theorem dX11_init_15 : decode cX11_init 15 = .ok (.aload_n 0, 1) := by decide +kernel
theorem dX11_init_16 : decode cX11_init 16 = .ok (.new 16, 3) := by decide +kernel
theorem dX11_init_19 : decode cX11_init 19 = .ok (.dup, 1) := by decide +kernel
theorem dX11_init_20 : decode cX11_init 20 = .ok (.aload_n 0, 1) := by decide +kernel
theorem dX11_init_21 : decode cX11_init 21 = .ok (.getfield 10, 3) := by decide +kernel
theorem dX11_init_24 : decode cX11_init 24 = .ok (.invokespecial 18, 3) := by decide +kernel
theorem dX11_init_27 : decode cX11_init 27 = .ok (.putfield 21, 3) := by decide +kernel
theorem dX11_init_30 : decode cX11_init 30 = .ok (.aload_n 0, 1) := by decide +kernel
theorem dX11_init_31 : decode cX11_init 31 = .ok (.new 25, 3) := by decide +kernel
theorem dX11_init_34 : decode cX11_init 34 = .ok (.dup, 1) := by decide +kernel
theorem dX11_init_35 : decode cX11_init 35 = .ok (.aload_n 0, 1) := by decide +kernel
theorem dX11_init_36 : decode cX11_init 36 = .ok (.getfield 10, 3) := by decide +kernel
theorem dX11_init_39 : decode cX11_init 39 = .ok (.invokespecial 27, 3) := by decide +kernel
theorem dX11_init_42 : decode cX11_init 42 = .ok (.putfield 28, 3) := by decide +kernel
theorem dX11_init_45 : decode cX11_init 45 = .ok (.aload_n 0, 1) := by decide +kernel
theorem dX11_init_46 : decode cX11_init 46 = .ok (.new 32, 3) := by decide +kernel
theorem dX11_init_49 : decode cX11_init 49 = .ok (.dup, 1) := by decide +kernel
theorem dX11_init_50 : decode cX11_init 50 = .ok (.aload_n 0, 1) := by decide +kernel
theorem dX11_init_51 : decode cX11_init 51 = .ok (.getfield 10, 3) := by decide +kernel
theorem dX11_init_54 : decode cX11_init 54 = .ok (.aload_n 0, 1) := by decide +kernel
theorem dX11_init_55 : decode cX11_init 55 = .ok (.getfield 28, 3) := by decide +kernel
theorem dX11_init_58 : decode cX11_init 58 = .ok (.invokespecial 34, 3) := by decide +kernel
theorem dX11_init_61 : decode cX11_init 61 = .ok (.putfield 37, 3) := by decide +kernel
theorem dX11_init_64 : decode cX11_init 64 = .ok (.aload_n 0, 1) := by decide +kernel
theorem dX11_init_65 : decode cX11_init 65 = .ok (.new 41, 3) := by decide +kernel
theorem dX11_init_68 : decode cX11_init 68 = .ok (.dup, 1) := by decide +kernel
theorem dX11_init_69 : decode cX11_init 69 = .ok (.aload_n 0, 1) := by decide +kernel
theorem dX11_init_70 : decode cX11_init 70 = .ok (.getfield 10, 3) := by decide +kernel
theorem dX11_init_73 : decode cX11_init 73 = .ok (.invokespecial 43, 3) := by decide +kernel
theorem dX11_init_76 : decode cX11_init 76 = .ok (.putfield 44, 3) := by decide +kernel
theorem dX11_init_79 : decode cX11_init 79 = .ok (.aload_n 0, 1) := by decide +kernel
theorem dX11_init_80 : decode cX11_init 80 = .ok (.new 48, 3) := by decide +kernel
theorem dX11_init_83 : decode cX11_init 83 = .ok (.dup, 1) := by decide +kernel
theorem dX11_init_84 : decode cX11_init 84 = .ok (.aload_n 0, 1) := by decide +kernel
theorem dX11_init_85 : decode cX11_init 85 = .ok (.getfield 10, 3) := by decide +kernel
theorem dX11_init_88 : decode cX11_init 88 = .ok (.aload_n 0, 1) := by decide +kernel
theorem dX11_init_89 : decode cX11_init 89 = .ok (.getfield 37, 3) := by decide +kernel
theorem dX11_init_92 : decode cX11_init 92 = .ok (.aload_n 0, 1) := by decide +kernel
theorem dX11_init_93 : decode cX11_init 93 = .ok (.getfield 28, 3) := by decide +kernel
theorem dX11_init_96 : decode cX11_init 96 = .ok (.invokespecial 50, 3) := by decide +kernel
theorem dX11_init_99 : decode cX11_init 99 = .ok (.putfield 53, 3) := by decide +kernel
theorem dX11_init_102 : decode cX11_init 102 = .ok (.aload_n 0, 1) := by decide +kernel
theorem dX11_init_103 : decode cX11_init 103 = .ok (.iconst 0, 1) := by decide +kernel
theorem dX11_init_104 : decode cX11_init 104 = .ok (.putfield 57, 3) := by decide +kernel
theorem dX11_init_107 : decode cX11_init 107 = .ok (.return_, 1) := by decide +kernel
theorem dX11_found_0 : decode cX11_found 0 = .ok (.iload_n 1, 1) := by decide +kernel
theorem dX11_found_1 : decode cX11_found 1 = .ok (.iconst 1, 1) := by decide +kernel
theorem dX11_found_2 : decode cX11_found 2 = .ok (.bipush 40, 2) := by decide +kernel
theorem dX11_found_4 : decode cX11_found 4 = .ok (.invokestatic 61, 3) := by decide +kernel
theorem dX11_found_7 : decode cX11_found 7 = .ok (.ifCond .eq 13, 3) := by decide +kernel
theorem dX11_found_10 : decode cX11_found 10 = .ok (.iload_n 2, 1) := by decide +kernel
theorem dX11_found_11 : decode cX11_found 11 = .ok (.iconst 0, 1) := by decide +kernel
theorem dX11_found_12 : decode cX11_found 12 = .ok (.bipush 99, 2) := by decide +kernel
theorem dX11_found_14 : decode cX11_found 14 = .ok (.invokestatic 61, 3) := by decide +kernel
theorem dX11_found_17 : decode cX11_found 17 = .ok (.ifCond .ne 11, 3) := by decide +kernel
theorem dX11_found_20 : decode cX11_found 20 = .ok (.new 65, 3) := by decide +kernel
theorem dX11_found_23 : decode cX11_found 23 = .ok (.dup, 1) := by decide +kernel
theorem dX11_found_24 : decode cX11_found 24 = .ok (.invokespecial 67, 3) := by decide +kernel
theorem dX11_found_27 : decode cX11_found 27 = .ok (.athrow, 1) := by decide +kernel
theorem dX11_found_28 : decode cX11_found 28 = .ok (.aload_n 0, 1) := by decide +kernel
theorem dX11_found_29 : decode cX11_found 29 = .ok (.getfield 10, 3) := by decide +kernel
theorem dX11_found_32 : decode cX11_found 32 = .ok (.getfield 72, 3) := by decide +kernel
theorem dX11_found_35 : decode cX11_found 35 = .ok (.invokevirtual 76, 3) := by decide +kernel
theorem dX11_found_38 : decode cX11_found 38 = .ok (.iload_n 1, 1) := by decide +kernel
